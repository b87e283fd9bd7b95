set_option maxHeartbeats 4000000 in
set_option maxRecDepth 100000 in
theorem c_X7_trail (l : Launch) (D : va_G) (cy : Nat → ClassId) (sz : Nat) (a : Nat → Nat) (R : Nat → Int → Int) (t w : Int) (hI : Inv (R 1)) (hrt : -2147483648 ≤ t ∧ t ≤ 2147483647) (hrw : -2147483648 ≤ w ∧ w ≤ 2147483647) : Met l yX7_trail wsX7_trail { frames := 8, cells := 0, slots := 0, locals := 174 } (mPre (GG D cy) D (rfW cy a R) sz ([.ref (a 0), .int (iI t), .int (iI w)] : List Value)) (kQi D (rfW cy a R) sz (fun u9 : Nat → Int → Int => rfW cy a u9) (fun r9 u9 => ((¬ (0 ≤ t ∧ t < R 1 12)) ∧ r9 = 0 ∧ u9 = (upr R 0 (ups (R 0) 6 1))) ∨ (((0 ≤ t ∧ t < R 1 12) ∧ ¬ (0 ≤ w ∧ w ≤ 8)) ∧ r9 = 0 ∧ u9 = (upr R 0 (ups (R 0) 6 2))) ∨ (∃ (zs : Int → Int) (zt : Int → Int) (zq : Int → Int), ((0 ≤ t ∧ t < R 1 12) ∧ (0 ≤ w ∧ w ≤ 8)) ∧ r9 = trV (R 1) (mat (R 1) (R 1 8)).1 t w ∧ u9 = (upr (upr (upr (upr R 0 (ups (ups (ups (R 0) 6 0) 13 (mat (R 1) (R 1 8)).2.2.1) 14 (mat (R 1) (R 1 8)).2.2.2)) 4 (zq)) 5 (zs)) 6 (zt))))) 0 0 (va_A (rfW cy a R) sz) := by
  refine kM_start (cc := cX7_trail) (maxL := 3) (ret := (some .int)) (by decide) rfl (Nat.le_of_ble_eq_true rfl) ?_
  intro p e s m below meth c hx hb hr hlocks hml hts hown hsz hA hG hP hD hS hin ls hl
  have hK := hG.1
  have hl : lv_has ls 3 [(0, .ref (a 0)), (1, .int (iI t)), (2, .int (iI w))] := hl
  have hinX7 : ∀ w ∈ u_ws RX7 TX7 19, w ∈ wsX7_trail := by decide +kernel
  have hm0 := hts (.fieldLink RX7 31 "ArcPlateModel" "code" "I") (by decide +kernel)
  have h12 := inv_S12 hI
  have hbody : ∀ (H : Heap) (locs : List Loc) (hP : va_P D vwCl (rfW cy a R) H) (hS : va_S (va_A (rfW cy a R) sz) s.heap H locs) (ls : Array Slot) (hl : lv_has ls 3 [(0, .ref (a 0)), (1, .int (iI t)), (2, .int (iI w))]), W p l e { frames := 8, cells := 0, slots := 0, locals := 174 } s m ([.ref (a 0), .int (iI t), .int (iI w)] : List Value).toArray below meth c H locs 0 0 (MQ below (kQi D (rfW cy a R) sz (fun u9 : Nat → Int → Int => rfW cy a u9) (fun r9 u9 => ((¬ (0 ≤ t ∧ t < R 1 12)) ∧ r9 = 0 ∧ u9 = (upr R 0 (ups (R 0) 6 1))) ∨ (((0 ≤ t ∧ t < R 1 12) ∧ ¬ (0 ≤ w ∧ w ≤ 8)) ∧ r9 = 0 ∧ u9 = (upr R 0 (ups (R 0) 6 2))) ∨ (∃ (zs : Int → Int) (zt : Int → Int) (zq : Int → Int), ((0 ≤ t ∧ t < R 1 12) ∧ (0 ≤ w ∧ w ≤ 8)) ∧ r9 = trV (R 1) (mat (R 1) (R 1 8)).1 t w ∧ u9 = (upr (upr (upr (upr R 0 (ups (ups (ups (R 0) 6 0) 13 (mat (R 1) (R 1 8)).2.2.1) 14 (mat (R 1) (R 1 8)).2.2.2)) 4 (zq)) 5 (zs)) 6 (zt))))) ([.ref (a 0), .int (iI t), .int (iI w)] : List Value).toArray s 0 0 (va_A (rfW cy a R) sz)) (F0 m 0 ls []) := by
    intro H locs hP hS ls hl
    refine lv_aload_n hx hb dX7_trail_0 rfl (lv_at hl 0 rfl) ?_
    refine lv_aload_n hx hb dX7_trail_1 rfl (lv_at hl 0 rfl) ?_
    refine lv_iload_n hx hb dX7_trail_2 rfl (lv_at hl 1 rfl) ?_
    refine k_roV (As := [.int (iI t)]) (rest := [.ref (a 0)]) ⟨hx, hb, hml, hown, hts⟩ (c_X7_isTrail l D cy a R t hI (show -2147483648 ≤ t ∧ t ≤ 2147483647 by omega)) gX7_trail_X7_isTrail rfl ⟨rfl, rfl⟩ 1 rfl (by decide +kernel) ⟨Nat.le_of_ble_eq_true rfl, Nat.le_of_ble_eq_true rfl⟩ (GG_ok D cy) ((GG_ok D cy).2.2.2 _ _ _ _ (fun _ h => h.elim) ((GG_ok D cy).1 _ _ _ _ hS.2.1 hG)) hP (va_recv hK hP (ci := 6) (q0 := 0) rfl rfl) hl.1 rfl (Nat.le_of_ble_eq_true rfl) ⟨Nat.le_of_ble_eq_true rfl, Nat.le_of_ble_eq_true rfl⟩ dX7_trail_3 (fun r_1 hr_1 => ?_)
    have hr_1 : ((0 ≤ t ∧ t < R 1 12) ∧ r_1 = 1) ∨ (¬ (0 ≤ t ∧ t < R 1 12) ∧ r_1 = 0) := hr_1
    rcases hr_1 with ⟨c_2, hr_1⟩ | ⟨c_2, hr_1⟩ <;> subst hr_1
    · skip
      refine k_if_ne (tgt := 13) hx hb dX7_trail_6 (by decide) (by omega) (fun c_3 => ?_) (fun c_3 => ?_)
      · skip
        refine lv_iload_n hx hb dX7_trail_13 rfl (lv_at hl 2 rfl) ?_
        refine k_iconst hx hb dX7_trail_14 ?_
        refine k_bipush hx hb dX7_trail_15 (by decide +kernel) ?_
        refine k_roS (As := [.int (iI w), .int (iI 0), .int (iI 8)]) (rest := [.ref (a 0)]) ⟨hx, hb, hml, hown, hts⟩ (c_X7_in l D w 0 8 (show -2147483648 ≤ w ∧ w ≤ 2147483647 by omega) (show -2147483648 ≤ 0 ∧ 0 ≤ 2147483647 by omega) (show -2147483648 ≤ 8 ∧ 8 ≤ 2147483647 by omega)) gX7_trail_X7_in rfl ⟨rfl, rfl⟩ 3 rfl (by decide +kernel) ⟨Nat.le_of_ble_eq_true rfl, Nat.le_of_ble_eq_true rfl⟩ kGT_ok trivial (fun k q h => by simp at h) hl.1 rfl (Nat.le_of_ble_eq_true rfl) ⟨Nat.le_of_ble_eq_true rfl, Nat.le_of_ble_eq_true rfl⟩ dX7_trail_17 (fun r_4 hr_4 => ?_)
        have hr_4 : ((0 ≤ w ∧ w ≤ 8) ∧ r_4 = 1) ∨ (¬ (0 ≤ w ∧ w ≤ 8) ∧ r_4 = 0) := hr_4
        rcases hr_4 with ⟨c_5, hr_4⟩ | ⟨c_5, hr_4⟩ <;> subst hr_4
        · skip
          refine k_if_eq (tgt := 27) hx hb dX7_trail_20 (by decide) (by omega) (fun c_6 => ?_) (fun c_6 => ?_)
          · exfalso; omega
          · skip
            refine k_iconst hx hb dX7_trail_23 ?_
            refine lv_goto (tgt := 28) hx hb dX7_trail_24 (by decide) ?_
            refine va_put (D := D) (ci := 6) (v := .int (iI 0)) (ty := .int) (C := RX7) (T := TX7) (N := 19) hx hb hts hinX7 tyX7 tyX7_ok nmX7 hown hK hP hD hS 0 rfl rfl 6 (by decide) hm0 (fun _ h9 => h9) rfl (by decide +kernel) rfl rfl (Nat.le_of_ble_eq_true rfl) dX7_trail_28 (fun H locs hP hD hS => ?_)
            have hP : va_P D vwCl (rfW cy a (upr R 0 (ups (R 0) 6 0))) H := hP
            have hD : va_D (va_A (rfW cy a R) sz) (rfW cy a (upr R 0 (ups (R 0) 6 0))) := hD
            refine lv_aload_n hx hb dX7_trail_31 rfl (lv_at hl 0 rfl) ?_
            refine va_get (D := D) (ci := 6) (v := .int (iI 0)) (C := RX7) (T := TX7) (N := 19) hx hb hts hinX7 hown hK hP 0 rfl rfl 6 (by decide) hm0 (fun _ h9 => h9) rfl dX7_trail_32 ?_
            refine k_if_eq (tgt := 40) hx hb dX7_trail_35 (by decide) (by omega) (fun c_7 => ?_) (fun c_7 => ?_)
            · skip
              refine lv_aload_n hx hb dX7_trail_40 rfl (lv_at hl 0 rfl) ?_
              refine k_muv (k_runV (As := []) (rest := []) ⟨hx, hb, hml, hown, hts⟩ (c_X7_match l D cy H.size a (upr R 0 (ups (R 0) 6 0)) hI) gX7_trail_X7_match rfl ⟨rfl, rfl⟩ 0 rfl (by decide +kernel) ⟨Nat.le_of_ble_eq_true rfl, Nat.le_of_ble_eq_true rfl⟩ (GG_ok D cy) hG hS (k_free hD hS hA) hP hD (va_recv hK hP (ci := 6) (q0 := 0) rfl rfl) hl.1 rfl (Nat.le_of_ble_eq_true rfl) ⟨Nat.le_of_ble_eq_true rfl, Nat.le_of_ble_eq_true rfl⟩ dX7_trail_41) (k_free hD hS hA) hS (fun R_9 H1 locs1 hR_9 hP1 hD1 hS1 hk1 => ?_)
              have hR_9 : ∃ (zs : Int → Int) (zt : Int → Int) (zq : Int → Int), (matR ((R 1)) ((R 1) 8) zs zt ∧ cstOK ((R 1)) ((R 1) 8) zq) ∧ (R_9 = (upr (upr (upr (upr (upr R 0 (ups (R 0) 6 0)) 0 (ups (ups ((ups (R 0) 6 0)) 13 (mat ((R 1)) ((R 1) 8)).2.2.1) 14 (mat ((R 1)) ((R 1) 8)).2.2.2)) 4 (zq)) 5 (zs)) 6 (zt))) := hR_9
              obtain ⟨zs_10, zt_11, zq_12, hf_13, hR_9⟩ := hR_9
              have hf_13 : matR ((R 1)) ((R 1) 8) zs_10 zt_11 ∧ cstOK ((R 1)) ((R 1) 8) zq_12 := hf_13
              subst hR_9
              have hDn : va_D (va_A (rfW cy a R) sz) (rfW cy a (upr (upr (upr (upr R 0 (ups (ups ((ups (R 0) 6 0)) 13 (mat ((R 1)) ((R 1) 8)).2.2.1) 14 (mat ((R 1)) ((R 1) 8)).2.2.2)) 4 (zq_12)) 5 (zs_10)) 6 (zt_11))) := k_addr hD rfl
              have hPn : va_P D vwCl (rfW cy a (upr (upr (upr (upr R 0 (ups (ups ((ups (R 0) 6 0)) 13 (mat ((R 1)) ((R 1) 8)).2.2.1) 14 (mat ((R 1)) ((R 1) 8)).2.2.2)) 4 (zq_12)) 5 (zs_10)) 6 (zt_11))) H1 := hP1
              clear hP hD hS hP1 hD1 hk1
              have hP := hPn
              have hD := hDn
              have hS := hS1
              clear hPn hDn hS1
              generalize H1 = H at hP hS ⊢
              generalize locs1 = locs at hS ⊢
              have hmt := hf_13
              refine lv_aload_n hx hb dX7_trail_44 rfl (lv_at hl 0 rfl) ?_
              refine lv_iload_n hx hb dX7_trail_45 rfl (lv_at hl 1 rfl) ?_
              refine lv_iload_n hx hb dX7_trail_46 rfl (lv_at hl 2 rfl) ?_
              refine k_roV (As := [.int (iI t), .int (iI w)]) (rest := []) ⟨hx, hb, hml, hown, hts⟩ (c_X7_trailOfWhat l D cy a (upr (upr (upr (upr R 0 (ups (ups ((ups (R 0) 6 0)) 13 (mat ((R 1)) ((R 1) 8)).2.2.1) 14 (mat ((R 1)) ((R 1) 8)).2.2.2)) 4 (zq_12)) 5 (zs_10)) 6 (zt_11)) t w hI (show 0 ≤ t by omega) (show t < (R 1) 12 by omega) (show 0 ≤ w ∧ w ≤ 8 by omega)) gX7_trail_X7_trailOfWhat rfl ⟨rfl, rfl⟩ 2 rfl (by decide +kernel) ⟨Nat.le_of_ble_eq_true rfl, Nat.le_of_ble_eq_true rfl⟩ (GG_ok D cy) ((GG_ok D cy).2.2.2 _ _ _ _ (fun _ h => h.elim) ((GG_ok D cy).1 _ _ _ _ hS.2.1 hG)) hP (va_recv hK hP (ci := 6) (q0 := 0) rfl rfl) hl.1 rfl (Nat.le_of_ble_eq_true rfl) ⟨Nat.le_of_ble_eq_true rfl, Nat.le_of_ble_eq_true rfl⟩ dX7_trail_47 (fun r_14 hr_14 => ?_)
              have hr_14 : r_14 = trV ((R 1)) (zs_10) t w := hr_14
              subst hr_14
              exact W.iret (v := iI (trV ((R 1)) (zs_10) t w)) hx hb hr (fun t9 ht _ => ⟨⟨iI (trV ((R 1)) (zs_10) t w), (upr (upr (upr (upr R 0 (ups (ups ((ups (R 0) 6 0)) 13 (mat ((R 1)) ((R 1) 8)).2.2.1) 14 (mat ((R 1)) ((R 1) 8)).2.2.2)) 4 (zq_12)) 5 (zs_10)) 6 (zt_11)), rfl, ⟨(trV ((R 1)) (zs_10) t w), rfl, (by first | exact Or.inl ⟨(by omega), (by first | rfl | omega), rfl⟩ | exact Or.inr (Or.inl ⟨(by omega), (by first | rfl | omega), rfl⟩) | exact Or.inr (Or.inr (⟨(zs_10), (zt_11), (zq_12), (by omega), (trV_congr (hmt.1 t (by omega) (by omega)).1), rfl⟩)) : ((¬ (0 ≤ t ∧ t < R 1 12)) ∧ (trV ((R 1)) (zs_10) t w : Int) = 0 ∧ (upr (upr (upr (upr R 0 (ups (ups ((ups (R 0) 6 0)) 13 (mat ((R 1)) ((R 1) 8)).2.2.1) 14 (mat ((R 1)) ((R 1) 8)).2.2.2)) 4 (zq_12)) 5 (zs_10)) 6 (zt_11)) = (upr R 0 (ups (R 0) 6 1))) ∨ (((0 ≤ t ∧ t < R 1 12) ∧ ¬ (0 ≤ w ∧ w ≤ 8)) ∧ (trV ((R 1)) (zs_10) t w : Int) = 0 ∧ (upr (upr (upr (upr R 0 (ups (ups ((ups (R 0) 6 0)) 13 (mat ((R 1)) ((R 1) 8)).2.2.1) 14 (mat ((R 1)) ((R 1) 8)).2.2.2)) 4 (zq_12)) 5 (zs_10)) 6 (zt_11)) = (upr R 0 (ups (R 0) 6 2))) ∨ (∃ (zs : Int → Int) (zt : Int → Int) (zq : Int → Int), ((0 ≤ t ∧ t < R 1 12) ∧ (0 ≤ w ∧ w ≤ 8)) ∧ (trV ((R 1)) (zs_10) t w : Int) = trV (R 1) (mat (R 1) (R 1 8)).1 t w ∧ (upr (upr (upr (upr R 0 (ups (ups ((ups (R 0) 6 0)) 13 (mat ((R 1)) ((R 1) 8)).2.2.1) 14 (mat ((R 1)) ((R 1) 8)).2.2.2)) 4 (zq_12)) 5 (zs_10)) 6 (zt_11)) = (upr (upr (upr (upr R 0 (ups (ups (ups (R 0) 6 0) 13 (mat (R 1) (R 1 8)).2.2.1) 14 (mat (R 1) (R 1 8)).2.2.2)) 4 (zq)) 5 (zs)) 6 (zt))))⟩, by rw [ht]; exact hP, hD⟩, hS.F ht⟩) hS.2.2 dX7_trail_50 hlocks
            · exfalso; omega
        · skip
          refine k_if_eq (tgt := 27) hx hb dX7_trail_20 (by decide) (by omega) (fun c_15 => ?_) (fun c_15 => ?_)
          · skip
            refine k_iconst hx hb dX7_trail_27 ?_
            refine va_put (D := D) (ci := 6) (v := .int (iI 2)) (ty := .int) (C := RX7) (T := TX7) (N := 19) hx hb hts hinX7 tyX7 tyX7_ok nmX7 hown hK hP hD hS 0 rfl rfl 6 (by decide) hm0 (fun _ h9 => h9) rfl (by decide +kernel) rfl rfl (Nat.le_of_ble_eq_true rfl) dX7_trail_28 (fun H locs hP hD hS => ?_)
            have hP : va_P D vwCl (rfW cy a (upr R 0 (ups (R 0) 6 2))) H := hP
            have hD : va_D (va_A (rfW cy a R) sz) (rfW cy a (upr R 0 (ups (R 0) 6 2))) := hD
            refine lv_aload_n hx hb dX7_trail_31 rfl (lv_at hl 0 rfl) ?_
            refine va_get (D := D) (ci := 6) (v := .int (iI 2)) (C := RX7) (T := TX7) (N := 19) hx hb hts hinX7 hown hK hP 0 rfl rfl 6 (by decide) hm0 (fun _ h9 => h9) rfl dX7_trail_32 ?_
            refine k_if_eq (tgt := 40) hx hb dX7_trail_35 (by decide) (by omega) (fun c_16 => ?_) (fun c_16 => ?_)
            · exfalso; omega
            · skip
              refine k_iconst hx hb dX7_trail_38 ?_
              exact W.iret (v := iI 0) hx hb hr (fun t9 ht _ => ⟨⟨iI 0, (upr R 0 (ups (R 0) 6 2)), rfl, ⟨0, rfl, (by first | exact Or.inl ⟨(by omega), (by first | rfl | omega), rfl⟩ | exact Or.inr (Or.inl ⟨(by omega), (by first | rfl | omega), rfl⟩) | exact Or.inr (Or.inr (⟨((R 5)), ((R 6)), ((R 4)), (by omega), (trV_congr (hmt.1 t (by omega) (by omega)).1), rfl⟩)) : ((¬ (0 ≤ t ∧ t < R 1 12)) ∧ (0 : Int) = 0 ∧ (upr R 0 (ups (R 0) 6 2)) = (upr R 0 (ups (R 0) 6 1))) ∨ (((0 ≤ t ∧ t < R 1 12) ∧ ¬ (0 ≤ w ∧ w ≤ 8)) ∧ (0 : Int) = 0 ∧ (upr R 0 (ups (R 0) 6 2)) = (upr R 0 (ups (R 0) 6 2))) ∨ (∃ (zs : Int → Int) (zt : Int → Int) (zq : Int → Int), ((0 ≤ t ∧ t < R 1 12) ∧ (0 ≤ w ∧ w ≤ 8)) ∧ (0 : Int) = trV (R 1) (mat (R 1) (R 1 8)).1 t w ∧ (upr R 0 (ups (R 0) 6 2)) = (upr (upr (upr (upr R 0 (ups (ups (ups (R 0) 6 0) 13 (mat (R 1) (R 1 8)).2.2.1) 14 (mat (R 1) (R 1 8)).2.2.2)) 4 (zq)) 5 (zs)) 6 (zt))))⟩, by rw [ht]; exact hP, hD⟩, hS.F ht⟩) hS.2.2 dX7_trail_39 hlocks
          · exfalso; omega
      · exfalso; omega
    · skip
      refine k_if_ne (tgt := 13) hx hb dX7_trail_6 (by decide) (by omega) (fun c_17 => ?_) (fun c_17 => ?_)
      · exfalso; omega
      · skip
        refine k_iconst hx hb dX7_trail_9 ?_
        refine lv_goto (tgt := 28) hx hb dX7_trail_10 (by decide) ?_
        refine va_put (D := D) (ci := 6) (v := .int (iI 1)) (ty := .int) (C := RX7) (T := TX7) (N := 19) hx hb hts hinX7 tyX7 tyX7_ok nmX7 hown hK hP hD hS 0 rfl rfl 6 (by decide) hm0 (fun _ h9 => h9) rfl (by decide +kernel) rfl rfl (Nat.le_of_ble_eq_true rfl) dX7_trail_28 (fun H locs hP hD hS => ?_)
        have hP : va_P D vwCl (rfW cy a (upr R 0 (ups (R 0) 6 1))) H := hP
        have hD : va_D (va_A (rfW cy a R) sz) (rfW cy a (upr R 0 (ups (R 0) 6 1))) := hD
        refine lv_aload_n hx hb dX7_trail_31 rfl (lv_at hl 0 rfl) ?_
        refine va_get (D := D) (ci := 6) (v := .int (iI 1)) (C := RX7) (T := TX7) (N := 19) hx hb hts hinX7 hown hK hP 0 rfl rfl 6 (by decide) hm0 (fun _ h9 => h9) rfl dX7_trail_32 ?_
        refine k_if_eq (tgt := 40) hx hb dX7_trail_35 (by decide) (by omega) (fun c_18 => ?_) (fun c_18 => ?_)
        · exfalso; omega
        · skip
          refine k_iconst hx hb dX7_trail_38 ?_
          exact W.iret (v := iI 0) hx hb hr (fun t9 ht _ => ⟨⟨iI 0, (upr R 0 (ups (R 0) 6 1)), rfl, ⟨0, rfl, (by first | exact Or.inl ⟨(by omega), (by first | rfl | omega), rfl⟩ | exact Or.inr (Or.inl ⟨(by omega), (by first | rfl | omega), rfl⟩) | exact Or.inr (Or.inr (⟨((R 5)), ((R 6)), ((R 4)), (by omega), (trV_congr (hmt.1 t (by omega) (by omega)).1), rfl⟩)) : ((¬ (0 ≤ t ∧ t < R 1 12)) ∧ (0 : Int) = 0 ∧ (upr R 0 (ups (R 0) 6 1)) = (upr R 0 (ups (R 0) 6 1))) ∨ (((0 ≤ t ∧ t < R 1 12) ∧ ¬ (0 ≤ w ∧ w ≤ 8)) ∧ (0 : Int) = 0 ∧ (upr R 0 (ups (R 0) 6 1)) = (upr R 0 (ups (R 0) 6 2))) ∨ (∃ (zs : Int → Int) (zt : Int → Int) (zq : Int → Int), ((0 ≤ t ∧ t < R 1 12) ∧ (0 ≤ w ∧ w ≤ 8)) ∧ (0 : Int) = trV (R 1) (mat (R 1) (R 1 8)).1 t w ∧ (upr R 0 (ups (R 0) 6 1)) = (upr (upr (upr (upr R 0 (ups (ups (ups (R 0) 6 0) 13 (mat (R 1) (R 1 8)).2.2.1) 14 (mat (R 1) (R 1 8)).2.2.2)) 4 (zq)) 5 (zs)) 6 (zt))))⟩, by rw [ht]; exact hP, hD⟩, hS.F ht⟩) hS.2.2 dX7_trail_39 hlocks
  exact hbody s.heap [] hP hS ls hl
set_option maxHeartbeats 4000000 in
set_option maxRecDepth 100000 in
theorem c_X7_star (l : Launch) (D : va_G) (cy : Nat → ClassId) (sz : Nat) (a : Nat → Nat) (R : Nat → Int → Int) (u w : Int) (hI : Inv (R 1)) (hru : -2147483648 ≤ u ∧ u ≤ 2147483647) (hrw : -2147483648 ≤ w ∧ w ≤ 2147483647) : Met l yX7_star wsX7_star { frames := 7, cells := 0, slots := 0, locals := 158 } (mPre (GG D cy) D (rfW cy a R) sz ([.ref (a 0), .int (iI u), .int (iI w)] : List Value)) (kQi D (rfW cy a R) sz (fun u9 : Nat → Int → Int => rfW cy a u9) (fun r9 u9 => ((¬ (0 ≤ u ∧ u < R 1 13)) ∧ r9 = 0 ∧ u9 = (upr R 0 (ups (R 0) 6 1))) ∨ (((0 ≤ u ∧ u < R 1 13) ∧ ¬ (0 ≤ w ∧ w ≤ 6)) ∧ r9 = 0 ∧ u9 = (upr R 0 (ups (R 0) 6 2))) ∨ (∃ (zs : Int → Int) (zt : Int → Int) (zq : Int → Int), ((0 ≤ u ∧ u < R 1 13) ∧ (0 ≤ w ∧ w ≤ 6)) ∧ r9 = stW (R 1) u w ∧ u9 = (upr (upr (upr (upr R 0 (ups (ups (ups (R 0) 6 0) 13 (mat (R 1) (R 1 8)).2.2.1) 14 (mat (R 1) (R 1 8)).2.2.2)) 4 (zq)) 5 (zs)) 6 (zt))))) 0 0 (va_A (rfW cy a R) sz) := by
  refine kM_start (cc := cX7_star) (maxL := 3) (ret := (some .int)) (by decide) rfl (Nat.le_of_ble_eq_true rfl) ?_
  intro p e s m below meth c hx hb hr hlocks hml hts hown hsz hA hG hP hD hS hin ls hl
  have hK := hG.1
  have hl : lv_has ls 3 [(0, .ref (a 0)), (1, .int (iI u)), (2, .int (iI w))] := hl
  have hinX7 : ∀ w ∈ u_ws RX7 TX7 19, w ∈ wsX7_star := by decide +kernel
  have hm0 := hts (.fieldLink RX7 31 "ArcPlateModel" "code" "I") (by decide +kernel)
  have h12 := inv_S12 hI
  have hbody : ∀ (H : Heap) (locs : List Loc) (hP : va_P D vwCl (rfW cy a R) H) (hS : va_S (va_A (rfW cy a R) sz) s.heap H locs) (ls : Array Slot) (hl : lv_has ls 3 [(0, .ref (a 0)), (1, .int (iI u)), (2, .int (iI w))]), W p l e { frames := 7, cells := 0, slots := 0, locals := 158 } s m ([.ref (a 0), .int (iI u), .int (iI w)] : List Value).toArray below meth c H locs 0 0 (MQ below (kQi D (rfW cy a R) sz (fun u9 : Nat → Int → Int => rfW cy a u9) (fun r9 u9 => ((¬ (0 ≤ u ∧ u < R 1 13)) ∧ r9 = 0 ∧ u9 = (upr R 0 (ups (R 0) 6 1))) ∨ (((0 ≤ u ∧ u < R 1 13) ∧ ¬ (0 ≤ w ∧ w ≤ 6)) ∧ r9 = 0 ∧ u9 = (upr R 0 (ups (R 0) 6 2))) ∨ (∃ (zs : Int → Int) (zt : Int → Int) (zq : Int → Int), ((0 ≤ u ∧ u < R 1 13) ∧ (0 ≤ w ∧ w ≤ 6)) ∧ r9 = stW (R 1) u w ∧ u9 = (upr (upr (upr (upr R 0 (ups (ups (ups (R 0) 6 0) 13 (mat (R 1) (R 1 8)).2.2.1) 14 (mat (R 1) (R 1 8)).2.2.2)) 4 (zq)) 5 (zs)) 6 (zt))))) ([.ref (a 0), .int (iI u), .int (iI w)] : List Value).toArray s 0 0 (va_A (rfW cy a R) sz)) (F0 m 0 ls []) := by
    intro H locs hP hS ls hl
    refine lv_aload_n hx hb dX7_star_0 rfl (lv_at hl 0 rfl) ?_
    refine lv_aload_n hx hb dX7_star_1 rfl (lv_at hl 0 rfl) ?_
    refine lv_iload_n hx hb dX7_star_2 rfl (lv_at hl 1 rfl) ?_
    refine k_roV (As := [.int (iI u)]) (rest := [.ref (a 0)]) ⟨hx, hb, hml, hown, hts⟩ (c_X7_isStar l D cy a R u hI (show -2147483648 ≤ u ∧ u ≤ 2147483647 by omega)) gX7_star_X7_isStar rfl ⟨rfl, rfl⟩ 1 rfl (by decide +kernel) ⟨Nat.le_of_ble_eq_true rfl, Nat.le_of_ble_eq_true rfl⟩ (GG_ok D cy) ((GG_ok D cy).2.2.2 _ _ _ _ (fun _ h => h.elim) ((GG_ok D cy).1 _ _ _ _ hS.2.1 hG)) hP (va_recv hK hP (ci := 6) (q0 := 0) rfl rfl) hl.1 rfl (Nat.le_of_ble_eq_true rfl) ⟨Nat.le_of_ble_eq_true rfl, Nat.le_of_ble_eq_true rfl⟩ dX7_star_3 (fun r_1 hr_1 => ?_)
    have hr_1 : ((0 ≤ u ∧ u < R 1 13) ∧ r_1 = 1) ∨ (¬ (0 ≤ u ∧ u < R 1 13) ∧ r_1 = 0) := hr_1
    rcases hr_1 with ⟨c_2, hr_1⟩ | ⟨c_2, hr_1⟩ <;> subst hr_1
    · skip
      refine k_if_ne (tgt := 13) hx hb dX7_star_6 (by decide) (by omega) (fun c_3 => ?_) (fun c_3 => ?_)
      · skip
        refine lv_iload_n hx hb dX7_star_13 rfl (lv_at hl 2 rfl) ?_
        refine k_iconst hx hb dX7_star_14 ?_
        refine k_bipush hx hb dX7_star_15 (by decide +kernel) ?_
        refine k_roS (As := [.int (iI w), .int (iI 0), .int (iI 6)]) (rest := [.ref (a 0)]) ⟨hx, hb, hml, hown, hts⟩ (c_X7_in l D w 0 6 (show -2147483648 ≤ w ∧ w ≤ 2147483647 by omega) (show -2147483648 ≤ 0 ∧ 0 ≤ 2147483647 by omega) (show -2147483648 ≤ 6 ∧ 6 ≤ 2147483647 by omega)) gX7_star_X7_in rfl ⟨rfl, rfl⟩ 3 rfl (by decide +kernel) ⟨Nat.le_of_ble_eq_true rfl, Nat.le_of_ble_eq_true rfl⟩ kGT_ok trivial (fun k q h => by simp at h) hl.1 rfl (Nat.le_of_ble_eq_true rfl) ⟨Nat.le_of_ble_eq_true rfl, Nat.le_of_ble_eq_true rfl⟩ dX7_star_17 (fun r_4 hr_4 => ?_)
        have hr_4 : ((0 ≤ w ∧ w ≤ 6) ∧ r_4 = 1) ∨ (¬ (0 ≤ w ∧ w ≤ 6) ∧ r_4 = 0) := hr_4
        rcases hr_4 with ⟨c_5, hr_4⟩ | ⟨c_5, hr_4⟩ <;> subst hr_4
        · skip
          refine k_if_eq (tgt := 27) hx hb dX7_star_20 (by decide) (by omega) (fun c_6 => ?_) (fun c_6 => ?_)
          · exfalso; omega
          · skip
            refine k_iconst hx hb dX7_star_23 ?_
            refine lv_goto (tgt := 28) hx hb dX7_star_24 (by decide) ?_
            refine va_put (D := D) (ci := 6) (v := .int (iI 0)) (ty := .int) (C := RX7) (T := TX7) (N := 19) hx hb hts hinX7 tyX7 tyX7_ok nmX7 hown hK hP hD hS 0 rfl rfl 6 (by decide) hm0 (fun _ h9 => h9) rfl (by decide +kernel) rfl rfl (Nat.le_of_ble_eq_true rfl) dX7_star_28 (fun H locs hP hD hS => ?_)
            have hP : va_P D vwCl (rfW cy a (upr R 0 (ups (R 0) 6 0))) H := hP
            have hD : va_D (va_A (rfW cy a R) sz) (rfW cy a (upr R 0 (ups (R 0) 6 0))) := hD
            refine lv_aload_n hx hb dX7_star_31 rfl (lv_at hl 0 rfl) ?_
            refine va_get (D := D) (ci := 6) (v := .int (iI 0)) (C := RX7) (T := TX7) (N := 19) hx hb hts hinX7 hown hK hP 0 rfl rfl 6 (by decide) hm0 (fun _ h9 => h9) rfl dX7_star_32 ?_
            refine k_if_eq (tgt := 40) hx hb dX7_star_35 (by decide) (by omega) (fun c_7 => ?_) (fun c_7 => ?_)
            · skip
              refine lv_aload_n hx hb dX7_star_40 rfl (lv_at hl 0 rfl) ?_
              refine k_muv (k_runV (As := []) (rest := []) ⟨hx, hb, hml, hown, hts⟩ (c_X7_match l D cy H.size a (upr R 0 (ups (R 0) 6 0)) hI) gX7_star_X7_match rfl ⟨rfl, rfl⟩ 0 rfl (by decide +kernel) ⟨Nat.le_of_ble_eq_true rfl, Nat.le_of_ble_eq_true rfl⟩ (GG_ok D cy) hG hS (k_free hD hS hA) hP hD (va_recv hK hP (ci := 6) (q0 := 0) rfl rfl) hl.1 rfl (Nat.le_of_ble_eq_true rfl) ⟨Nat.le_of_ble_eq_true rfl, Nat.le_of_ble_eq_true rfl⟩ dX7_star_41) (k_free hD hS hA) hS (fun R_9 H1 locs1 hR_9 hP1 hD1 hS1 hk1 => ?_)
              have hR_9 : ∃ (zs : Int → Int) (zt : Int → Int) (zq : Int → Int), (matR ((R 1)) ((R 1) 8) zs zt ∧ cstOK ((R 1)) ((R 1) 8) zq) ∧ (R_9 = (upr (upr (upr (upr (upr R 0 (ups (R 0) 6 0)) 0 (ups (ups ((ups (R 0) 6 0)) 13 (mat ((R 1)) ((R 1) 8)).2.2.1) 14 (mat ((R 1)) ((R 1) 8)).2.2.2)) 4 (zq)) 5 (zs)) 6 (zt))) := hR_9
              obtain ⟨zs_10, zt_11, zq_12, hf_13, hR_9⟩ := hR_9
              have hf_13 : matR ((R 1)) ((R 1) 8) zs_10 zt_11 ∧ cstOK ((R 1)) ((R 1) 8) zq_12 := hf_13
              subst hR_9
              have hDn : va_D (va_A (rfW cy a R) sz) (rfW cy a (upr (upr (upr (upr R 0 (ups (ups ((ups (R 0) 6 0)) 13 (mat ((R 1)) ((R 1) 8)).2.2.1) 14 (mat ((R 1)) ((R 1) 8)).2.2.2)) 4 (zq_12)) 5 (zs_10)) 6 (zt_11))) := k_addr hD rfl
              have hPn : va_P D vwCl (rfW cy a (upr (upr (upr (upr R 0 (ups (ups ((ups (R 0) 6 0)) 13 (mat ((R 1)) ((R 1) 8)).2.2.1) 14 (mat ((R 1)) ((R 1) 8)).2.2.2)) 4 (zq_12)) 5 (zs_10)) 6 (zt_11))) H1 := hP1
              clear hP hD hS hP1 hD1 hk1
              have hP := hPn
              have hD := hDn
              have hS := hS1
              clear hPn hDn hS1
              generalize H1 = H at hP hS ⊢
              generalize locs1 = locs at hS ⊢
              have hmt := hf_13
              have hI6 := TRok_mat hI hmt.1
              refine lv_aload_n hx hb dX7_star_44 rfl (lv_at hl 0 rfl) ?_
              refine lv_iload_n hx hb dX7_star_45 rfl (lv_at hl 1 rfl) ?_
              refine lv_iload_n hx hb dX7_star_46 rfl (lv_at hl 2 rfl) ?_
              refine k_roV (As := [.int (iI u), .int (iI w)]) (rest := []) ⟨hx, hb, hml, hown, hts⟩ (c_X7_starOfWhat l D cy a (upr (upr (upr (upr R 0 (ups (ups ((ups (R 0) 6 0)) 13 (mat ((R 1)) ((R 1) 8)).2.2.1) 14 (mat ((R 1)) ((R 1) 8)).2.2.2)) 4 (zq_12)) 5 (zs_10)) 6 (zt_11)) u w hI (show 0 ≤ u by omega) (show u < (R 1) 13 by omega) (show 0 ≤ w ∧ w ≤ 6 by omega) (show TRok (zt_11) from hI6)) gX7_star_X7_starOfWhat rfl ⟨rfl, rfl⟩ 2 rfl (by decide +kernel) ⟨Nat.le_of_ble_eq_true rfl, Nat.le_of_ble_eq_true rfl⟩ (GG_ok D cy) ((GG_ok D cy).2.2.2 _ _ _ _ (fun _ h => h.elim) ((GG_ok D cy).1 _ _ _ _ hS.2.1 hG)) hP (va_recv hK hP (ci := 6) (q0 := 0) rfl rfl) hl.1 rfl (Nat.le_of_ble_eq_true rfl) ⟨Nat.le_of_ble_eq_true rfl, Nat.le_of_ble_eq_true rfl⟩ dX7_star_47 (fun r_14 hr_14 => ?_)
              have hr_14 : r_14 = stV ((R 1)) (zt_11) (zq_12) u w := hr_14
              subst hr_14
              exact W.iret (v := iI (stV ((R 1)) (zt_11) (zq_12) u w)) hx hb hr (fun t9 ht _ => ⟨⟨iI (stV ((R 1)) (zt_11) (zq_12) u w), (upr (upr (upr (upr R 0 (ups (ups ((ups (R 0) 6 0)) 13 (mat ((R 1)) ((R 1) 8)).2.2.1) 14 (mat ((R 1)) ((R 1) 8)).2.2.2)) 4 (zq_12)) 5 (zs_10)) 6 (zt_11)), rfl, ⟨(stV ((R 1)) (zt_11) (zq_12) u w), rfl, (by first | exact Or.inl ⟨(by omega), (by first | rfl | omega), rfl⟩ | exact Or.inr (Or.inl ⟨(by omega), (by first | rfl | omega), rfl⟩) | exact Or.inr (Or.inr (⟨(zs_10), (zt_11), (zq_12), (by omega), (stV_mat hI hmt.1 hmt.2 (by omega) (by omega)), rfl⟩)) : ((¬ (0 ≤ u ∧ u < R 1 13)) ∧ (stV ((R 1)) (zt_11) (zq_12) u w : Int) = 0 ∧ (upr (upr (upr (upr R 0 (ups (ups ((ups (R 0) 6 0)) 13 (mat ((R 1)) ((R 1) 8)).2.2.1) 14 (mat ((R 1)) ((R 1) 8)).2.2.2)) 4 (zq_12)) 5 (zs_10)) 6 (zt_11)) = (upr R 0 (ups (R 0) 6 1))) ∨ (((0 ≤ u ∧ u < R 1 13) ∧ ¬ (0 ≤ w ∧ w ≤ 6)) ∧ (stV ((R 1)) (zt_11) (zq_12) u w : Int) = 0 ∧ (upr (upr (upr (upr R 0 (ups (ups ((ups (R 0) 6 0)) 13 (mat ((R 1)) ((R 1) 8)).2.2.1) 14 (mat ((R 1)) ((R 1) 8)).2.2.2)) 4 (zq_12)) 5 (zs_10)) 6 (zt_11)) = (upr R 0 (ups (R 0) 6 2))) ∨ (∃ (zs : Int → Int) (zt : Int → Int) (zq : Int → Int), ((0 ≤ u ∧ u < R 1 13) ∧ (0 ≤ w ∧ w ≤ 6)) ∧ (stV ((R 1)) (zt_11) (zq_12) u w : Int) = stW (R 1) u w ∧ (upr (upr (upr (upr R 0 (ups (ups ((ups (R 0) 6 0)) 13 (mat ((R 1)) ((R 1) 8)).2.2.1) 14 (mat ((R 1)) ((R 1) 8)).2.2.2)) 4 (zq_12)) 5 (zs_10)) 6 (zt_11)) = (upr (upr (upr (upr R 0 (ups (ups (ups (R 0) 6 0) 13 (mat (R 1) (R 1 8)).2.2.1) 14 (mat (R 1) (R 1 8)).2.2.2)) 4 (zq)) 5 (zs)) 6 (zt))))⟩, by rw [ht]; exact hP, hD⟩, hS.F ht⟩) hS.2.2 dX7_star_50 hlocks
            · exfalso; omega
        · skip
          refine k_if_eq (tgt := 27) hx hb dX7_star_20 (by decide) (by omega) (fun c_15 => ?_) (fun c_15 => ?_)
          · skip
            refine k_iconst hx hb dX7_star_27 ?_
            refine va_put (D := D) (ci := 6) (v := .int (iI 2)) (ty := .int) (C := RX7) (T := TX7) (N := 19) hx hb hts hinX7 tyX7 tyX7_ok nmX7 hown hK hP hD hS 0 rfl rfl 6 (by decide) hm0 (fun _ h9 => h9) rfl (by decide +kernel) rfl rfl (Nat.le_of_ble_eq_true rfl) dX7_star_28 (fun H locs hP hD hS => ?_)
            have hP : va_P D vwCl (rfW cy a (upr R 0 (ups (R 0) 6 2))) H := hP
            have hD : va_D (va_A (rfW cy a R) sz) (rfW cy a (upr R 0 (ups (R 0) 6 2))) := hD
            refine lv_aload_n hx hb dX7_star_31 rfl (lv_at hl 0 rfl) ?_
            refine va_get (D := D) (ci := 6) (v := .int (iI 2)) (C := RX7) (T := TX7) (N := 19) hx hb hts hinX7 hown hK hP 0 rfl rfl 6 (by decide) hm0 (fun _ h9 => h9) rfl dX7_star_32 ?_
            refine k_if_eq (tgt := 40) hx hb dX7_star_35 (by decide) (by omega) (fun c_16 => ?_) (fun c_16 => ?_)
            · exfalso; omega
            · skip
              refine k_iconst hx hb dX7_star_38 ?_
              exact W.iret (v := iI 0) hx hb hr (fun t9 ht _ => ⟨⟨iI 0, (upr R 0 (ups (R 0) 6 2)), rfl, ⟨0, rfl, (by first | exact Or.inl ⟨(by omega), (by first | rfl | omega), rfl⟩ | exact Or.inr (Or.inl ⟨(by omega), (by first | rfl | omega), rfl⟩) | exact Or.inr (Or.inr (⟨((R 5)), ((R 6)), ((R 4)), (by omega), (stV_mat hI hmt.1 hmt.2 (by omega) (by omega)), rfl⟩)) : ((¬ (0 ≤ u ∧ u < R 1 13)) ∧ (0 : Int) = 0 ∧ (upr R 0 (ups (R 0) 6 2)) = (upr R 0 (ups (R 0) 6 1))) ∨ (((0 ≤ u ∧ u < R 1 13) ∧ ¬ (0 ≤ w ∧ w ≤ 6)) ∧ (0 : Int) = 0 ∧ (upr R 0 (ups (R 0) 6 2)) = (upr R 0 (ups (R 0) 6 2))) ∨ (∃ (zs : Int → Int) (zt : Int → Int) (zq : Int → Int), ((0 ≤ u ∧ u < R 1 13) ∧ (0 ≤ w ∧ w ≤ 6)) ∧ (0 : Int) = stW (R 1) u w ∧ (upr R 0 (ups (R 0) 6 2)) = (upr (upr (upr (upr R 0 (ups (ups (ups (R 0) 6 0) 13 (mat (R 1) (R 1 8)).2.2.1) 14 (mat (R 1) (R 1 8)).2.2.2)) 4 (zq)) 5 (zs)) 6 (zt))))⟩, by rw [ht]; exact hP, hD⟩, hS.F ht⟩) hS.2.2 dX7_star_39 hlocks
          · exfalso; omega
      · exfalso; omega
    · skip
      refine k_if_ne (tgt := 13) hx hb dX7_star_6 (by decide) (by omega) (fun c_17 => ?_) (fun c_17 => ?_)
      · exfalso; omega
      · skip
        refine k_iconst hx hb dX7_star_9 ?_
        refine lv_goto (tgt := 28) hx hb dX7_star_10 (by decide) ?_
        refine va_put (D := D) (ci := 6) (v := .int (iI 1)) (ty := .int) (C := RX7) (T := TX7) (N := 19) hx hb hts hinX7 tyX7 tyX7_ok nmX7 hown hK hP hD hS 0 rfl rfl 6 (by decide) hm0 (fun _ h9 => h9) rfl (by decide +kernel) rfl rfl (Nat.le_of_ble_eq_true rfl) dX7_star_28 (fun H locs hP hD hS => ?_)
        have hP : va_P D vwCl (rfW cy a (upr R 0 (ups (R 0) 6 1))) H := hP
        have hD : va_D (va_A (rfW cy a R) sz) (rfW cy a (upr R 0 (ups (R 0) 6 1))) := hD
        refine lv_aload_n hx hb dX7_star_31 rfl (lv_at hl 0 rfl) ?_
        refine va_get (D := D) (ci := 6) (v := .int (iI 1)) (C := RX7) (T := TX7) (N := 19) hx hb hts hinX7 hown hK hP 0 rfl rfl 6 (by decide) hm0 (fun _ h9 => h9) rfl dX7_star_32 ?_
        refine k_if_eq (tgt := 40) hx hb dX7_star_35 (by decide) (by omega) (fun c_18 => ?_) (fun c_18 => ?_)
        · exfalso; omega
        · skip
          refine k_iconst hx hb dX7_star_38 ?_
          exact W.iret (v := iI 0) hx hb hr (fun t9 ht _ => ⟨⟨iI 0, (upr R 0 (ups (R 0) 6 1)), rfl, ⟨0, rfl, (by first | exact Or.inl ⟨(by omega), (by first | rfl | omega), rfl⟩ | exact Or.inr (Or.inl ⟨(by omega), (by first | rfl | omega), rfl⟩) | exact Or.inr (Or.inr (⟨((R 5)), ((R 6)), ((R 4)), (by omega), (stV_mat hI hmt.1 hmt.2 (by omega) (by omega)), rfl⟩)) : ((¬ (0 ≤ u ∧ u < R 1 13)) ∧ (0 : Int) = 0 ∧ (upr R 0 (ups (R 0) 6 1)) = (upr R 0 (ups (R 0) 6 1))) ∨ (((0 ≤ u ∧ u < R 1 13) ∧ ¬ (0 ≤ w ∧ w ≤ 6)) ∧ (0 : Int) = 0 ∧ (upr R 0 (ups (R 0) 6 1)) = (upr R 0 (ups (R 0) 6 2))) ∨ (∃ (zs : Int → Int) (zt : Int → Int) (zq : Int → Int), ((0 ≤ u ∧ u < R 1 13) ∧ (0 ≤ w ∧ w ≤ 6)) ∧ (0 : Int) = stW (R 1) u w ∧ (upr R 0 (ups (R 0) 6 1)) = (upr (upr (upr (upr R 0 (ups (ups (ups (R 0) 6 0) 13 (mat (R 1) (R 1 8)).2.2.1) 14 (mat (R 1) (R 1 8)).2.2.2)) 4 (zq)) 5 (zs)) 6 (zt))))⟩, by rw [ht]; exact hP, hD⟩, hS.F ht⟩) hS.2.2 dX7_star_39 hlocks
  exact hbody s.heap [] hP hS ls hl
set_option maxHeartbeats 4000000 in
set_option maxRecDepth 100000 in
theorem c_X7_whole (l : Launch) (D : va_G) (cy : Nat → ClassId) (sz : Nat) (a : Nat → Nat) (R : Nat → Int → Int) (w : Int) (hI : Inv (R 1)) (hrw : -2147483648 ≤ w ∧ w ≤ 2147483647) : Met l yX7_whole wsX7_whole { frames := 9, cells := 0, slots := 0, locals := 196 } (mPre (GG D cy) D (rfW cy a R) sz ([.ref (a 0), .int (iI w)] : List Value)) (kQi D (rfW cy a R) sz (fun u9 : Nat → Int → Int => rfW cy a u9) (fun r9 u9 => ((¬ (0 ≤ w ∧ w ≤ 10)) ∧ r9 = 0 ∧ u9 = (upr R 0 (ups (R 0) 6 1))) ∨ (∃ (zs : Int → Int) (zt : Int → Int) (zq : Int → Int), (0 ≤ w ∧ w ≤ 10) ∧ r9 = whW (R 1) w ∧ u9 = (upr (upr (upr (upr R 0 (ups (ups (ups (R 0) 6 0) 13 (mat (R 1) (R 1 8)).2.2.1) 14 (mat (R 1) (R 1 8)).2.2.2)) 4 (zq)) 5 (zs)) 6 (zt))))) 0 0 (va_A (rfW cy a R) sz) := by
  refine kM_start (cc := cX7_whole) (maxL := 2) (ret := (some .int)) (by decide) rfl (Nat.le_of_ble_eq_true rfl) ?_
  intro p e s m below meth c hx hb hr hlocks hml hts hown hsz hA hG hP hD hS hin ls hl
  have hK := hG.1
  have hl : lv_has ls 2 [(0, .ref (a 0)), (1, .int (iI w))] := hl
  have hinX7 : ∀ w ∈ u_ws RX7 TX7 19, w ∈ wsX7_whole := by decide +kernel
  have hm0 := hts (.fieldLink RX7 31 "ArcPlateModel" "code" "I") (by decide +kernel)
  have h12 := inv_S12 hI
  have hbody : ∀ (H : Heap) (locs : List Loc) (hP : va_P D vwCl (rfW cy a R) H) (hS : va_S (va_A (rfW cy a R) sz) s.heap H locs) (ls : Array Slot) (hl : lv_has ls 2 [(0, .ref (a 0)), (1, .int (iI w))]), W p l e { frames := 9, cells := 0, slots := 0, locals := 196 } s m ([.ref (a 0), .int (iI w)] : List Value).toArray below meth c H locs 0 0 (MQ below (kQi D (rfW cy a R) sz (fun u9 : Nat → Int → Int => rfW cy a u9) (fun r9 u9 => ((¬ (0 ≤ w ∧ w ≤ 10)) ∧ r9 = 0 ∧ u9 = (upr R 0 (ups (R 0) 6 1))) ∨ (∃ (zs : Int → Int) (zt : Int → Int) (zq : Int → Int), (0 ≤ w ∧ w ≤ 10) ∧ r9 = whW (R 1) w ∧ u9 = (upr (upr (upr (upr R 0 (ups (ups (ups (R 0) 6 0) 13 (mat (R 1) (R 1 8)).2.2.1) 14 (mat (R 1) (R 1 8)).2.2.2)) 4 (zq)) 5 (zs)) 6 (zt))))) ([.ref (a 0), .int (iI w)] : List Value).toArray s 0 0 (va_A (rfW cy a R) sz)) (F0 m 0 ls []) := by
    intro H locs hP hS ls hl
    refine lv_aload_n hx hb dX7_whole_0 rfl (lv_at hl 0 rfl) ?_
    refine lv_iload_n hx hb dX7_whole_1 rfl (lv_at hl 1 rfl) ?_
    refine k_iconst hx hb dX7_whole_2 ?_
    refine k_bipush hx hb dX7_whole_3 (by decide +kernel) ?_
    refine k_roS (As := [.int (iI w), .int (iI 0), .int (iI 10)]) (rest := [.ref (a 0)]) ⟨hx, hb, hml, hown, hts⟩ (c_X7_in l D w 0 10 (show -2147483648 ≤ w ∧ w ≤ 2147483647 by omega) (show -2147483648 ≤ 0 ∧ 0 ≤ 2147483647 by omega) (show -2147483648 ≤ 10 ∧ 10 ≤ 2147483647 by omega)) gX7_whole_X7_in rfl ⟨rfl, rfl⟩ 3 rfl (by decide +kernel) ⟨Nat.le_of_ble_eq_true rfl, Nat.le_of_ble_eq_true rfl⟩ kGT_ok trivial (fun k q h => by simp at h) hl.1 rfl (Nat.le_of_ble_eq_true rfl) ⟨Nat.le_of_ble_eq_true rfl, Nat.le_of_ble_eq_true rfl⟩ dX7_whole_5 (fun r_1 hr_1 => ?_)
    have hr_1 : ((0 ≤ w ∧ w ≤ 10) ∧ r_1 = 1) ∨ (¬ (0 ≤ w ∧ w ≤ 10) ∧ r_1 = 0) := hr_1
    rcases hr_1 with ⟨c_2, hr_1⟩ | ⟨c_2, hr_1⟩ <;> subst hr_1
    · skip
      refine k_if_eq (tgt := 15) hx hb dX7_whole_8 (by decide) (by omega) (fun c_3 => ?_) (fun c_3 => ?_)
      · exfalso; omega
      · skip
        refine k_iconst hx hb dX7_whole_11 ?_
        refine lv_goto (tgt := 16) hx hb dX7_whole_12 (by decide) ?_
        refine va_put (D := D) (ci := 6) (v := .int (iI 0)) (ty := .int) (C := RX7) (T := TX7) (N := 19) hx hb hts hinX7 tyX7 tyX7_ok nmX7 hown hK hP hD hS 0 rfl rfl 6 (by decide) hm0 (fun _ h9 => h9) rfl (by decide +kernel) rfl rfl (Nat.le_of_ble_eq_true rfl) dX7_whole_16 (fun H locs hP hD hS => ?_)
        have hP : va_P D vwCl (rfW cy a (upr R 0 (ups (R 0) 6 0))) H := hP
        have hD : va_D (va_A (rfW cy a R) sz) (rfW cy a (upr R 0 (ups (R 0) 6 0))) := hD
        refine lv_aload_n hx hb dX7_whole_19 rfl (lv_at hl 0 rfl) ?_
        refine va_get (D := D) (ci := 6) (v := .int (iI 0)) (C := RX7) (T := TX7) (N := 19) hx hb hts hinX7 hown hK hP 0 rfl rfl 6 (by decide) hm0 (fun _ h9 => h9) rfl dX7_whole_20 ?_
        refine k_if_eq (tgt := 28) hx hb dX7_whole_23 (by decide) (by omega) (fun c_4 => ?_) (fun c_4 => ?_)
        · skip
          refine lv_aload_n hx hb dX7_whole_28 rfl (lv_at hl 0 rfl) ?_
          refine k_muv (k_runV (As := []) (rest := []) ⟨hx, hb, hml, hown, hts⟩ (c_X7_match l D cy H.size a (upr R 0 (ups (R 0) 6 0)) hI) gX7_whole_X7_match rfl ⟨rfl, rfl⟩ 0 rfl (by decide +kernel) ⟨Nat.le_of_ble_eq_true rfl, Nat.le_of_ble_eq_true rfl⟩ (GG_ok D cy) hG hS (k_free hD hS hA) hP hD (va_recv hK hP (ci := 6) (q0 := 0) rfl rfl) hl.1 rfl (Nat.le_of_ble_eq_true rfl) ⟨Nat.le_of_ble_eq_true rfl, Nat.le_of_ble_eq_true rfl⟩ dX7_whole_29) (k_free hD hS hA) hS (fun R_6 H1 locs1 hR_6 hP1 hD1 hS1 hk1 => ?_)
          have hR_6 : ∃ (zs : Int → Int) (zt : Int → Int) (zq : Int → Int), (matR ((R 1)) ((R 1) 8) zs zt ∧ cstOK ((R 1)) ((R 1) 8) zq) ∧ (R_6 = (upr (upr (upr (upr (upr R 0 (ups (R 0) 6 0)) 0 (ups (ups ((ups (R 0) 6 0)) 13 (mat ((R 1)) ((R 1) 8)).2.2.1) 14 (mat ((R 1)) ((R 1) 8)).2.2.2)) 4 (zq)) 5 (zs)) 6 (zt))) := hR_6
          obtain ⟨zs_7, zt_8, zq_9, hf_10, hR_6⟩ := hR_6
          have hf_10 : matR ((R 1)) ((R 1) 8) zs_7 zt_8 ∧ cstOK ((R 1)) ((R 1) 8) zq_9 := hf_10
          subst hR_6
          have hDn : va_D (va_A (rfW cy a R) sz) (rfW cy a (upr (upr (upr (upr R 0 (ups (ups ((ups (R 0) 6 0)) 13 (mat ((R 1)) ((R 1) 8)).2.2.1) 14 (mat ((R 1)) ((R 1) 8)).2.2.2)) 4 (zq_9)) 5 (zs_7)) 6 (zt_8))) := k_addr hD rfl
          have hPn : va_P D vwCl (rfW cy a (upr (upr (upr (upr R 0 (ups (ups ((ups (R 0) 6 0)) 13 (mat ((R 1)) ((R 1) 8)).2.2.1) 14 (mat ((R 1)) ((R 1) 8)).2.2.2)) 4 (zq_9)) 5 (zs_7)) 6 (zt_8))) H1 := hP1
          clear hP hD hS hP1 hD1 hk1
          have hP := hPn
          have hD := hDn
          have hS := hS1
          clear hPn hDn hS1
          generalize H1 = H at hP hS ⊢
          generalize locs1 = locs at hS ⊢
          have hmt := hf_10
          have hI6 := TRok_mat hI hmt.1
          refine lv_aload_n hx hb dX7_whole_32 rfl (lv_at hl 0 rfl) ?_
          refine lv_iload_n hx hb dX7_whole_33 rfl (lv_at hl 1 rfl) ?_
          refine k_roV (As := [.int (iI w)]) (rest := []) ⟨hx, hb, hml, hown, hts⟩ (c_X7_wholeOf l D cy a (upr (upr (upr (upr R 0 (ups (ups ((ups (R 0) 6 0)) 13 (mat ((R 1)) ((R 1) 8)).2.2.1) 14 (mat ((R 1)) ((R 1) 8)).2.2.2)) 4 (zq_9)) 5 (zs_7)) 6 (zt_8)) w hI (show TRok (zt_8) from hI6) (show 0 ≤ w ∧ w ≤ 10 by omega)) gX7_whole_X7_wholeOf rfl ⟨rfl, rfl⟩ 1 rfl (by decide +kernel) ⟨Nat.le_of_ble_eq_true rfl, Nat.le_of_ble_eq_true rfl⟩ (GG_ok D cy) ((GG_ok D cy).2.2.2 _ _ _ _ (fun _ h => h.elim) ((GG_ok D cy).1 _ _ _ _ hS.2.1 hG)) hP (va_recv hK hP (ci := 6) (q0 := 0) rfl rfl) hl.1 rfl (Nat.le_of_ble_eq_true rfl) ⟨Nat.le_of_ble_eq_true rfl, Nat.le_of_ble_eq_true rfl⟩ dX7_whole_34 (fun r_11 hr_11 => ?_)
          have hr_11 : r_11 = whV ((R 1)) (zt_8) ((((mat ((R 1)) ((R 1) 8)).2.2.1))) (((mat ((R 1)) ((R 1) 8)).2.2.2)) w := hr_11
          subst hr_11
          exact W.iret (v := iI (whV ((R 1)) (zt_8) ((((mat ((R 1)) ((R 1) 8)).2.2.1))) (((mat ((R 1)) ((R 1) 8)).2.2.2)) w)) hx hb hr (fun t9 ht _ => ⟨⟨iI (whV ((R 1)) (zt_8) ((((mat ((R 1)) ((R 1) 8)).2.2.1))) (((mat ((R 1)) ((R 1) 8)).2.2.2)) w), (upr (upr (upr (upr R 0 (ups (ups ((ups (R 0) 6 0)) 13 (mat ((R 1)) ((R 1) 8)).2.2.1) 14 (mat ((R 1)) ((R 1) 8)).2.2.2)) 4 (zq_9)) 5 (zs_7)) 6 (zt_8)), rfl, ⟨(whV ((R 1)) (zt_8) ((((mat ((R 1)) ((R 1) 8)).2.2.1))) (((mat ((R 1)) ((R 1) 8)).2.2.2)) w), rfl, (by first | exact Or.inl ⟨(by omega), (by first | rfl | omega), rfl⟩ | exact Or.inr (⟨(zs_7), (zt_8), (zq_9), (by omega), (whV_mat hI hmt.1), rfl⟩) : ((¬ (0 ≤ w ∧ w ≤ 10)) ∧ (whV ((R 1)) (zt_8) ((((mat ((R 1)) ((R 1) 8)).2.2.1))) (((mat ((R 1)) ((R 1) 8)).2.2.2)) w : Int) = 0 ∧ (upr (upr (upr (upr R 0 (ups (ups ((ups (R 0) 6 0)) 13 (mat ((R 1)) ((R 1) 8)).2.2.1) 14 (mat ((R 1)) ((R 1) 8)).2.2.2)) 4 (zq_9)) 5 (zs_7)) 6 (zt_8)) = (upr R 0 (ups (R 0) 6 1))) ∨ (∃ (zs : Int → Int) (zt : Int → Int) (zq : Int → Int), (0 ≤ w ∧ w ≤ 10) ∧ (whV ((R 1)) (zt_8) ((((mat ((R 1)) ((R 1) 8)).2.2.1))) (((mat ((R 1)) ((R 1) 8)).2.2.2)) w : Int) = whW (R 1) w ∧ (upr (upr (upr (upr R 0 (ups (ups ((ups (R 0) 6 0)) 13 (mat ((R 1)) ((R 1) 8)).2.2.1) 14 (mat ((R 1)) ((R 1) 8)).2.2.2)) 4 (zq_9)) 5 (zs_7)) 6 (zt_8)) = (upr (upr (upr (upr R 0 (ups (ups (ups (R 0) 6 0) 13 (mat (R 1) (R 1 8)).2.2.1) 14 (mat (R 1) (R 1 8)).2.2.2)) 4 (zq)) 5 (zs)) 6 (zt))))⟩, by rw [ht]; exact hP, hD⟩, hS.F ht⟩) hS.2.2 dX7_whole_37 hlocks
        · exfalso; omega
    · skip
      refine k_if_eq (tgt := 15) hx hb dX7_whole_8 (by decide) (by omega) (fun c_12 => ?_) (fun c_12 => ?_)
      · skip
        refine k_iconst hx hb dX7_whole_15 ?_
        refine va_put (D := D) (ci := 6) (v := .int (iI 1)) (ty := .int) (C := RX7) (T := TX7) (N := 19) hx hb hts hinX7 tyX7 tyX7_ok nmX7 hown hK hP hD hS 0 rfl rfl 6 (by decide) hm0 (fun _ h9 => h9) rfl (by decide +kernel) rfl rfl (Nat.le_of_ble_eq_true rfl) dX7_whole_16 (fun H locs hP hD hS => ?_)
        have hP : va_P D vwCl (rfW cy a (upr R 0 (ups (R 0) 6 1))) H := hP
        have hD : va_D (va_A (rfW cy a R) sz) (rfW cy a (upr R 0 (ups (R 0) 6 1))) := hD
        refine lv_aload_n hx hb dX7_whole_19 rfl (lv_at hl 0 rfl) ?_
        refine va_get (D := D) (ci := 6) (v := .int (iI 1)) (C := RX7) (T := TX7) (N := 19) hx hb hts hinX7 hown hK hP 0 rfl rfl 6 (by decide) hm0 (fun _ h9 => h9) rfl dX7_whole_20 ?_
        refine k_if_eq (tgt := 28) hx hb dX7_whole_23 (by decide) (by omega) (fun c_13 => ?_) (fun c_13 => ?_)
        · exfalso; omega
        · skip
          refine k_iconst hx hb dX7_whole_26 ?_
          exact W.iret (v := iI 0) hx hb hr (fun t9 ht _ => ⟨⟨iI 0, (upr R 0 (ups (R 0) 6 1)), rfl, ⟨0, rfl, (by first | exact Or.inl ⟨(by omega), (by first | rfl | omega), rfl⟩ | exact Or.inr (⟨((R 5)), ((R 6)), ((R 4)), (by omega), (whV_mat hI hmt.1), rfl⟩) : ((¬ (0 ≤ w ∧ w ≤ 10)) ∧ (0 : Int) = 0 ∧ (upr R 0 (ups (R 0) 6 1)) = (upr R 0 (ups (R 0) 6 1))) ∨ (∃ (zs : Int → Int) (zt : Int → Int) (zq : Int → Int), (0 ≤ w ∧ w ≤ 10) ∧ (0 : Int) = whW (R 1) w ∧ (upr R 0 (ups (R 0) 6 1)) = (upr (upr (upr (upr R 0 (ups (ups (ups (R 0) 6 0) 13 (mat (R 1) (R 1 8)).2.2.1) 14 (mat (R 1) (R 1 8)).2.2.2)) 4 (zq)) 5 (zs)) 6 (zt))))⟩, by rw [ht]; exact hP, hD⟩, hS.F ht⟩) hS.2.2 dX7_whole_27 hlocks
      · exfalso; omega
  exact hbody s.heap [] hP hS ls hl
set_option maxHeartbeats 4000000 in
set_option maxRecDepth 100000 in
theorem c_X7_missing (l : Launch) (D : va_G) (cy : Nat → ClassId) (sz : Nat) (a : Nat → Nat) (R : Nat → Int → Int) (v : Int) (hI : Inv (R 1)) (hrv : -2147483648 ≤ v ∧ v ≤ 2147483647) : Met l yX7_missing wsX7_missing { frames := 7, cells := 0, slots := 0, locals := 158 } (mPre (GG D cy) D (rfW cy a R) sz ([.ref (a 0), .int (iI v)] : List Value)) (kQi D (rfW cy a R) sz (fun u9 : Nat → Int → Int => rfW cy a u9) (fun r9 u9 => ((v < 0) ∧ r9 = 0 ∧ u9 = (upr R 0 (ups (R 0) 6 1))) ∨ (∃ (zs : Int → Int) (zt : Int → Int) (zq : Int → Int), (0 ≤ v) ∧ r9 = misF (R 1) v ∧ u9 = (upr (upr (upr (upr R 0 (ups (ups (ups (R 0) 6 0) 13 (mat (R 1) (R 1 8)).2.2.1) 14 (mat (R 1) (R 1 8)).2.2.2)) 4 (zq)) 5 (zs)) 6 (zt))))) 0 0 (va_A (rfW cy a R) sz) := by
  refine kM_start (cc := cX7_missing) (maxL := 4) (ret := (some .int)) (by decide) rfl (Nat.le_of_ble_eq_true rfl) ?_
  intro p e s m below meth c hx hb hr hlocks hml hts hown hsz hA hG hP hD hS hin ls hl
  have hK := hG.1
  have hl : lv_has ls 4 [(0, .ref (a 0)), (1, .int (iI v))] := hl
  have hinX7 : ∀ w ∈ u_ws RX7 TX7 19, w ∈ wsX7_missing := by decide +kernel
  have hm0 := hts (.fieldLink RX7 31 "ArcPlateModel" "code" "I") (by decide +kernel)
  have hm1 := hts (.fieldLink RX7 7 "ArcPlateModel" "m" "[I") (by decide +kernel)
  have hm2 := hts (.constant RX7 109 (-1000000000)) (by decide +kernel)
  have h12 := inv_S12 hI
  have hbody : ∀ (H : Heap) (locs : List Loc) (hP : va_P D vwCl (rfW cy a R) H) (hS : va_S (va_A (rfW cy a R) sz) s.heap H locs) (ls : Array Slot) (hl : lv_has ls 4 [(0, .ref (a 0)), (1, .int (iI v))]), W p l e { frames := 7, cells := 0, slots := 0, locals := 158 } s m ([.ref (a 0), .int (iI v)] : List Value).toArray below meth c H locs 0 0 (MQ below (kQi D (rfW cy a R) sz (fun u9 : Nat → Int → Int => rfW cy a u9) (fun r9 u9 => ((v < 0) ∧ r9 = 0 ∧ u9 = (upr R 0 (ups (R 0) 6 1))) ∨ (∃ (zs : Int → Int) (zt : Int → Int) (zq : Int → Int), (0 ≤ v) ∧ r9 = misF (R 1) v ∧ u9 = (upr (upr (upr (upr R 0 (ups (ups (ups (R 0) 6 0) 13 (mat (R 1) (R 1 8)).2.2.1) 14 (mat (R 1) (R 1 8)).2.2.2)) 4 (zq)) 5 (zs)) 6 (zt))))) ([.ref (a 0), .int (iI v)] : List Value).toArray s 0 0 (va_A (rfW cy a R) sz)) (F0 m 0 ls []) := by
    intro H locs hP hS ls hl
    refine lv_aload_n hx hb dX7_missing_0 rfl (lv_at hl 0 rfl) ?_
    refine lv_iload_n hx hb dX7_missing_1 rfl (lv_at hl 1 rfl) ?_
    refine k_if_ge (tgt := 9) hx hb dX7_missing_2 (by decide) (by omega) (fun c_1 => ?_) (fun c_1 => ?_)
    · skip
      refine k_iconst hx hb dX7_missing_9 ?_
      refine va_put (D := D) (ci := 6) (v := .int (iI 0)) (ty := .int) (C := RX7) (T := TX7) (N := 19) hx hb hts hinX7 tyX7 tyX7_ok nmX7 hown hK hP hD hS 0 rfl rfl 6 (by decide) hm0 (fun _ h9 => h9) rfl (by decide +kernel) rfl rfl (Nat.le_of_ble_eq_true rfl) dX7_missing_10 (fun H locs hP hD hS => ?_)
      have hP : va_P D vwCl (rfW cy a (upr R 0 (ups (R 0) 6 0))) H := hP
      have hD : va_D (va_A (rfW cy a R) sz) (rfW cy a (upr R 0 (ups (R 0) 6 0))) := hD
      refine lv_aload_n hx hb dX7_missing_13 rfl (lv_at hl 0 rfl) ?_
      refine va_get (D := D) (ci := 6) (v := .int (iI 0)) (C := RX7) (T := TX7) (N := 19) hx hb hts hinX7 hown hK hP 0 rfl rfl 6 (by decide) hm0 (fun _ h9 => h9) rfl dX7_missing_14 ?_
      refine k_if_eq (tgt := 22) hx hb dX7_missing_17 (by decide) (by omega) (fun c_2 => ?_) (fun c_2 => ?_)
      · skip
        refine lv_aload_n hx hb dX7_missing_22 rfl (lv_at hl 0 rfl) ?_
        refine k_muv (k_runV (As := []) (rest := []) ⟨hx, hb, hml, hown, hts⟩ (c_X7_match l D cy H.size a (upr R 0 (ups (R 0) 6 0)) hI) gX7_missing_X7_match rfl ⟨rfl, rfl⟩ 0 rfl (by decide +kernel) ⟨Nat.le_of_ble_eq_true rfl, Nat.le_of_ble_eq_true rfl⟩ (GG_ok D cy) hG hS (k_free hD hS hA) hP hD (va_recv hK hP (ci := 6) (q0 := 0) rfl rfl) hl.1 rfl (Nat.le_of_ble_eq_true rfl) ⟨Nat.le_of_ble_eq_true rfl, Nat.le_of_ble_eq_true rfl⟩ dX7_missing_23) (k_free hD hS hA) hS (fun R_4 H1 locs1 hR_4 hP1 hD1 hS1 hk1 => ?_)
        have hR_4 : ∃ (zs : Int → Int) (zt : Int → Int) (zq : Int → Int), (matR ((R 1)) ((R 1) 8) zs zt ∧ cstOK ((R 1)) ((R 1) 8) zq) ∧ (R_4 = (upr (upr (upr (upr (upr R 0 (ups (R 0) 6 0)) 0 (ups (ups ((ups (R 0) 6 0)) 13 (mat ((R 1)) ((R 1) 8)).2.2.1) 14 (mat ((R 1)) ((R 1) 8)).2.2.2)) 4 (zq)) 5 (zs)) 6 (zt))) := hR_4
        obtain ⟨zs_5, zt_6, zq_7, hf_8, hR_4⟩ := hR_4
        have hf_8 : matR ((R 1)) ((R 1) 8) zs_5 zt_6 ∧ cstOK ((R 1)) ((R 1) 8) zq_7 := hf_8
        subst hR_4
        have hDn : va_D (va_A (rfW cy a R) sz) (rfW cy a (upr (upr (upr (upr R 0 (ups (ups ((ups (R 0) 6 0)) 13 (mat ((R 1)) ((R 1) 8)).2.2.1) 14 (mat ((R 1)) ((R 1) 8)).2.2.2)) 4 (zq_7)) 5 (zs_5)) 6 (zt_6))) := k_addr hD rfl
        have hPn : va_P D vwCl (rfW cy a (upr (upr (upr (upr R 0 (ups (ups ((ups (R 0) 6 0)) 13 (mat ((R 1)) ((R 1) 8)).2.2.1) 14 (mat ((R 1)) ((R 1) 8)).2.2.2)) 4 (zq_7)) 5 (zs_5)) 6 (zt_6))) H1 := hP1
        clear hP hD hS hP1 hD1 hk1
        have hP := hPn
        have hD := hDn
        have hS := hS1
        clear hPn hDn hS1
        generalize H1 = H at hP hS ⊢
        generalize locs1 = locs at hS ⊢
        have hmt := hf_8
        have hI6 := TRok_mat hI hmt.1
        have hms : ∀ u : Int, 0 ≤ u → u < R 1 13 → missN (R 1) zt_6 u = missN (R 1) (mat (R 1) (R 1 8)).2.1 u := fun u a b => missN_congr (hmt.1 u a (by omega)).2
        refine lv_iload_n hx hb dX7_missing_26 rfl (lv_at hl 1 rfl) ?_
        refine lv_istore_n (lv' := [(2, .int (iI v)), (0, .ref (a 0)), (1, .int (iI v))]) hx hb dX7_missing_27 rfl hl (by decide) rfl (fun ls hl => ?_)
        refine k_iconst hx hb dX7_missing_28 ?_
        refine lv_istore_n (lv' := [(3, .int (iI 0)), (2, .int (iI v)), (0, .ref (a 0)), (1, .int (iI v))]) hx hb dX7_missing_29 rfl hl (by decide) rfl (fun ls hl => ?_)
        have loop30 : ∀ (n_9 : Nat) (s9 : Int) (lf : Int) (hi0 : 0 ≤ s9) (hi1 : s9 ≤ R 1 13) (hi2 : 0 ≤ lf ∧ lf ≤ v) (hi3 : msI (missN (R 1) (mat (R 1) (R 1 8)).2.1) (R 1 13 - s9).toNat s9 lf = misF (R 1) v) (hn : R 1 13 - s9 < (n_9 : Int)) (ls : Array Slot) (hl : lv_has ls 4 [(3, .int (iI s9)), (2, .int (iI lf)), (0, .ref (a 0)), (1, .int (iI v))]), W p l e { frames := 7, cells := 0, slots := 0, locals := 158 } s m ([.ref (a 0), .int (iI v)] : List Value).toArray below meth c H locs 0 0 (MQ below (kQi D (rfW cy a R) sz (fun u9 : Nat → Int → Int => rfW cy a u9) (fun r9 u9 => ((v < 0) ∧ r9 = 0 ∧ u9 = (upr R 0 (ups (R 0) 6 1))) ∨ (∃ (zs : Int → Int) (zt : Int → Int) (zq : Int → Int), (0 ≤ v) ∧ r9 = misF (R 1) v ∧ u9 = (upr (upr (upr (upr R 0 (ups (ups (ups (R 0) 6 0) 13 (mat (R 1) (R 1 8)).2.2.1) 14 (mat (R 1) (R 1 8)).2.2.2)) 4 (zq)) 5 (zs)) 6 (zt))))) ([.ref (a 0), .int (iI v)] : List Value).toArray s 0 0 (va_A (rfW cy a R) sz)) (F0 m 30 ls []) := by
          intro n_9
          induction n_9 with
          | zero => intro s9 lf hi0 hi1 hi2 hi3 hn ls hl; exfalso; omega
          | succ n_9 ih30 =>
            intro s9 lf hi0 hi1 hi2 hi3 hn ls hl
            refine lv_iload_n hx hb dX7_missing_30 rfl (lv_at hl 0 rfl) ?_
            refine lv_aload_n hx hb dX7_missing_31 rfl (lv_at hl 2 rfl) ?_
            refine va_get (D := D) (ci := 6) (v := .ref (a 1)) (C := RX7) (T := TX7) (N := 19) hx hb hts hinX7 hown hK hP 0 rfl rfl 0 (by decide) hm1 (fun _ h9 => h9) rfl dX7_missing_32 ?_
            refine k_bipush hx hb dX7_missing_35 (by decide +kernel) ?_
            refine k_iald hx hb hK hP 1 0 (f := R 1) rfl rfl (i := 13) (by omega) dX7_missing_37 ?_
            refine k_icmp_ge (tgt := 77) hx hb dX7_missing_38 (by decide) (by omega) (by omega) (fun c_10 => ?_) (fun c_10 => ?_)
            · skip
              refine k_ldc (z := (-1000000000)) hx hb hown hm2 (by decide +kernel) dX7_missing_77 ?_
              exact W.iret (v := iI (-1000000000)) hx hb hr (fun t9 ht _ => ⟨⟨iI (-1000000000), (upr (upr (upr (upr R 0 (ups (ups ((ups (R 0) 6 0)) 13 (mat ((R 1)) ((R 1) 8)).2.2.1) 14 (mat ((R 1)) ((R 1) 8)).2.2.2)) 4 (zq_7)) 5 (zs_5)) 6 (zt_6)), rfl, ⟨(-1000000000), rfl, (by first | exact Or.inr (⟨(zs_5), (zt_6), (zq_7), (by omega), (by first | (rw [← hi3, msI_s (m := R 1 13) (s := s9) (by omega), if_pos (by omega)]) | (rw [← hi3]; exact (msI_0 (by omega)).symm)), rfl⟩) : ((v < 0) ∧ ((-1000000000) : Int) = 0 ∧ (upr (upr (upr (upr R 0 (ups (ups ((ups (R 0) 6 0)) 13 (mat ((R 1)) ((R 1) 8)).2.2.1) 14 (mat ((R 1)) ((R 1) 8)).2.2.2)) 4 (zq_7)) 5 (zs_5)) 6 (zt_6)) = (upr R 0 (ups (R 0) 6 1))) ∨ (∃ (zs : Int → Int) (zt : Int → Int) (zq : Int → Int), (0 ≤ v) ∧ ((-1000000000) : Int) = misF (R 1) v ∧ (upr (upr (upr (upr R 0 (ups (ups ((ups (R 0) 6 0)) 13 (mat ((R 1)) ((R 1) 8)).2.2.1) 14 (mat ((R 1)) ((R 1) 8)).2.2.2)) 4 (zq_7)) 5 (zs_5)) 6 (zt_6)) = (upr (upr (upr (upr R 0 (ups (ups (ups (R 0) 6 0) 13 (mat (R 1) (R 1 8)).2.2.1) 14 (mat (R 1) (R 1 8)).2.2.2)) 4 (zq)) 5 (zs)) 6 (zt))))⟩, by rw [ht]; exact hP, hD⟩, hS.F ht⟩) hS.2.2 dX7_missing_79 hlocks
            · skip
              refine lv_aload_n hx hb dX7_missing_41 rfl (lv_at hl 2 rfl) ?_
              refine lv_iload_n hx hb dX7_missing_42 rfl (lv_at hl 0 rfl) ?_
              refine k_roV (As := [.int (iI s9)]) (rest := []) ⟨hx, hb, hml, hown, hts⟩ (c_X7_isMissing l D cy a (upr (upr (upr (upr R 0 (ups (ups ((ups (R 0) 6 0)) 13 (mat ((R 1)) ((R 1) 8)).2.2.1) 14 (mat ((R 1)) ((R 1) 8)).2.2.2)) 4 (zq_7)) 5 (zs_5)) 6 (zt_6)) s9 hI (show 0 ≤ s9 by omega) (show s9 < (R 1) 13 by omega) (show TRok (zt_6) from hI6)) gX7_missing_X7_isMissing rfl ⟨rfl, rfl⟩ 1 rfl (by decide +kernel) ⟨Nat.le_of_ble_eq_true rfl, Nat.le_of_ble_eq_true rfl⟩ (GG_ok D cy) ((GG_ok D cy).2.2.2 _ _ _ _ (fun _ h => h.elim) ((GG_ok D cy).1 _ _ _ _ hS.2.1 hG)) hP (va_recv hK hP (ci := 6) (q0 := 0) rfl rfl) hl.1 rfl (Nat.le_of_ble_eq_true rfl) ⟨Nat.le_of_ble_eq_true rfl, Nat.le_of_ble_eq_true rfl⟩ dX7_missing_43 (fun r_11 hr_11 => ?_)
              have hr_11 : ((missP ((R 1)) (zt_6) s9) ∧ r_11 = 1) ∨ (¬ (missP ((R 1)) (zt_6) s9) ∧ r_11 = 0) := hr_11
              rcases hr_11 with ⟨c_12, hr_11⟩ | ⟨c_12, hr_11⟩ <;> subst hr_11
              · skip
                have hg1 := hms s9 hi0 (by omega)
                rw [missN_1 c_12] at hg1
                refine k_if_eq (tgt := 55) hx hb dX7_missing_46 (by decide) (by omega) (fun c_13 => ?_) (fun c_13 => ?_)
                · exfalso; omega
                · skip
                  refine lv_iload_n hx hb dX7_missing_49 rfl (lv_at hl 1 rfl) ?_
                  refine k_if_ne (tgt := 55) hx hb dX7_missing_50 (by decide) (by omega) (fun c_14 => ?_) (fun c_14 => ?_)
                  · skip
                    refine lv_iload_n hx hb dX7_missing_55 rfl (lv_at hl 1 rfl) ?_
                    refine lv_aload_n hx hb dX7_missing_56 rfl (lv_at hl 2 rfl) ?_
                    refine lv_iload_n hx hb dX7_missing_57 rfl (lv_at hl 0 rfl) ?_
                    refine k_roV (As := [.int (iI s9)]) (rest := [.int (iI lf)]) ⟨hx, hb, hml, hown, hts⟩ (c_X7_isMissing l D cy a (upr (upr (upr (upr R 0 (ups (ups ((ups (R 0) 6 0)) 13 (mat ((R 1)) ((R 1) 8)).2.2.1) 14 (mat ((R 1)) ((R 1) 8)).2.2.2)) 4 (zq_7)) 5 (zs_5)) 6 (zt_6)) s9 hI (show 0 ≤ s9 by omega) (show s9 < (R 1) 13 by omega) (show TRok (zt_6) from hI6)) gX7_missing_X7_isMissing rfl ⟨rfl, rfl⟩ 1 rfl (by decide +kernel) ⟨Nat.le_of_ble_eq_true rfl, Nat.le_of_ble_eq_true rfl⟩ (GG_ok D cy) ((GG_ok D cy).2.2.2 _ _ _ _ (fun _ h => h.elim) ((GG_ok D cy).1 _ _ _ _ hS.2.1 hG)) hP (va_recv hK hP (ci := 6) (q0 := 0) rfl rfl) hl.1 rfl (Nat.le_of_ble_eq_true rfl) ⟨Nat.le_of_ble_eq_true rfl, Nat.le_of_ble_eq_true rfl⟩ dX7_missing_58 (fun r_15 hr_15 => ?_)
                    have hr_15 : ((missP ((R 1)) (zt_6) s9) ∧ r_15 = 1) ∨ (¬ (missP ((R 1)) (zt_6) s9) ∧ r_15 = 0) := hr_15
                    rcases hr_15 with ⟨c_16, hr_15⟩ | ⟨c_16, hr_15⟩ <;> subst hr_15
                    · skip
                      refine k_if_eq (tgt := 68) hx hb dX7_missing_61 (by decide) (by omega) (fun c_17 => ?_) (fun c_17 => ?_)
                      · exfalso; omega
                      · skip
                        refine k_iconst hx hb dX7_missing_64 ?_
                        refine lv_goto (tgt := 69) hx hb dX7_missing_65 (by decide) ?_
                        refine k_isub hx hb dX7_missing_69 ?_
                        refine lv_istore_n (lv' := [(2, .int (iI (lf - 1))), (3, .int (iI s9)), (0, .ref (a 0)), (1, .int (iI v))]) hx hb dX7_missing_70 rfl hl (by decide) rfl (fun ls hl => ?_)
                        refine lv_iinc (v := iI (s9 + 1)) (lv' := [(3, .int (iI (s9 + 1))), (2, .int (iI (lf - 1))), (0, .ref (a 0)), (1, .int (iI v))]) hx hb dX7_missing_71 hl (k := 1) rfl (iI_add _ _) (by decide) rfl (fun ls hl => ?_)
                        refine lv_goto (tgt := 30) hx hb dX7_missing_74 (by decide) ?_
                        exact ih30 (s9 + 1) (lf - 1)  (by omega) (by omega) (by first | omega | contradiction) (by first | contradiction | (rw [← hi3, msI_s (m := R 1 13) (s := s9) (by omega), if_neg (by omega), ← hg1])) (by omega) ls (lv_sub hl [0, 1, 2, 3] rfl)
                    · skip
                      refine k_if_eq (tgt := 68) hx hb dX7_missing_61 (by decide) (by omega) (fun c_18 => ?_) (fun c_18 => ?_)
                      · skip
                        refine k_iconst hx hb dX7_missing_68 ?_
                        refine k_isub hx hb dX7_missing_69 ?_
                        refine lv_istore_n (lv' := [(2, .int (iI (lf - 0))), (3, .int (iI s9)), (0, .ref (a 0)), (1, .int (iI v))]) hx hb dX7_missing_70 rfl hl (by decide) rfl (fun ls hl => ?_)
                        refine lv_iinc (v := iI (s9 + 1)) (lv' := [(3, .int (iI (s9 + 1))), (2, .int (iI (lf - 0))), (0, .ref (a 0)), (1, .int (iI v))]) hx hb dX7_missing_71 hl (k := 1) rfl (iI_add _ _) (by decide) rfl (fun ls hl => ?_)
                        refine lv_goto (tgt := 30) hx hb dX7_missing_74 (by decide) ?_
                        exact ih30 (s9 + 1) (lf - 0)  (by omega) (by omega) (by first | omega | contradiction) (by first | contradiction | (rw [← hi3, msI_s (m := R 1 13) (s := s9) (by omega), if_neg (by omega), ← hg1])) (by omega) ls (lv_sub hl [0, 1, 2, 3] rfl)
                      · exfalso; omega
                  · skip
                    refine lv_iload_n hx hb dX7_missing_53 rfl (lv_at hl 0 rfl) ?_
                    exact W.iret (v := iI s9) hx hb hr (fun t9 ht _ => ⟨⟨iI s9, (upr (upr (upr (upr R 0 (ups (ups ((ups (R 0) 6 0)) 13 (mat ((R 1)) ((R 1) 8)).2.2.1) 14 (mat ((R 1)) ((R 1) 8)).2.2.2)) 4 (zq_7)) 5 (zs_5)) 6 (zt_6)), rfl, ⟨s9, rfl, (by first | exact Or.inr (⟨(zs_5), (zt_6), (zq_7), (by omega), (by first | (rw [← hi3, msI_s (m := R 1 13) (s := s9) (by omega), if_pos (by omega)]) | (rw [← hi3]; exact (msI_0 (by omega)).symm)), rfl⟩) : ((v < 0) ∧ (s9 : Int) = 0 ∧ (upr (upr (upr (upr R 0 (ups (ups ((ups (R 0) 6 0)) 13 (mat ((R 1)) ((R 1) 8)).2.2.1) 14 (mat ((R 1)) ((R 1) 8)).2.2.2)) 4 (zq_7)) 5 (zs_5)) 6 (zt_6)) = (upr R 0 (ups (R 0) 6 1))) ∨ (∃ (zs : Int → Int) (zt : Int → Int) (zq : Int → Int), (0 ≤ v) ∧ (s9 : Int) = misF (R 1) v ∧ (upr (upr (upr (upr R 0 (ups (ups ((ups (R 0) 6 0)) 13 (mat ((R 1)) ((R 1) 8)).2.2.1) 14 (mat ((R 1)) ((R 1) 8)).2.2.2)) 4 (zq_7)) 5 (zs_5)) 6 (zt_6)) = (upr (upr (upr (upr R 0 (ups (ups (ups (R 0) 6 0) 13 (mat (R 1) (R 1 8)).2.2.1) 14 (mat (R 1) (R 1 8)).2.2.2)) 4 (zq)) 5 (zs)) 6 (zt))))⟩, by rw [ht]; exact hP, hD⟩, hS.F ht⟩) hS.2.2 dX7_missing_54 hlocks
              · skip
                have hg1 := hms s9 hi0 (by omega)
                rw [missN_0 c_12] at hg1
                refine k_if_eq (tgt := 55) hx hb dX7_missing_46 (by decide) (by omega) (fun c_19 => ?_) (fun c_19 => ?_)
                · skip
                  refine lv_iload_n hx hb dX7_missing_55 rfl (lv_at hl 1 rfl) ?_
                  refine lv_aload_n hx hb dX7_missing_56 rfl (lv_at hl 2 rfl) ?_
                  refine lv_iload_n hx hb dX7_missing_57 rfl (lv_at hl 0 rfl) ?_
                  refine k_roV (As := [.int (iI s9)]) (rest := [.int (iI lf)]) ⟨hx, hb, hml, hown, hts⟩ (c_X7_isMissing l D cy a (upr (upr (upr (upr R 0 (ups (ups ((ups (R 0) 6 0)) 13 (mat ((R 1)) ((R 1) 8)).2.2.1) 14 (mat ((R 1)) ((R 1) 8)).2.2.2)) 4 (zq_7)) 5 (zs_5)) 6 (zt_6)) s9 hI (show 0 ≤ s9 by omega) (show s9 < (R 1) 13 by omega) (show TRok (zt_6) from hI6)) gX7_missing_X7_isMissing rfl ⟨rfl, rfl⟩ 1 rfl (by decide +kernel) ⟨Nat.le_of_ble_eq_true rfl, Nat.le_of_ble_eq_true rfl⟩ (GG_ok D cy) ((GG_ok D cy).2.2.2 _ _ _ _ (fun _ h => h.elim) ((GG_ok D cy).1 _ _ _ _ hS.2.1 hG)) hP (va_recv hK hP (ci := 6) (q0 := 0) rfl rfl) hl.1 rfl (Nat.le_of_ble_eq_true rfl) ⟨Nat.le_of_ble_eq_true rfl, Nat.le_of_ble_eq_true rfl⟩ dX7_missing_58 (fun r_20 hr_20 => ?_)
                  have hr_20 : ((missP ((R 1)) (zt_6) s9) ∧ r_20 = 1) ∨ (¬ (missP ((R 1)) (zt_6) s9) ∧ r_20 = 0) := hr_20
                  rcases hr_20 with ⟨c_21, hr_20⟩ | ⟨c_21, hr_20⟩ <;> subst hr_20
                  · skip
                    refine k_if_eq (tgt := 68) hx hb dX7_missing_61 (by decide) (by omega) (fun c_22 => ?_) (fun c_22 => ?_)
                    · exfalso; omega
                    · skip
                      refine k_iconst hx hb dX7_missing_64 ?_
                      refine lv_goto (tgt := 69) hx hb dX7_missing_65 (by decide) ?_
                      refine k_isub hx hb dX7_missing_69 ?_
                      refine lv_istore_n (lv' := [(2, .int (iI (lf - 1))), (3, .int (iI s9)), (0, .ref (a 0)), (1, .int (iI v))]) hx hb dX7_missing_70 rfl hl (by decide) rfl (fun ls hl => ?_)
                      refine lv_iinc (v := iI (s9 + 1)) (lv' := [(3, .int (iI (s9 + 1))), (2, .int (iI (lf - 1))), (0, .ref (a 0)), (1, .int (iI v))]) hx hb dX7_missing_71 hl (k := 1) rfl (iI_add _ _) (by decide) rfl (fun ls hl => ?_)
                      refine lv_goto (tgt := 30) hx hb dX7_missing_74 (by decide) ?_
                      exact ih30 (s9 + 1) (lf - 1)  (by omega) (by omega) (by first | omega | contradiction) (by first | contradiction | (rw [← hi3, msI_s (m := R 1 13) (s := s9) (by omega), if_neg (by omega), ← hg1])) (by omega) ls (lv_sub hl [0, 1, 2, 3] rfl)
                  · skip
                    refine k_if_eq (tgt := 68) hx hb dX7_missing_61 (by decide) (by omega) (fun c_23 => ?_) (fun c_23 => ?_)
                    · skip
                      refine k_iconst hx hb dX7_missing_68 ?_
                      refine k_isub hx hb dX7_missing_69 ?_
                      refine lv_istore_n (lv' := [(2, .int (iI (lf - 0))), (3, .int (iI s9)), (0, .ref (a 0)), (1, .int (iI v))]) hx hb dX7_missing_70 rfl hl (by decide) rfl (fun ls hl => ?_)
                      refine lv_iinc (v := iI (s9 + 1)) (lv' := [(3, .int (iI (s9 + 1))), (2, .int (iI (lf - 0))), (0, .ref (a 0)), (1, .int (iI v))]) hx hb dX7_missing_71 hl (k := 1) rfl (iI_add _ _) (by decide) rfl (fun ls hl => ?_)
                      refine lv_goto (tgt := 30) hx hb dX7_missing_74 (by decide) ?_
                      exact ih30 (s9 + 1) (lf - 0)  (by omega) (by omega) (by first | omega | contradiction) (by first | contradiction | (rw [← hi3, msI_s (m := R 1 13) (s := s9) (by omega), if_neg (by omega), ← hg1])) (by omega) ls (lv_sub hl [0, 1, 2, 3] rfl)
                    · exfalso; omega
                · exfalso; omega
        exact loop30 ((R 1 13 - 0 : Int) + 1).toNat 0 v  (by omega) (by omega) (by omega) (by rw [Int.sub_zero]; rfl) (by omega) ls (lv_sub hl [0, 1, 2, 3] rfl)
      · exfalso; omega
    · skip
      refine k_iconst hx hb dX7_missing_5 ?_
      refine lv_goto (tgt := 10) hx hb dX7_missing_6 (by decide) ?_
      refine va_put (D := D) (ci := 6) (v := .int (iI 1)) (ty := .int) (C := RX7) (T := TX7) (N := 19) hx hb hts hinX7 tyX7 tyX7_ok nmX7 hown hK hP hD hS 0 rfl rfl 6 (by decide) hm0 (fun _ h9 => h9) rfl (by decide +kernel) rfl rfl (Nat.le_of_ble_eq_true rfl) dX7_missing_10 (fun H locs hP hD hS => ?_)
      have hP : va_P D vwCl (rfW cy a (upr R 0 (ups (R 0) 6 1))) H := hP
      have hD : va_D (va_A (rfW cy a R) sz) (rfW cy a (upr R 0 (ups (R 0) 6 1))) := hD
      refine lv_aload_n hx hb dX7_missing_13 rfl (lv_at hl 0 rfl) ?_
      refine va_get (D := D) (ci := 6) (v := .int (iI 1)) (C := RX7) (T := TX7) (N := 19) hx hb hts hinX7 hown hK hP 0 rfl rfl 6 (by decide) hm0 (fun _ h9 => h9) rfl dX7_missing_14 ?_
      refine k_if_eq (tgt := 22) hx hb dX7_missing_17 (by decide) (by omega) (fun c_24 => ?_) (fun c_24 => ?_)
      · exfalso; omega
      · skip
        refine k_iconst hx hb dX7_missing_20 ?_
        exact W.iret (v := iI 0) hx hb hr (fun t9 ht _ => ⟨⟨iI 0, (upr R 0 (ups (R 0) 6 1)), rfl, ⟨0, rfl, (by first | exact Or.inl ⟨(by omega), (by first | rfl | omega), rfl⟩ | exact Or.inr (⟨((R 5)), ((R 6)), ((R 4)), (by omega), (by first | (rw [← hi3, msI_s (m := R 1 13) (s := s9) (by omega), if_pos (by omega)]) | (rw [← hi3]; exact (msI_0 (by omega)).symm)), rfl⟩) : ((v < 0) ∧ (0 : Int) = 0 ∧ (upr R 0 (ups (R 0) 6 1)) = (upr R 0 (ups (R 0) 6 1))) ∨ (∃ (zs : Int → Int) (zt : Int → Int) (zq : Int → Int), (0 ≤ v) ∧ (0 : Int) = misF (R 1) v ∧ (upr R 0 (ups (R 0) 6 1)) = (upr (upr (upr (upr R 0 (ups (ups (ups (R 0) 6 0) 13 (mat (R 1) (R 1 8)).2.2.1) 14 (mat (R 1) (R 1 8)).2.2.2)) 4 (zq)) 5 (zs)) 6 (zt))))⟩, by rw [ht]; exact hP, hD⟩, hS.F ht⟩) hS.2.2 dX7_missing_21 hlocks
  exact hbody s.heap [] hP hS ls hl
set_option maxHeartbeats 4000000 in
set_option maxRecDepth 100000 in
theorem c_X7_meanRate (l : Launch) (D : va_G) (cy : Nat → ClassId) (sz : Nat) (a : Nat → Nat) (R : Nat → Int → Int)  (hI : Inv (R 1)) : Met l yX7_meanRate wsX7_meanRate { frames := 7, cells := 0, slots := 0, locals := 152 } (mPre (GG D cy) D (rfW cy a R) sz ([.ref (a 0)] : List Value)) (kQi D (rfW cy a R) sz (fun u9 : Nat → Int → Int => rfW cy a u9) (fun r9 u9 => r9 = mrt (R 1) ∧ u9 = (upr R 0 (ups (R 0) 6 0)))) 0 0 (va_A (rfW cy a R) sz) := by
  refine kM_start (cc := cX7_meanRate) (maxL := 4) (ret := (some .int)) (by decide) rfl (Nat.le_of_ble_eq_true rfl) ?_
  intro p e s m below meth c hx hb hr hlocks hml hts hown hsz hA hG hP hD hS hin ls hl
  have hK := hG.1
  have hl : lv_has ls 4 [(0, .ref (a 0))] := hl
  have hinX7 : ∀ w ∈ u_ws RX7 TX7 19, w ∈ wsX7_meanRate := by decide +kernel
  have hm0 := hts (.fieldLink RX7 31 "ArcPlateModel" "code" "I") (by decide +kernel)
  have hm1 := hts (.fieldLink RX7 7 "ArcPlateModel" "m" "[I") (by decide +kernel)
  have hm2 := hts (.constant RX7 109 (-1000000000)) (by decide +kernel)
  have h12 := inv_S12 hI
  have hbody : ∀ (H : Heap) (locs : List Loc) (hP : va_P D vwCl (rfW cy a R) H) (hS : va_S (va_A (rfW cy a R) sz) s.heap H locs) (ls : Array Slot) (hl : lv_has ls 4 [(0, .ref (a 0))]), W p l e { frames := 7, cells := 0, slots := 0, locals := 152 } s m ([.ref (a 0)] : List Value).toArray below meth c H locs 0 0 (MQ below (kQi D (rfW cy a R) sz (fun u9 : Nat → Int → Int => rfW cy a u9) (fun r9 u9 => r9 = mrt (R 1) ∧ u9 = (upr R 0 (ups (R 0) 6 0)))) ([.ref (a 0)] : List Value).toArray s 0 0 (va_A (rfW cy a R) sz)) (F0 m 0 ls []) := by
    intro H locs hP hS ls hl
    refine lv_aload_n hx hb dX7_meanRate_0 rfl (lv_at hl 0 rfl) ?_
    refine k_iconst hx hb dX7_meanRate_1 ?_
    refine va_put (D := D) (ci := 6) (v := .int (iI 0)) (ty := .int) (C := RX7) (T := TX7) (N := 19) hx hb hts hinX7 tyX7 tyX7_ok nmX7 hown hK hP hD hS 0 rfl rfl 6 (by decide) hm0 (fun _ h9 => h9) rfl (by decide +kernel) rfl rfl (Nat.le_of_ble_eq_true rfl) dX7_meanRate_2 (fun H locs hP hD hS => ?_)
    have hP : va_P D vwCl (rfW cy a (upr R 0 (ups (R 0) 6 0))) H := hP
    have hD : va_D (va_A (rfW cy a R) sz) (rfW cy a (upr R 0 (ups (R 0) 6 0))) := hD
    refine k_iconst hx hb dX7_meanRate_5 ?_
    refine lv_istore_n (lv' := [(1, .int (iI 0)), (0, .ref (a 0))]) hx hb dX7_meanRate_6 rfl hl (by decide) rfl (fun ls hl => ?_)
    refine k_iconst hx hb dX7_meanRate_7 ?_
    refine lv_istore_n (lv' := [(2, .int (iI 0)), (1, .int (iI 0)), (0, .ref (a 0))]) hx hb dX7_meanRate_8 rfl hl (by decide) rfl (fun ls hl => ?_)
    refine k_iconst hx hb dX7_meanRate_9 ?_
    refine lv_istore_n (lv' := [(3, .int (iI 0)), (2, .int (iI 0)), (1, .int (iI 0)), (0, .ref (a 0))]) hx hb dX7_meanRate_10 rfl hl (by decide) rfl (fun ls hl => ?_)
    have loop11 : ∀ (n_1 : Nat) (t : Int) (x2 : Int) (x1 : Int) (hi0 : 0 ≤ t) (hi1 : t ≤ R 1 12) (hex2 : x2 = mrB (R 1) t) (hex1 : x1 = mrS (R 1) t) (hn : R 1 12 - t < (n_1 : Int)) (ls : Array Slot) (hl : lv_has ls 4 [(3, .int (iI t)), (2, .int (iI x2)), (1, .int (iI x1)), (0, .ref (a 0))]), W p l e { frames := 7, cells := 0, slots := 0, locals := 152 } s m ([.ref (a 0)] : List Value).toArray below meth c H locs 0 0 (MQ below (kQi D (rfW cy a R) sz (fun u9 : Nat → Int → Int => rfW cy a u9) (fun r9 u9 => r9 = mrt (R 1) ∧ u9 = (upr R 0 (ups (R 0) 6 0)))) ([.ref (a 0)] : List Value).toArray s 0 0 (va_A (rfW cy a R) sz)) (F0 m 11 ls []) := by
      intro n_1
      induction n_1 with
      | zero => intro t x2 x1 hi0 hi1 hex2 hex1 hn ls hl; exfalso; omega
      | succ n_1 ih11 =>
        intro t x2 x1 hi0 hi1 hex2 hex1 hn ls hl
        subst hex2
        subst hex1
        have hbb := mr_bd hI hi0 hi1
        refine lv_iload_n hx hb dX7_meanRate_11 rfl (lv_at hl 0 rfl) ?_
        refine lv_aload_n hx hb dX7_meanRate_12 rfl (lv_at hl 3 rfl) ?_
        refine va_get (D := D) (ci := 6) (v := .ref (a 1)) (C := RX7) (T := TX7) (N := 19) hx hb hts hinX7 hown hK hP 0 rfl rfl 0 (by decide) hm1 (fun _ h9 => h9) rfl dX7_meanRate_13 ?_
        refine k_bipush hx hb dX7_meanRate_16 (by decide +kernel) ?_
        refine k_iald hx hb hK hP 1 0 (f := R 1) rfl rfl (i := 12) (by omega) dX7_meanRate_18 ?_
        refine k_icmp_ge (tgt := 68) hx hb dX7_meanRate_19 (by decide) (by omega) (by omega) (fun c_2 => ?_) (fun c_2 => ?_)
        · skip
          refine lv_iload_n hx hb dX7_meanRate_68 rfl (lv_at hl 1 rfl) ?_
          refine k_if_ne (tgt := 77) hx hb dX7_meanRate_69 (by decide) (by omega) (fun c_3 => ?_) (fun c_3 => ?_)
          · skip
            refine lv_iload_n hx hb dX7_meanRate_77 rfl (lv_at hl 2 rfl) ?_
            refine lv_iload_n hx hb dX7_meanRate_78 rfl (lv_at hl 1 rfl) ?_
            refine k_roS (As := [.int (iI (mrS (R 1) t)), .int (iI (mrB (R 1) t))]) (rest := []) ⟨hx, hb, hml, hown, hts⟩ (c_X7_floor l D (mrS (R 1) t) (mrB (R 1) t) (show -1073741824 ≤ (mrS (R 1) t) ∧ (mrS (R 1) t) ≤ 1073741824 by omega) (show 0 < (mrB (R 1) t) ∧ (mrB (R 1) t) ≤ 1073741824 by omega)) gX7_meanRate_X7_floor rfl ⟨rfl, rfl⟩ 2 rfl (by decide +kernel) ⟨Nat.le_of_ble_eq_true rfl, Nat.le_of_ble_eq_true rfl⟩ kGT_ok trivial (fun k q h => by simp at h) hl.1 rfl (Nat.le_of_ble_eq_true rfl) ⟨Nat.le_of_ble_eq_true rfl, Nat.le_of_ble_eq_true rfl⟩ dX7_meanRate_79 (fun r_4 hr_4 => ?_)
            have hr_4 : r_4 = (mrS (R 1) t) / (mrB (R 1) t) := hr_4
            subst hr_4
            exact W.iret (v := iI ((mrS (R 1) t) / (mrB (R 1) t))) hx hb hr (fun t9 ht _ => ⟨⟨iI ((mrS (R 1) t) / (mrB (R 1) t)), (upr R 0 (ups (R 0) 6 0)), rfl, ⟨((mrS (R 1) t) / (mrB (R 1) t)), rfl, (⟨by have e9 : t = R 1 12 := (by omega); subst e9; unfold mrt; first | rw [if_pos (by assumption)] | rw [if_neg (by assumption)], rfl⟩ : ((mrS (R 1) t) / (mrB (R 1) t) : Int) = mrt (R 1) ∧ (upr R 0 (ups (R 0) 6 0)) = (upr R 0 (ups (R 0) 6 0)))⟩, by rw [ht]; exact hP, hD⟩, hS.F ht⟩) hS.2.2 dX7_meanRate_82 hlocks
          · skip
            refine k_ldc (z := (-1000000000)) hx hb hown hm2 (by decide +kernel) dX7_meanRate_72 ?_
            refine lv_goto (tgt := 82) hx hb dX7_meanRate_74 (by decide) ?_
            exact W.iret (v := iI (-1000000000)) hx hb hr (fun t9 ht _ => ⟨⟨iI (-1000000000), (upr R 0 (ups (R 0) 6 0)), rfl, ⟨(-1000000000), rfl, (⟨by have e9 : t = R 1 12 := (by omega); subst e9; unfold mrt; first | rw [if_pos (by assumption)] | rw [if_neg (by assumption)], rfl⟩ : ((-1000000000) : Int) = mrt (R 1) ∧ (upr R 0 (ups (R 0) 6 0)) = (upr R 0 (ups (R 0) 6 0)))⟩, by rw [ht]; exact hP, hD⟩, hS.F ht⟩) hS.2.2 dX7_meanRate_82 hlocks
        · skip
          refine lv_iload_n hx hb dX7_meanRate_22 rfl (lv_at hl 2 rfl) ?_
          refine lv_aload_n hx hb dX7_meanRate_23 rfl (lv_at hl 3 rfl) ?_
          refine lv_iload_n hx hb dX7_meanRate_24 rfl (lv_at hl 0 rfl) ?_
          refine k_roV (As := [.int (iI t)]) (rest := [.int (iI (mrS (R 1) t))]) ⟨hx, hb, hml, hown, hts⟩ (c_X7_isGood l D cy a (upr R 0 (ups (R 0) 6 0)) t hI (show 0 ≤ t by omega) (show t < (R 1) 12 by omega)) gX7_meanRate_X7_isGood rfl ⟨rfl, rfl⟩ 1 rfl (by decide +kernel) ⟨Nat.le_of_ble_eq_true rfl, Nat.le_of_ble_eq_true rfl⟩ (GG_ok D cy) ((GG_ok D cy).2.2.2 _ _ _ _ (fun _ h => h.elim) ((GG_ok D cy).1 _ _ _ _ hS.2.1 hG)) hP (va_recv hK hP (ci := 6) (q0 := 0) rfl rfl) hl.1 rfl (Nat.le_of_ble_eq_true rfl) ⟨Nat.le_of_ble_eq_true rfl, Nat.le_of_ble_eq_true rfl⟩ dX7_meanRate_25 (fun r_5 hr_5 => ?_)
          have hr_5 : ((isGoodP ((R 1)) t) ∧ r_5 = 1) ∨ (¬ (isGoodP ((R 1)) t) ∧ r_5 = 0) := hr_5
          rcases hr_5 with ⟨c_6, hr_5⟩ | ⟨c_6, hr_5⟩ <;> subst hr_5
          · skip
            have hg1 := c_6.1
            refine k_if_eq (tgt := 39) hx hb dX7_meanRate_28 (by decide) (by omega) (fun c_7 => ?_) (fun c_7 => ?_)
            · exfalso; omega
            · skip
              refine lv_aload_n hx hb dX7_meanRate_31 rfl (lv_at hl 3 rfl) ?_
              refine lv_iload_n hx hb dX7_meanRate_32 rfl (lv_at hl 0 rfl) ?_
              refine k_roV (As := [.int (iI t)]) (rest := [.int (iI (mrS (R 1) t))]) ⟨hx, hb, hml, hown, hts⟩ (c_X7_sweep l D cy a (upr R 0 (ups (R 0) 6 0)) t hI (show 0 ≤ t by omega) (show t < (R 1) 12 by omega) (show 0 < pts ((R 1)) t by omega)) gX7_meanRate_X7_sweep rfl ⟨rfl, rfl⟩ 1 rfl (by decide +kernel) ⟨Nat.le_of_ble_eq_true rfl, Nat.le_of_ble_eq_true rfl⟩ (GG_ok D cy) ((GG_ok D cy).2.2.2 _ _ _ _ (fun _ h => h.elim) ((GG_ok D cy).1 _ _ _ _ hS.2.1 hG)) hP (va_recv hK hP (ci := 6) (q0 := 0) rfl rfl) hl.1 rfl (Nat.le_of_ble_eq_true rfl) ⟨Nat.le_of_ble_eq_true rfl, Nat.le_of_ble_eq_true rfl⟩ dX7_meanRate_33 (fun r_8 hr_8 => ?_)
              have hr_8 : r_8 = swp ((R 1)) t := hr_8
              subst hr_8
              refine lv_goto (tgt := 40) hx hb dX7_meanRate_36 (by decide) ?_
              refine k_iadd hx hb dX7_meanRate_40 ?_
              refine lv_istore_n (lv' := [(1, .int (iI ((mrS (R 1) t) + (swp ((R 1)) t)))), (3, .int (iI t)), (2, .int (iI (mrB (R 1) t))), (0, .ref (a 0))]) hx hb dX7_meanRate_41 rfl hl (by decide) rfl (fun ls hl => ?_)
              refine lv_iload_n hx hb dX7_meanRate_42 rfl (lv_at hl 2 rfl) ?_
              refine lv_aload_n hx hb dX7_meanRate_43 rfl (lv_at hl 3 rfl) ?_
              refine lv_iload_n hx hb dX7_meanRate_44 rfl (lv_at hl 1 rfl) ?_
              refine k_roV (As := [.int (iI t)]) (rest := [.int (iI (mrB (R 1) t))]) ⟨hx, hb, hml, hown, hts⟩ (c_X7_isGood l D cy a (upr R 0 (ups (R 0) 6 0)) t hI (show 0 ≤ t by omega) (show t < (R 1) 12 by omega)) gX7_meanRate_X7_isGood rfl ⟨rfl, rfl⟩ 1 rfl (by decide +kernel) ⟨Nat.le_of_ble_eq_true rfl, Nat.le_of_ble_eq_true rfl⟩ (GG_ok D cy) ((GG_ok D cy).2.2.2 _ _ _ _ (fun _ h => h.elim) ((GG_ok D cy).1 _ _ _ _ hS.2.1 hG)) hP (va_recv hK hP (ci := 6) (q0 := 0) rfl rfl) hl.1 rfl (Nat.le_of_ble_eq_true rfl) ⟨Nat.le_of_ble_eq_true rfl, Nat.le_of_ble_eq_true rfl⟩ dX7_meanRate_45 (fun r_9 hr_9 => ?_)
              have hr_9 : ((isGoodP ((R 1)) t) ∧ r_9 = 1) ∨ (¬ (isGoodP ((R 1)) t) ∧ r_9 = 0) := hr_9
              rcases hr_9 with ⟨c_10, hr_9⟩ | ⟨c_10, hr_9⟩ <;> subst hr_9
              · skip
                have hg2 := c_10.1
                refine k_if_eq (tgt := 59) hx hb dX7_meanRate_48 (by decide) (by omega) (fun c_11 => ?_) (fun c_11 => ?_)
                · exfalso; omega
                · skip
                  refine lv_aload_n hx hb dX7_meanRate_51 rfl (lv_at hl 3 rfl) ?_
                  refine lv_iload_n hx hb dX7_meanRate_52 rfl (lv_at hl 1 rfl) ?_
                  refine k_roV (As := [.int (iI t)]) (rest := [.int (iI (mrB (R 1) t))]) ⟨hx, hb, hml, hown, hts⟩ (c_X7_frames l D cy a (upr R 0 (ups (R 0) 6 0)) t hI (show 0 ≤ t by omega) (show t < (R 1) 12 by omega) (show 0 < pts ((R 1)) t by omega)) gX7_meanRate_X7_frames rfl ⟨rfl, rfl⟩ 1 rfl (by decide +kernel) ⟨Nat.le_of_ble_eq_true rfl, Nat.le_of_ble_eq_true rfl⟩ (GG_ok D cy) ((GG_ok D cy).2.2.2 _ _ _ _ (fun _ h => h.elim) ((GG_ok D cy).1 _ _ _ _ hS.2.1 hG)) hP (va_recv hK hP (ci := 6) (q0 := 0) rfl rfl) hl.1 rfl (Nat.le_of_ble_eq_true rfl) ⟨Nat.le_of_ble_eq_true rfl, Nat.le_of_ble_eq_true rfl⟩ dX7_meanRate_53 (fun r_12 hr_12 => ?_)
                  have hr_12 : r_12 = fspan ((R 1)) t := hr_12
                  subst hr_12
                  refine lv_goto (tgt := 60) hx hb dX7_meanRate_56 (by decide) ?_
                  refine k_iadd hx hb dX7_meanRate_60 ?_
                  refine lv_istore_n (lv' := [(2, .int (iI ((mrB (R 1) t) + (fspan ((R 1)) t)))), (1, .int (iI ((mrS (R 1) t) + (swp ((R 1)) t)))), (3, .int (iI t)), (0, .ref (a 0))]) hx hb dX7_meanRate_61 rfl hl (by decide) rfl (fun ls hl => ?_)
                  refine lv_iinc (v := iI (t + 1)) (lv' := [(3, .int (iI (t + 1))), (2, .int (iI ((mrB (R 1) t) + (fspan ((R 1)) t)))), (1, .int (iI ((mrS (R 1) t) + (swp ((R 1)) t)))), (0, .ref (a 0))]) hx hb dX7_meanRate_62 hl (k := 2) rfl (iI_add _ _) (by decide) rfl (fun ls hl => ?_)
                  refine lv_goto (tgt := 11) hx hb dX7_meanRate_65 (by decide) ?_
                  exact ih11 (t + 1) ((mrB (R 1) t) + (fspan ((R 1)) t)) ((mrS (R 1) t) + (swp ((R 1)) t)) (by omega) (by omega) (by first | contradiction | (unfold mrB; rw [sumZ_s _ hi0]; (try dsimp only); first | rw [if_pos (by assumption)] | rw [if_neg (by assumption)])) (by first | contradiction | (unfold mrS; rw [sumZ_s _ hi0]; (try dsimp only); first | rw [if_pos (by assumption)] | rw [if_neg (by assumption)])) (by omega) ls (lv_sub hl [0, 1, 2, 3] rfl)
              · skip
                refine k_if_eq (tgt := 59) hx hb dX7_meanRate_48 (by decide) (by omega) (fun c_13 => ?_) (fun c_13 => ?_)
                · skip
                  refine k_iconst hx hb dX7_meanRate_59 ?_
                  refine k_iadd hx hb dX7_meanRate_60 ?_
                  refine lv_istore_n (lv' := [(2, .int (iI ((mrB (R 1) t) + 0))), (1, .int (iI ((mrS (R 1) t) + (swp ((R 1)) t)))), (3, .int (iI t)), (0, .ref (a 0))]) hx hb dX7_meanRate_61 rfl hl (by decide) rfl (fun ls hl => ?_)
                  refine lv_iinc (v := iI (t + 1)) (lv' := [(3, .int (iI (t + 1))), (2, .int (iI ((mrB (R 1) t) + 0))), (1, .int (iI ((mrS (R 1) t) + (swp ((R 1)) t)))), (0, .ref (a 0))]) hx hb dX7_meanRate_62 hl (k := 2) rfl (iI_add _ _) (by decide) rfl (fun ls hl => ?_)
                  refine lv_goto (tgt := 11) hx hb dX7_meanRate_65 (by decide) ?_
                  exact ih11 (t + 1) ((mrB (R 1) t) + 0) ((mrS (R 1) t) + (swp ((R 1)) t)) (by omega) (by omega) (by first | contradiction | (unfold mrB; rw [sumZ_s _ hi0]; (try dsimp only); first | rw [if_pos (by assumption)] | rw [if_neg (by assumption)])) (by first | contradiction | (unfold mrS; rw [sumZ_s _ hi0]; (try dsimp only); first | rw [if_pos (by assumption)] | rw [if_neg (by assumption)])) (by omega) ls (lv_sub hl [0, 1, 2, 3] rfl)
                · exfalso; omega
          · skip
            refine k_if_eq (tgt := 39) hx hb dX7_meanRate_28 (by decide) (by omega) (fun c_14 => ?_) (fun c_14 => ?_)
            · skip
              refine k_iconst hx hb dX7_meanRate_39 ?_
              refine k_iadd hx hb dX7_meanRate_40 ?_
              refine lv_istore_n (lv' := [(1, .int (iI ((mrS (R 1) t) + 0))), (3, .int (iI t)), (2, .int (iI (mrB (R 1) t))), (0, .ref (a 0))]) hx hb dX7_meanRate_41 rfl hl (by decide) rfl (fun ls hl => ?_)
              refine lv_iload_n hx hb dX7_meanRate_42 rfl (lv_at hl 2 rfl) ?_
              refine lv_aload_n hx hb dX7_meanRate_43 rfl (lv_at hl 3 rfl) ?_
              refine lv_iload_n hx hb dX7_meanRate_44 rfl (lv_at hl 1 rfl) ?_
              refine k_roV (As := [.int (iI t)]) (rest := [.int (iI (mrB (R 1) t))]) ⟨hx, hb, hml, hown, hts⟩ (c_X7_isGood l D cy a (upr R 0 (ups (R 0) 6 0)) t hI (show 0 ≤ t by omega) (show t < (R 1) 12 by omega)) gX7_meanRate_X7_isGood rfl ⟨rfl, rfl⟩ 1 rfl (by decide +kernel) ⟨Nat.le_of_ble_eq_true rfl, Nat.le_of_ble_eq_true rfl⟩ (GG_ok D cy) ((GG_ok D cy).2.2.2 _ _ _ _ (fun _ h => h.elim) ((GG_ok D cy).1 _ _ _ _ hS.2.1 hG)) hP (va_recv hK hP (ci := 6) (q0 := 0) rfl rfl) hl.1 rfl (Nat.le_of_ble_eq_true rfl) ⟨Nat.le_of_ble_eq_true rfl, Nat.le_of_ble_eq_true rfl⟩ dX7_meanRate_45 (fun r_15 hr_15 => ?_)
              have hr_15 : ((isGoodP ((R 1)) t) ∧ r_15 = 1) ∨ (¬ (isGoodP ((R 1)) t) ∧ r_15 = 0) := hr_15
              rcases hr_15 with ⟨c_16, hr_15⟩ | ⟨c_16, hr_15⟩ <;> subst hr_15
              · skip
                have hg2 := c_16.1
                refine k_if_eq (tgt := 59) hx hb dX7_meanRate_48 (by decide) (by omega) (fun c_17 => ?_) (fun c_17 => ?_)
                · exfalso; omega
                · skip
                  refine lv_aload_n hx hb dX7_meanRate_51 rfl (lv_at hl 3 rfl) ?_
                  refine lv_iload_n hx hb dX7_meanRate_52 rfl (lv_at hl 1 rfl) ?_
                  refine k_roV (As := [.int (iI t)]) (rest := [.int (iI (mrB (R 1) t))]) ⟨hx, hb, hml, hown, hts⟩ (c_X7_frames l D cy a (upr R 0 (ups (R 0) 6 0)) t hI (show 0 ≤ t by omega) (show t < (R 1) 12 by omega) (show 0 < pts ((R 1)) t by omega)) gX7_meanRate_X7_frames rfl ⟨rfl, rfl⟩ 1 rfl (by decide +kernel) ⟨Nat.le_of_ble_eq_true rfl, Nat.le_of_ble_eq_true rfl⟩ (GG_ok D cy) ((GG_ok D cy).2.2.2 _ _ _ _ (fun _ h => h.elim) ((GG_ok D cy).1 _ _ _ _ hS.2.1 hG)) hP (va_recv hK hP (ci := 6) (q0 := 0) rfl rfl) hl.1 rfl (Nat.le_of_ble_eq_true rfl) ⟨Nat.le_of_ble_eq_true rfl, Nat.le_of_ble_eq_true rfl⟩ dX7_meanRate_53 (fun r_18 hr_18 => ?_)
                  have hr_18 : r_18 = fspan ((R 1)) t := hr_18
                  subst hr_18
                  refine lv_goto (tgt := 60) hx hb dX7_meanRate_56 (by decide) ?_
                  refine k_iadd hx hb dX7_meanRate_60 ?_
                  refine lv_istore_n (lv' := [(2, .int (iI ((mrB (R 1) t) + (fspan ((R 1)) t)))), (1, .int (iI ((mrS (R 1) t) + 0))), (3, .int (iI t)), (0, .ref (a 0))]) hx hb dX7_meanRate_61 rfl hl (by decide) rfl (fun ls hl => ?_)
                  refine lv_iinc (v := iI (t + 1)) (lv' := [(3, .int (iI (t + 1))), (2, .int (iI ((mrB (R 1) t) + (fspan ((R 1)) t)))), (1, .int (iI ((mrS (R 1) t) + 0))), (0, .ref (a 0))]) hx hb dX7_meanRate_62 hl (k := 2) rfl (iI_add _ _) (by decide) rfl (fun ls hl => ?_)
                  refine lv_goto (tgt := 11) hx hb dX7_meanRate_65 (by decide) ?_
                  exact ih11 (t + 1) ((mrB (R 1) t) + (fspan ((R 1)) t)) ((mrS (R 1) t) + 0) (by omega) (by omega) (by first | contradiction | (unfold mrB; rw [sumZ_s _ hi0]; (try dsimp only); first | rw [if_pos (by assumption)] | rw [if_neg (by assumption)])) (by first | contradiction | (unfold mrS; rw [sumZ_s _ hi0]; (try dsimp only); first | rw [if_pos (by assumption)] | rw [if_neg (by assumption)])) (by omega) ls (lv_sub hl [0, 1, 2, 3] rfl)
              · skip
                refine k_if_eq (tgt := 59) hx hb dX7_meanRate_48 (by decide) (by omega) (fun c_19 => ?_) (fun c_19 => ?_)
                · skip
                  refine k_iconst hx hb dX7_meanRate_59 ?_
                  refine k_iadd hx hb dX7_meanRate_60 ?_
                  refine lv_istore_n (lv' := [(2, .int (iI ((mrB (R 1) t) + 0))), (1, .int (iI ((mrS (R 1) t) + 0))), (3, .int (iI t)), (0, .ref (a 0))]) hx hb dX7_meanRate_61 rfl hl (by decide) rfl (fun ls hl => ?_)
                  refine lv_iinc (v := iI (t + 1)) (lv' := [(3, .int (iI (t + 1))), (2, .int (iI ((mrB (R 1) t) + 0))), (1, .int (iI ((mrS (R 1) t) + 0))), (0, .ref (a 0))]) hx hb dX7_meanRate_62 hl (k := 2) rfl (iI_add _ _) (by decide) rfl (fun ls hl => ?_)
                  refine lv_goto (tgt := 11) hx hb dX7_meanRate_65 (by decide) ?_
                  exact ih11 (t + 1) ((mrB (R 1) t) + 0) ((mrS (R 1) t) + 0) (by omega) (by omega) (by first | contradiction | (unfold mrB; rw [sumZ_s _ hi0]; (try dsimp only); first | rw [if_pos (by assumption)] | rw [if_neg (by assumption)])) (by first | contradiction | (unfold mrS; rw [sumZ_s _ hi0]; (try dsimp only); first | rw [if_pos (by assumption)] | rw [if_neg (by assumption)])) (by omega) ls (lv_sub hl [0, 1, 2, 3] rfl)
                · exfalso; omega
            · exfalso; omega
    exact loop11 ((R 1 12 - 0 : Int) + 1).toNat 0 0 0 (by omega) (by omega) (rfl) (rfl) (by omega) ls (lv_sub hl [0, 1, 2, 3] rfl)
  exact hbody s.heap [] hP hS ls hl
set_option maxHeartbeats 4000000 in
set_option maxRecDepth 100000 in
theorem c_X7_meanScale (l : Launch) (D : va_G) (cy : Nat → ClassId) (sz : Nat) (a : Nat → Nat) (R : Nat → Int → Int)  (hI : Inv (R 1)) : Met l yX7_meanScale wsX7_meanScale { frames := 7, cells := 0, slots := 0, locals := 158 } (mPre (GG D cy) D (rfW cy a R) sz ([.ref (a 0)] : List Value)) (kQi D (rfW cy a R) sz (fun u9 : Nat → Int → Int => rfW cy a u9) (fun r9 u9 => (∃ (zs : Int → Int) (zt : Int → Int) (zq : Int → Int), ((0 : Int) = 0) ∧ r9 = msc (R 1) ∧ u9 = (upr (upr (upr (upr R 0 (ups (ups (ups (R 0) 6 0) 13 (mat (R 1) (R 1 8)).2.2.1) 14 (mat (R 1) (R 1 8)).2.2.2)) 4 (zq)) 5 (zs)) 6 (zt))))) 0 0 (va_A (rfW cy a R) sz) := by
  refine kM_start (cc := cX7_meanScale) (maxL := 4) (ret := (some .int)) (by decide) rfl (Nat.le_of_ble_eq_true rfl) ?_
  intro p e s m below meth c hx hb hr hlocks hml hts hown hsz hA hG hP hD hS hin ls hl
  have hK := hG.1
  have hl : lv_has ls 4 [(0, .ref (a 0))] := hl
  have hinX7 : ∀ w ∈ u_ws RX7 TX7 19, w ∈ wsX7_meanScale := by decide +kernel
  have hm0 := hts (.fieldLink RX7 31 "ArcPlateModel" "code" "I") (by decide +kernel)
  have hm1 := hts (.fieldLink RX7 7 "ArcPlateModel" "m" "[I") (by decide +kernel)
  have hm2 := hts (.constant RX7 109 (-1000000000)) (by decide +kernel)
  have hm3 := hts (.fieldLink RX7 22 "ArcPlateModel" "starOf" "[I") (by decide +kernel)
  have h12 := inv_S12 hI
  have hbody : ∀ (H : Heap) (locs : List Loc) (hP : va_P D vwCl (rfW cy a R) H) (hS : va_S (va_A (rfW cy a R) sz) s.heap H locs) (ls : Array Slot) (hl : lv_has ls 4 [(0, .ref (a 0))]), W p l e { frames := 7, cells := 0, slots := 0, locals := 158 } s m ([.ref (a 0)] : List Value).toArray below meth c H locs 0 0 (MQ below (kQi D (rfW cy a R) sz (fun u9 : Nat → Int → Int => rfW cy a u9) (fun r9 u9 => (∃ (zs : Int → Int) (zt : Int → Int) (zq : Int → Int), ((0 : Int) = 0) ∧ r9 = msc (R 1) ∧ u9 = (upr (upr (upr (upr R 0 (ups (ups (ups (R 0) 6 0) 13 (mat (R 1) (R 1 8)).2.2.1) 14 (mat (R 1) (R 1 8)).2.2.2)) 4 (zq)) 5 (zs)) 6 (zt))))) ([.ref (a 0)] : List Value).toArray s 0 0 (va_A (rfW cy a R) sz)) (F0 m 0 ls []) := by
    intro H locs hP hS ls hl
    refine lv_aload_n hx hb dX7_meanScale_0 rfl (lv_at hl 0 rfl) ?_
    refine k_iconst hx hb dX7_meanScale_1 ?_
    refine va_put (D := D) (ci := 6) (v := .int (iI 0)) (ty := .int) (C := RX7) (T := TX7) (N := 19) hx hb hts hinX7 tyX7 tyX7_ok nmX7 hown hK hP hD hS 0 rfl rfl 6 (by decide) hm0 (fun _ h9 => h9) rfl (by decide +kernel) rfl rfl (Nat.le_of_ble_eq_true rfl) dX7_meanScale_2 (fun H locs hP hD hS => ?_)
    have hP : va_P D vwCl (rfW cy a (upr R 0 (ups (R 0) 6 0))) H := hP
    have hD : va_D (va_A (rfW cy a R) sz) (rfW cy a (upr R 0 (ups (R 0) 6 0))) := hD
    refine lv_aload_n hx hb dX7_meanScale_5 rfl (lv_at hl 0 rfl) ?_
    refine k_muv (k_runV (As := []) (rest := []) ⟨hx, hb, hml, hown, hts⟩ (c_X7_match l D cy H.size a (upr R 0 (ups (R 0) 6 0)) hI) gX7_meanScale_X7_match rfl ⟨rfl, rfl⟩ 0 rfl (by decide +kernel) ⟨Nat.le_of_ble_eq_true rfl, Nat.le_of_ble_eq_true rfl⟩ (GG_ok D cy) hG hS (k_free hD hS hA) hP hD (va_recv hK hP (ci := 6) (q0 := 0) rfl rfl) hl.1 rfl (Nat.le_of_ble_eq_true rfl) ⟨Nat.le_of_ble_eq_true rfl, Nat.le_of_ble_eq_true rfl⟩ dX7_meanScale_6) (k_free hD hS hA) hS (fun R_2 H1 locs1 hR_2 hP1 hD1 hS1 hk1 => ?_)
    have hR_2 : ∃ (zs : Int → Int) (zt : Int → Int) (zq : Int → Int), (matR ((R 1)) ((R 1) 8) zs zt ∧ cstOK ((R 1)) ((R 1) 8) zq) ∧ (R_2 = (upr (upr (upr (upr (upr R 0 (ups (R 0) 6 0)) 0 (ups (ups ((ups (R 0) 6 0)) 13 (mat ((R 1)) ((R 1) 8)).2.2.1) 14 (mat ((R 1)) ((R 1) 8)).2.2.2)) 4 (zq)) 5 (zs)) 6 (zt))) := hR_2
    obtain ⟨zs_3, zt_4, zq_5, hf_6, hR_2⟩ := hR_2
    have hf_6 : matR ((R 1)) ((R 1) 8) zs_3 zt_4 ∧ cstOK ((R 1)) ((R 1) 8) zq_5 := hf_6
    subst hR_2
    have hDn : va_D (va_A (rfW cy a R) sz) (rfW cy a (upr (upr (upr (upr R 0 (ups (ups ((ups (R 0) 6 0)) 13 (mat ((R 1)) ((R 1) 8)).2.2.1) 14 (mat ((R 1)) ((R 1) 8)).2.2.2)) 4 (zq_5)) 5 (zs_3)) 6 (zt_4))) := k_addr hD rfl
    have hPn : va_P D vwCl (rfW cy a (upr (upr (upr (upr R 0 (ups (ups ((ups (R 0) 6 0)) 13 (mat ((R 1)) ((R 1) 8)).2.2.1) 14 (mat ((R 1)) ((R 1) 8)).2.2.2)) 4 (zq_5)) 5 (zs_3)) 6 (zt_4))) H1 := hP1
    clear hP hD hS hP1 hD1 hk1
    have hP := hPn
    have hD := hDn
    have hS := hS1
    clear hPn hDn hS1
    generalize H1 = H at hP hS ⊢
    generalize locs1 = locs at hS ⊢
    have hmt := hf_6
    have hW := mat_ok (R 1 8) hI
    refine k_iconst hx hb dX7_meanScale_9 ?_
    refine lv_istore_n (lv' := [(1, .int (iI 0)), (0, .ref (a 0))]) hx hb dX7_meanScale_10 rfl hl (by decide) rfl (fun ls hl => ?_)
    refine k_iconst hx hb dX7_meanScale_11 ?_
    refine lv_istore_n (lv' := [(2, .int (iI 0)), (1, .int (iI 0)), (0, .ref (a 0))]) hx hb dX7_meanScale_12 rfl hl (by decide) rfl (fun ls hl => ?_)
    refine k_iconst hx hb dX7_meanScale_13 ?_
    refine lv_istore_n (lv' := [(3, .int (iI 0)), (2, .int (iI 0)), (1, .int (iI 0)), (0, .ref (a 0))]) hx hb dX7_meanScale_14 rfl hl (by decide) rfl (fun ls hl => ?_)
    have loop15 : ∀ (n_7 : Nat) (t : Int) (x2 : Int) (x1 : Int) (hi0 : 0 ≤ t) (hi1 : t ≤ R 1 12) (hex2 : x2 = scB (R 1) t) (hex1 : x1 = scS (R 1) t) (hn : R 1 12 - t < (n_7 : Int)) (ls : Array Slot) (hl : lv_has ls 4 [(3, .int (iI t)), (2, .int (iI x2)), (1, .int (iI x1)), (0, .ref (a 0))]), W p l e { frames := 7, cells := 0, slots := 0, locals := 158 } s m ([.ref (a 0)] : List Value).toArray below meth c H locs 0 0 (MQ below (kQi D (rfW cy a R) sz (fun u9 : Nat → Int → Int => rfW cy a u9) (fun r9 u9 => (∃ (zs : Int → Int) (zt : Int → Int) (zq : Int → Int), ((0 : Int) = 0) ∧ r9 = msc (R 1) ∧ u9 = (upr (upr (upr (upr R 0 (ups (ups (ups (R 0) 6 0) 13 (mat (R 1) (R 1 8)).2.2.1) 14 (mat (R 1) (R 1 8)).2.2.2)) 4 (zq)) 5 (zs)) 6 (zt))))) ([.ref (a 0)] : List Value).toArray s 0 0 (va_A (rfW cy a R) sz)) (F0 m 15 ls []) := by
      intro n_7
      induction n_7 with
      | zero => intro t x2 x1 hi0 hi1 hex2 hex1 hn ls hl; exfalso; omega
      | succ n_7 ih15 =>
        intro t x2 x1 hi0 hi1 hex2 hex1 hn ls hl
        subst hex2
        subst hex1
        have hbb := sc_bd hI hi0 hi1
        refine lv_iload_n hx hb dX7_meanScale_15 rfl (lv_at hl 0 rfl) ?_
        refine lv_aload_n hx hb dX7_meanScale_16 rfl (lv_at hl 3 rfl) ?_
        refine va_get (D := D) (ci := 6) (v := .ref (a 1)) (C := RX7) (T := TX7) (N := 19) hx hb hts hinX7 hown hK hP 0 rfl rfl 0 (by decide) hm1 (fun _ h9 => h9) rfl dX7_meanScale_17 ?_
        refine k_bipush hx hb dX7_meanScale_20 (by decide +kernel) ?_
        refine k_iald hx hb hK hP 1 0 (f := R 1) rfl rfl (i := 12) (by omega) dX7_meanScale_22 ?_
        refine k_icmp_ge (tgt := 84) hx hb dX7_meanScale_23 (by decide) (by omega) (by omega) (fun c_8 => ?_) (fun c_8 => ?_)
        · skip
          refine lv_iload_n hx hb dX7_meanScale_84 rfl (lv_at hl 1 rfl) ?_
          refine k_if_ne (tgt := 93) hx hb dX7_meanScale_85 (by decide) (by omega) (fun c_9 => ?_) (fun c_9 => ?_)
          · skip
            refine k_sipush hx hb dX7_meanScale_93 (by decide +kernel) ?_
            refine lv_iload_n hx hb dX7_meanScale_96 rfl (lv_at hl 2 rfl) ?_
            refine k_imul hx hb dX7_meanScale_97 ?_
            refine lv_iload_n hx hb dX7_meanScale_98 rfl (lv_at hl 1 rfl) ?_
            refine k_idiv hx hb dX7_meanScale_99 (by omega) (by omega) ?_
            exact W.iret (v := iI ((1000 * (scS (R 1) t)) / (scB (R 1) t))) hx hb hr (fun t9 ht _ => ⟨⟨iI ((1000 * (scS (R 1) t)) / (scB (R 1) t)), (upr (upr (upr (upr R 0 (ups (ups ((ups (R 0) 6 0)) 13 (mat ((R 1)) ((R 1) 8)).2.2.1) 14 (mat ((R 1)) ((R 1) 8)).2.2.2)) 4 (zq_5)) 5 (zs_3)) 6 (zt_4)), rfl, ⟨((1000 * (scS (R 1) t)) / (scB (R 1) t)), rfl, (by first | exact ⟨(zs_3), (zt_4), (zq_5), (by omega), (by have e9 : t = R 1 12 := (by omega); subst e9; unfold msc; first | rw [if_pos (by assumption)] | rw [if_neg (by assumption)]), rfl⟩ : (∃ (zs : Int → Int) (zt : Int → Int) (zq : Int → Int), ((0 : Int) = 0) ∧ ((1000 * (scS (R 1) t)) / (scB (R 1) t) : Int) = msc (R 1) ∧ (upr (upr (upr (upr R 0 (ups (ups ((ups (R 0) 6 0)) 13 (mat ((R 1)) ((R 1) 8)).2.2.1) 14 (mat ((R 1)) ((R 1) 8)).2.2.2)) 4 (zq_5)) 5 (zs_3)) 6 (zt_4)) = (upr (upr (upr (upr R 0 (ups (ups (ups (R 0) 6 0) 13 (mat (R 1) (R 1 8)).2.2.1) 14 (mat (R 1) (R 1 8)).2.2.2)) 4 (zq)) 5 (zs)) 6 (zt))))⟩, by rw [ht]; exact hP, hD⟩, hS.F ht⟩) hS.2.2 dX7_meanScale_100 hlocks
          · skip
            refine k_ldc (z := (-1000000000)) hx hb hown hm2 (by decide +kernel) dX7_meanScale_88 ?_
            refine lv_goto (tgt := 100) hx hb dX7_meanScale_90 (by decide) ?_
            exact W.iret (v := iI (-1000000000)) hx hb hr (fun t9 ht _ => ⟨⟨iI (-1000000000), (upr (upr (upr (upr R 0 (ups (ups ((ups (R 0) 6 0)) 13 (mat ((R 1)) ((R 1) 8)).2.2.1) 14 (mat ((R 1)) ((R 1) 8)).2.2.2)) 4 (zq_5)) 5 (zs_3)) 6 (zt_4)), rfl, ⟨(-1000000000), rfl, (by first | exact ⟨(zs_3), (zt_4), (zq_5), (by omega), (by have e9 : t = R 1 12 := (by omega); subst e9; unfold msc; first | rw [if_pos (by assumption)] | rw [if_neg (by assumption)]), rfl⟩ : (∃ (zs : Int → Int) (zt : Int → Int) (zq : Int → Int), ((0 : Int) = 0) ∧ ((-1000000000) : Int) = msc (R 1) ∧ (upr (upr (upr (upr R 0 (ups (ups ((ups (R 0) 6 0)) 13 (mat ((R 1)) ((R 1) 8)).2.2.1) 14 (mat ((R 1)) ((R 1) 8)).2.2.2)) 4 (zq_5)) 5 (zs_3)) 6 (zt_4)) = (upr (upr (upr (upr R 0 (ups (ups (ups (R 0) 6 0) 13 (mat (R 1) (R 1 8)).2.2.1) 14 (mat (R 1) (R 1 8)).2.2.2)) 4 (zq)) 5 (zs)) 6 (zt))))⟩, by rw [ht]; exact hP, hD⟩, hS.F ht⟩) hS.2.2 dX7_meanScale_100 hlocks
        · skip
          refine lv_iload_n hx hb dX7_meanScale_26 rfl (lv_at hl 2 rfl) ?_
          refine lv_aload_n hx hb dX7_meanScale_27 rfl (lv_at hl 3 rfl) ?_
          refine va_get (D := D) (ci := 6) (v := .ref (a 5)) (C := RX7) (T := TX7) (N := 19) hx hb hts hinX7 hown hK hP 0 rfl rfl 11 (by decide) hm3 (fun _ h9 => h9) rfl dX7_meanScale_28 ?_
          refine lv_iload_n hx hb dX7_meanScale_31 rfl (lv_at hl 0 rfl) ?_
          refine k_iald hx hb hK hP 5 0 (f := zs_3) rfl rfl (i := t) (by omega) dX7_meanScale_32 ?_
          have hs1 := (hmt.1 t hi0 (by omega)).1
          have hw1 := hW.1 t hi0 (by omega)
          have hw3 := hW.2.2.1 t hi0 (by omega)
          refine k_ldc (z := (-1000000000)) hx hb hown hm2 (by decide +kernel) dX7_meanScale_33 ?_
          refine k_icmp_ne (tgt := 42) hx hb dX7_meanScale_35 (by decide) (by omega) (by omega) (fun c_10 => ?_) (fun c_10 => ?_)
          · skip
            have hs2 : ¬ (mat (R 1) (R 1 8)).1 t = -1000000000 := by omega
            have hw4 := hw3 hs2
            refine lv_aload_n hx hb dX7_meanScale_42 rfl (lv_at hl 3 rfl) ?_
            refine lv_iload_n hx hb dX7_meanScale_43 rfl (lv_at hl 0 rfl) ?_
            refine k_roV (As := [.int (iI t)]) (rest := [.int (iI (scS (R 1) t))]) ⟨hx, hb, hml, hown, hts⟩ (c_X7_radius l D cy a (upr (upr (upr (upr R 0 (ups (ups ((ups (R 0) 6 0)) 13 (mat ((R 1)) ((R 1) 8)).2.2.1) 14 (mat ((R 1)) ((R 1) 8)).2.2.2)) 4 (zq_5)) 5 (zs_3)) 6 (zt_4)) t hI (show 0 ≤ t by omega) (show t < (R 1) 12 by omega) (show 0 < pts ((R 1)) t by omega)) gX7_meanScale_X7_radius rfl ⟨rfl, rfl⟩ 1 rfl (by decide +kernel) ⟨Nat.le_of_ble_eq_true rfl, Nat.le_of_ble_eq_true rfl⟩ (GG_ok D cy) ((GG_ok D cy).2.2.2 _ _ _ _ (fun _ h => h.elim) ((GG_ok D cy).1 _ _ _ _ hS.2.1 hG)) hP (va_recv hK hP (ci := 6) (q0 := 0) rfl rfl) hl.1 rfl (Nat.le_of_ble_eq_true rfl) ⟨Nat.le_of_ble_eq_true rfl, Nat.le_of_ble_eq_true rfl⟩ dX7_meanScale_44 (fun r_11 hr_11 => ?_)
            have hr_11 : r_11 = rdT ((R 1)) t := hr_11
            subst hr_11
            refine k_iadd hx hb dX7_meanScale_47 ?_
            refine lv_istore_n (lv' := [(1, .int (iI ((scS (R 1) t) + (rdT ((R 1)) t)))), (3, .int (iI t)), (2, .int (iI (scB (R 1) t))), (0, .ref (a 0))]) hx hb dX7_meanScale_48 rfl hl (by decide) rfl (fun ls hl => ?_)
            refine lv_iload_n hx hb dX7_meanScale_49 rfl (lv_at hl 2 rfl) ?_
            refine lv_aload_n hx hb dX7_meanScale_50 rfl (lv_at hl 3 rfl) ?_
            refine va_get (D := D) (ci := 6) (v := .ref (a 5)) (C := RX7) (T := TX7) (N := 19) hx hb hts hinX7 hown hK hP 0 rfl rfl 11 (by decide) hm3 (fun _ h9 => h9) rfl dX7_meanScale_51 ?_
            refine lv_iload_n hx hb dX7_meanScale_54 rfl (lv_at hl 1 rfl) ?_
            refine k_iald hx hb hK hP 5 0 (f := zs_3) rfl rfl (i := t) (by omega) dX7_meanScale_55 ?_
            refine k_ldc (z := (-1000000000)) hx hb hown hm2 (by decide +kernel) dX7_meanScale_56 ?_
            refine k_icmp_ne (tgt := 65) hx hb dX7_meanScale_58 (by decide) (by omega) (by omega) (fun c_12 => ?_) (fun c_12 => ?_)
            · skip
              refine lv_aload_n hx hb dX7_meanScale_65 rfl (lv_at hl 3 rfl) ?_
              refine lv_aload_n hx hb dX7_meanScale_66 rfl (lv_at hl 3 rfl) ?_
              refine va_get (D := D) (ci := 6) (v := .ref (a 5)) (C := RX7) (T := TX7) (N := 19) hx hb hts hinX7 hown hK hP 0 rfl rfl 11 (by decide) hm3 (fun _ h9 => h9) rfl dX7_meanScale_67 ?_
              refine lv_iload_n hx hb dX7_meanScale_70 rfl (lv_at hl 1 rfl) ?_
              refine k_iald hx hb hK hP 5 0 (f := zs_3) rfl rfl (i := t) (by omega) dX7_meanScale_71 ?_
              refine k_iconst hx hb dX7_meanScale_72 ?_
              refine k_roV (As := [.int (iI (zs_3 t)), .int (iI 0)]) (rest := [.int (iI (scB (R 1) t))]) ⟨hx, hb, hml, hown, hts⟩ (c_X7_ofStar l D cy a (upr (upr (upr (upr R 0 (ups (ups ((ups (R 0) 6 0)) 13 (mat ((R 1)) ((R 1) 8)).2.2.1) 14 (mat ((R 1)) ((R 1) 8)).2.2.2)) 4 (zq_5)) 5 (zs_3)) 6 (zt_4)) (zs_3 t) 0 (show 0 ≤ (zs_3 t) by omega) (show (zs_3 t) < 12 by omega) (show 0 ≤ 0 by omega) (show 0 ≤ 2 by omega)) gX7_meanScale_X7_ofStar rfl ⟨rfl, rfl⟩ 2 rfl (by decide +kernel) ⟨Nat.le_of_ble_eq_true rfl, Nat.le_of_ble_eq_true rfl⟩ (GG_ok D cy) ((GG_ok D cy).2.2.2 _ _ _ _ (fun _ h => h.elim) ((GG_ok D cy).1 _ _ _ _ hS.2.1 hG)) hP (va_recv hK hP (ci := 6) (q0 := 0) rfl rfl) hl.1 rfl (Nat.le_of_ble_eq_true rfl) ⟨Nat.le_of_ble_eq_true rfl, Nat.le_of_ble_eq_true rfl⟩ dX7_meanScale_73 (fun r_13 hr_13 => ?_)
              have hr_13 : r_13 = (R 1) (458 + 3 * (zs_3 t) + 0) := hr_13
              subst hr_13
              refine k_iadd hx hb dX7_meanScale_76 ?_
              refine lv_istore_n (lv' := [(2, .int (iI ((scB (R 1) t) + ((R 1) (458 + 3 * (zs_3 t) + 0))))), (1, .int (iI ((scS (R 1) t) + (rdT ((R 1)) t)))), (3, .int (iI t)), (0, .ref (a 0))]) hx hb dX7_meanScale_77 rfl hl (by decide) rfl (fun ls hl => ?_)
              refine lv_iinc (v := iI (t + 1)) (lv' := [(3, .int (iI (t + 1))), (2, .int (iI ((scB (R 1) t) + ((R 1) (458 + 3 * (zs_3 t) + 0))))), (1, .int (iI ((scS (R 1) t) + (rdT ((R 1)) t)))), (0, .ref (a 0))]) hx hb dX7_meanScale_78 hl (k := 2) rfl (iI_add _ _) (by decide) rfl (fun ls hl => ?_)
              refine lv_goto (tgt := 15) hx hb dX7_meanScale_81 (by decide) ?_
              exact ih15 (t + 1) ((scB (R 1) t) + ((R 1) (458 + 3 * (zs_3 t) + 0))) ((scS (R 1) t) + (rdT ((R 1)) t)) (by omega) (by omega) (by first | (exfalso; omega) | (unfold scB; rw [sumZ_s _ hi0]; (try dsimp only); first | rw [if_pos hs2] | (rw [if_neg hs2, ← hs1, Int.add_zero]))) (by first | (exfalso; omega) | (unfold scS; rw [sumZ_s _ hi0]; (try dsimp only); first | rw [if_pos hs2] | rw [if_neg hs2])) (by omega) ls (lv_sub hl [0, 1, 2, 3] rfl)
            · skip
              refine k_iconst hx hb dX7_meanScale_61 ?_
              refine lv_goto (tgt := 76) hx hb dX7_meanScale_62 (by decide) ?_
              refine k_iadd hx hb dX7_meanScale_76 ?_
              refine lv_istore_n (lv' := [(2, .int (iI ((scB (R 1) t) + 0))), (1, .int (iI ((scS (R 1) t) + (rdT ((R 1)) t)))), (3, .int (iI t)), (0, .ref (a 0))]) hx hb dX7_meanScale_77 rfl hl (by decide) rfl (fun ls hl => ?_)
              refine lv_iinc (v := iI (t + 1)) (lv' := [(3, .int (iI (t + 1))), (2, .int (iI ((scB (R 1) t) + 0))), (1, .int (iI ((scS (R 1) t) + (rdT ((R 1)) t)))), (0, .ref (a 0))]) hx hb dX7_meanScale_78 hl (k := 2) rfl (iI_add _ _) (by decide) rfl (fun ls hl => ?_)
              refine lv_goto (tgt := 15) hx hb dX7_meanScale_81 (by decide) ?_
              exact ih15 (t + 1) ((scB (R 1) t) + 0) ((scS (R 1) t) + (rdT ((R 1)) t)) (by omega) (by omega) (by first | (exfalso; omega) | (unfold scB; rw [sumZ_s _ hi0]; (try dsimp only); first | rw [if_pos hs2] | (rw [if_neg hs2, ← hs1, Int.add_zero]))) (by first | (exfalso; omega) | (unfold scS; rw [sumZ_s _ hi0]; (try dsimp only); first | rw [if_pos hs2] | rw [if_neg hs2])) (by omega) ls (lv_sub hl [0, 1, 2, 3] rfl)
          · skip
            have hs2 : (mat (R 1) (R 1 8)).1 t = -1000000000 := by omega
            refine k_iconst hx hb dX7_meanScale_38 ?_
            refine lv_goto (tgt := 47) hx hb dX7_meanScale_39 (by decide) ?_
            refine k_iadd hx hb dX7_meanScale_47 ?_
            refine lv_istore_n (lv' := [(1, .int (iI ((scS (R 1) t) + 0))), (3, .int (iI t)), (2, .int (iI (scB (R 1) t))), (0, .ref (a 0))]) hx hb dX7_meanScale_48 rfl hl (by decide) rfl (fun ls hl => ?_)
            refine lv_iload_n hx hb dX7_meanScale_49 rfl (lv_at hl 2 rfl) ?_
            refine lv_aload_n hx hb dX7_meanScale_50 rfl (lv_at hl 3 rfl) ?_
            refine va_get (D := D) (ci := 6) (v := .ref (a 5)) (C := RX7) (T := TX7) (N := 19) hx hb hts hinX7 hown hK hP 0 rfl rfl 11 (by decide) hm3 (fun _ h9 => h9) rfl dX7_meanScale_51 ?_
            refine lv_iload_n hx hb dX7_meanScale_54 rfl (lv_at hl 1 rfl) ?_
            refine k_iald hx hb hK hP 5 0 (f := zs_3) rfl rfl (i := t) (by omega) dX7_meanScale_55 ?_
            refine k_ldc (z := (-1000000000)) hx hb hown hm2 (by decide +kernel) dX7_meanScale_56 ?_
            refine k_icmp_ne (tgt := 65) hx hb dX7_meanScale_58 (by decide) (by omega) (by omega) (fun c_14 => ?_) (fun c_14 => ?_)
            · skip
              refine lv_aload_n hx hb dX7_meanScale_65 rfl (lv_at hl 3 rfl) ?_
              refine lv_aload_n hx hb dX7_meanScale_66 rfl (lv_at hl 3 rfl) ?_
              refine va_get (D := D) (ci := 6) (v := .ref (a 5)) (C := RX7) (T := TX7) (N := 19) hx hb hts hinX7 hown hK hP 0 rfl rfl 11 (by decide) hm3 (fun _ h9 => h9) rfl dX7_meanScale_67 ?_
              refine lv_iload_n hx hb dX7_meanScale_70 rfl (lv_at hl 1 rfl) ?_
              refine k_iald hx hb hK hP 5 0 (f := zs_3) rfl rfl (i := t) (by omega) dX7_meanScale_71 ?_
              refine k_iconst hx hb dX7_meanScale_72 ?_
              refine k_roV (As := [.int (iI (zs_3 t)), .int (iI 0)]) (rest := [.int (iI (scB (R 1) t))]) ⟨hx, hb, hml, hown, hts⟩ (c_X7_ofStar l D cy a (upr (upr (upr (upr R 0 (ups (ups ((ups (R 0) 6 0)) 13 (mat ((R 1)) ((R 1) 8)).2.2.1) 14 (mat ((R 1)) ((R 1) 8)).2.2.2)) 4 (zq_5)) 5 (zs_3)) 6 (zt_4)) (zs_3 t) 0 (show 0 ≤ (zs_3 t) by omega) (show (zs_3 t) < 12 by omega) (show 0 ≤ 0 by omega) (show 0 ≤ 2 by omega)) gX7_meanScale_X7_ofStar rfl ⟨rfl, rfl⟩ 2 rfl (by decide +kernel) ⟨Nat.le_of_ble_eq_true rfl, Nat.le_of_ble_eq_true rfl⟩ (GG_ok D cy) ((GG_ok D cy).2.2.2 _ _ _ _ (fun _ h => h.elim) ((GG_ok D cy).1 _ _ _ _ hS.2.1 hG)) hP (va_recv hK hP (ci := 6) (q0 := 0) rfl rfl) hl.1 rfl (Nat.le_of_ble_eq_true rfl) ⟨Nat.le_of_ble_eq_true rfl, Nat.le_of_ble_eq_true rfl⟩ dX7_meanScale_73 (fun r_15 hr_15 => ?_)
              have hr_15 : r_15 = (R 1) (458 + 3 * (zs_3 t) + 0) := hr_15
              subst hr_15
              refine k_iadd hx hb dX7_meanScale_76 ?_
              refine lv_istore_n (lv' := [(2, .int (iI ((scB (R 1) t) + ((R 1) (458 + 3 * (zs_3 t) + 0))))), (1, .int (iI ((scS (R 1) t) + 0))), (3, .int (iI t)), (0, .ref (a 0))]) hx hb dX7_meanScale_77 rfl hl (by decide) rfl (fun ls hl => ?_)
              refine lv_iinc (v := iI (t + 1)) (lv' := [(3, .int (iI (t + 1))), (2, .int (iI ((scB (R 1) t) + ((R 1) (458 + 3 * (zs_3 t) + 0))))), (1, .int (iI ((scS (R 1) t) + 0))), (0, .ref (a 0))]) hx hb dX7_meanScale_78 hl (k := 2) rfl (iI_add _ _) (by decide) rfl (fun ls hl => ?_)
              refine lv_goto (tgt := 15) hx hb dX7_meanScale_81 (by decide) ?_
              exact ih15 (t + 1) ((scB (R 1) t) + ((R 1) (458 + 3 * (zs_3 t) + 0))) ((scS (R 1) t) + 0) (by omega) (by omega) (by first | (exfalso; omega) | (unfold scB; rw [sumZ_s _ hi0]; (try dsimp only); first | rw [if_pos hs2] | (rw [if_neg hs2, ← hs1, Int.add_zero]))) (by first | (exfalso; omega) | (unfold scS; rw [sumZ_s _ hi0]; (try dsimp only); first | rw [if_pos hs2] | rw [if_neg hs2])) (by omega) ls (lv_sub hl [0, 1, 2, 3] rfl)
            · skip
              refine k_iconst hx hb dX7_meanScale_61 ?_
              refine lv_goto (tgt := 76) hx hb dX7_meanScale_62 (by decide) ?_
              refine k_iadd hx hb dX7_meanScale_76 ?_
              refine lv_istore_n (lv' := [(2, .int (iI ((scB (R 1) t) + 0))), (1, .int (iI ((scS (R 1) t) + 0))), (3, .int (iI t)), (0, .ref (a 0))]) hx hb dX7_meanScale_77 rfl hl (by decide) rfl (fun ls hl => ?_)
              refine lv_iinc (v := iI (t + 1)) (lv' := [(3, .int (iI (t + 1))), (2, .int (iI ((scB (R 1) t) + 0))), (1, .int (iI ((scS (R 1) t) + 0))), (0, .ref (a 0))]) hx hb dX7_meanScale_78 hl (k := 2) rfl (iI_add _ _) (by decide) rfl (fun ls hl => ?_)
              refine lv_goto (tgt := 15) hx hb dX7_meanScale_81 (by decide) ?_
              exact ih15 (t + 1) ((scB (R 1) t) + 0) ((scS (R 1) t) + 0) (by omega) (by omega) (by first | (exfalso; omega) | (unfold scB; rw [sumZ_s _ hi0]; (try dsimp only); first | rw [if_pos hs2] | (rw [if_neg hs2, ← hs1, Int.add_zero]))) (by first | (exfalso; omega) | (unfold scS; rw [sumZ_s _ hi0]; (try dsimp only); first | rw [if_pos hs2] | rw [if_neg hs2])) (by omega) ls (lv_sub hl [0, 1, 2, 3] rfl)
    exact loop15 ((R 1 12 - 0 : Int) + 1).toNat 0 0 0 (by omega) (by omega) (rfl) (rfl) (by omega) ls (lv_sub hl [0, 1, 2, 3] rfl)
  exact hbody s.heap [] hP hS ls hl
set_option maxHeartbeats 4000000 in
set_option maxRecDepth 100000 in
theorem c_X7_bestZero (l : Launch) (D : va_G) (cy : Nat → ClassId) (sz : Nat) (a : Nat → Nat) (R : Nat → Int → Int)  (hI : Inv (R 1)) : Met l yX7_bestZero wsX7_bestZero { frames := 7, cells := 0, slots := 0, locals := 158 } (mPre (GG D cy) D (rfW cy a R) sz ([.ref (a 0)] : List Value)) (kQi D (rfW cy a R) sz (fun u9 : Nat → Int → Int => rfW cy a u9) (fun r9 u9 => (∃ (zs : Int → Int) (zt : Int → Int) (zq : Int → Int) (zm : Int) (zn : Int), ((0 : Int) = 0) ∧ r9 = bzF (R 1) ∧ u9 = (upr (upr (upr (upr (upr R 0 (ups (ups (ups (R 0) 6 0) 13 zm) 14 zn)) 1 (R 1)) 4 (zq)) 5 (zs)) 6 (zt))))) 0 0 (va_A (rfW cy a R) sz) := by
  refine kM_start (cc := cX7_bestZero) (maxL := 10) (ret := (some .int)) (by decide) rfl (Nat.le_of_ble_eq_true rfl) ?_
  intro p e s m below meth c hx hb hr hlocks hml hts hown hsz hA hG hP hD hS hin ls hl
  have hK := hG.1
  have hl : lv_has ls 10 [(0, .ref (a 0))] := hl
  have hinX7 : ∀ w ∈ u_ws RX7 TX7 19, w ∈ wsX7_bestZero := by decide +kernel
  have hm0 := hts (.fieldLink RX7 31 "ArcPlateModel" "code" "I") (by decide +kernel)
  have hm1 := hts (.fieldLink RX7 7 "ArcPlateModel" "m" "[I") (by decide +kernel)
  have hm2 := hts (.constant RX7 109 (-1000000000)) (by decide +kernel)
  have hm3 := hts (.fieldLink RX7 204 "ArcPlateModel" "sumOfCosts" "I") (by decide +kernel)
  have hm4 := hts (.fieldLink RX7 201 "ArcPlateModel" "matches" "I") (by decide +kernel)
  have h12 := inv_S12 hI
  have hbody : ∀ (H : Heap) (locs : List Loc) (hP : va_P D vwCl (rfW cy a R) H) (hS : va_S (va_A (rfW cy a R) sz) s.heap H locs) (ls : Array Slot) (hl : lv_has ls 10 [(0, .ref (a 0))]), W p l e { frames := 7, cells := 0, slots := 0, locals := 158 } s m ([.ref (a 0)] : List Value).toArray below meth c H locs 0 0 (MQ below (kQi D (rfW cy a R) sz (fun u9 : Nat → Int → Int => rfW cy a u9) (fun r9 u9 => (∃ (zs : Int → Int) (zt : Int → Int) (zq : Int → Int) (zm : Int) (zn : Int), ((0 : Int) = 0) ∧ r9 = bzF (R 1) ∧ u9 = (upr (upr (upr (upr (upr R 0 (ups (ups (ups (R 0) 6 0) 13 zm) 14 zn)) 1 (R 1)) 4 (zq)) 5 (zs)) 6 (zt))))) ([.ref (a 0)] : List Value).toArray s 0 0 (va_A (rfW cy a R) sz)) (F0 m 0 ls []) := by
    intro H locs hP hS ls hl
    refine lv_aload_n hx hb dX7_bestZero_0 rfl (lv_at hl 0 rfl) ?_
    refine k_iconst hx hb dX7_bestZero_1 ?_
    refine va_put (D := D) (ci := 6) (v := .int (iI 0)) (ty := .int) (C := RX7) (T := TX7) (N := 19) hx hb hts hinX7 tyX7 tyX7_ok nmX7 hown hK hP hD hS 0 rfl rfl 6 (by decide) hm0 (fun _ h9 => h9) rfl (by decide +kernel) rfl rfl (Nat.le_of_ble_eq_true rfl) dX7_bestZero_2 (fun H locs hP hD hS => ?_)
    have hP : va_P D vwCl (rfW cy a (upr R 0 (ups (R 0) 6 0))) H := hP
    have hD : va_D (va_A (rfW cy a R) sz) (rfW cy a (upr R 0 (ups (R 0) 6 0))) := hD
    refine lv_aload_n hx hb dX7_bestZero_5 rfl (lv_at hl 0 rfl) ?_
    refine va_get (D := D) (ci := 6) (v := .ref (a 1)) (C := RX7) (T := TX7) (N := 19) hx hb hts hinX7 hown hK hP 0 rfl rfl 0 (by decide) hm1 (fun _ h9 => h9) rfl dX7_bestZero_6 ?_
    refine k_bipush hx hb dX7_bestZero_9 (by decide +kernel) ?_
    refine k_iald hx hb hK hP 1 0 (f := R 1) rfl rfl (i := 8) (by omega) dX7_bestZero_11 ?_
    refine lv_istore_n (lv' := [(1, .int (iI (R 1 8))), (0, .ref (a 0))]) hx hb dX7_bestZero_12 rfl hl (by decide) rfl (fun ls hl => ?_)
    refine k_ldc (z := (-1000000000)) hx hb hown hm2 (by decide +kernel) dX7_bestZero_13 ?_
    refine lv_istore_n (lv' := [(2, .int (iI (-1000000000))), (1, .int (iI (R 1 8))), (0, .ref (a 0))]) hx hb dX7_bestZero_15 rfl hl (by decide) rfl (fun ls hl => ?_)
    refine k_iconst hx hb dX7_bestZero_16 ?_
    refine lv_istore_n (lv' := [(3, .int (iI 0)), (2, .int (iI (-1000000000))), (1, .int (iI (R 1 8))), (0, .ref (a 0))]) hx hb dX7_bestZero_17 rfl hl (by decide) rfl (fun ls hl => ?_)
    refine k_iconst hx hb dX7_bestZero_18 ?_
    refine lv_istore (lv' := [(4, .int (iI 0)), (3, .int (iI 0)), (2, .int (iI (-1000000000))), (1, .int (iI (R 1 8))), (0, .ref (a 0))]) hx hb dX7_bestZero_19 hl (by decide) rfl (fun ls hl => ?_)
    refine k_iconst hx hb dX7_bestZero_21 ?_
    refine lv_istore (lv' := [(5, .int (iI 0)), (4, .int (iI 0)), (3, .int (iI 0)), (2, .int (iI (-1000000000))), (1, .int (iI (R 1 8))), (0, .ref (a 0))]) hx hb dX7_bestZero_22 hl (by decide) rfl (fun ls hl => ?_)
    have loop24 : ∀ (n_1 : Nat) (k : Int) (b : Int) (mo : Int) (le : Int) (g8 : Int) (gm : Int) (gn : Int) (S4 : Int → Int) (S5 : Int → Int) (S6 : Int → Int) (hi0 : 0 ≤ k) (hi1 : k ≤ R 1 13 * R 1 12) (hi2 : bzI (R 1) k.toNat = (b, mo, le)) (hi3 : 0 ≤ g8 ∧ g8 ≤ 359999) (hi4 : (b = -1000000000 ∨ (0 ≤ b ∧ b ≤ 359999)) ∧ (0 ≤ mo ∧ mo ≤ 12) ∧ (0 ≤ le ∧ le ≤ 121200000)) (hn : R 1 13 * R 1 12 - k < (n_1 : Int)) (H : Heap) (locs : List Loc) (hP : va_P D vwCl (rfW cy a (upr (upr (upr (upr (upr R 0 (ups (ups (ups (R 0) 6 0) 13 gm) 14 gn)) 1 (ups (R 1) 8 g8)) 4 (S4)) 5 (S5)) 6 (S6))) H) (hD : va_D (va_A (rfW cy a R) sz) (rfW cy a (upr (upr (upr (upr (upr R 0 (ups (ups (ups (R 0) 6 0) 13 gm) 14 gn)) 1 (ups (R 1) 8 g8)) 4 (S4)) 5 (S5)) 6 (S6)))) (hS : va_S (va_A (rfW cy a R) sz) s.heap H locs) (ls : Array Slot) (hl : lv_has ls 10 [(5, .int (iI k)), (4, .int (iI le)), (3, .int (iI mo)), (2, .int (iI b)), (1, .int (iI (R 1 8))), (0, .ref (a 0))]), W p l e { frames := 7, cells := 0, slots := 0, locals := 158 } s m ([.ref (a 0)] : List Value).toArray below meth c H locs 0 0 (MQ below (kQi D (rfW cy a R) sz (fun u9 : Nat → Int → Int => rfW cy a u9) (fun r9 u9 => (∃ (zs : Int → Int) (zt : Int → Int) (zq : Int → Int) (zm : Int) (zn : Int), ((0 : Int) = 0) ∧ r9 = bzF (R 1) ∧ u9 = (upr (upr (upr (upr (upr R 0 (ups (ups (ups (R 0) 6 0) 13 zm) 14 zn)) 1 (R 1)) 4 (zq)) 5 (zs)) 6 (zt))))) ([.ref (a 0)] : List Value).toArray s 0 0 (va_A (rfW cy a R) sz)) (F0 m 24 ls []) := by
      intro n_1
      induction n_1 with
      | zero => intro k b mo le g8 gm gn S4 S5 S6 hi0 hi1 hi2 hi3 hi4 hn H locs hP hD hS ls hl; exfalso; omega
      | succ n_1 ih24 =>
        intro k b mo le g8 gm gn S4 S5 S6 hi0 hi1 hi2 hi3 hi4 hn H locs hP hD hS ls hl
        have hIg := inv_u8 hI hi3
        have hkk := mul_bd2 (u := R 1 13) (f := R 1 12) (a := 12) (b := 12) (by omega) (by omega)
        refine lv_iload hx hb dX7_bestZero_24 (lv_at hl 0 rfl) ?_
        refine lv_aload_n hx hb dX7_bestZero_26 rfl (lv_at hl 5 rfl) ?_
        refine va_get (D := D) (ci := 6) (v := .ref (a 1)) (C := RX7) (T := TX7) (N := 19) hx hb hts hinX7 hown hK hP 0 rfl rfl 0 (by decide) hm1 (fun _ h9 => h9) rfl dX7_bestZero_27 ?_
        refine k_bipush hx hb dX7_bestZero_30 (by decide +kernel) ?_
        refine k_iald hx hb hK hP 1 0 (f := ups (R 1) 8 g8) rfl rfl (i := 13) (by omega) dX7_bestZero_32 ?_
        refine k_eqI (v := (ups (R 1) 8 g8) 13) (w := R 1 13) rfl ?_
        refine lv_aload_n hx hb dX7_bestZero_33 rfl (lv_at hl 5 rfl) ?_
        refine va_get (D := D) (ci := 6) (v := .ref (a 1)) (C := RX7) (T := TX7) (N := 19) hx hb hts hinX7 hown hK hP 0 rfl rfl 0 (by decide) hm1 (fun _ h9 => h9) rfl dX7_bestZero_34 ?_
        refine k_bipush hx hb dX7_bestZero_37 (by decide +kernel) ?_
        refine k_iald hx hb hK hP 1 0 (f := ups (R 1) 8 g8) rfl rfl (i := 12) (by omega) dX7_bestZero_39 ?_
        refine k_eqI (v := (ups (R 1) 8 g8) 12) (w := R 1 12) rfl ?_
        refine k_imul hx hb dX7_bestZero_40 ?_
        refine k_icmp_ge (tgt := 229) hx hb dX7_bestZero_41 (by decide) (by omega) (by omega) (fun c_2 => ?_) (fun c_2 => ?_)
        · skip
          refine lv_aload_n hx hb dX7_bestZero_229 rfl (lv_at hl 5 rfl) ?_
          refine va_get (D := D) (ci := 6) (v := .ref (a 1)) (C := RX7) (T := TX7) (N := 19) hx hb hts hinX7 hown hK hP 0 rfl rfl 0 (by decide) hm1 (fun _ h9 => h9) rfl dX7_bestZero_230 ?_
          refine k_bipush hx hb dX7_bestZero_233 (by decide +kernel) ?_
          refine lv_iload_n hx hb dX7_bestZero_235 rfl (lv_at hl 4 rfl) ?_
          refine k_iast hx hb hK hP hD hS 1 0 (f := ups (R 1) 8 g8) rfl rfl (i := 8) (x := R 1 8) (by omega) dX7_bestZero_236 (fun H locs hP hD hS => ?_)
          have hP : va_P D vwCl (rfW cy a (upr (upr (upr (upr (upr R 0 (ups (ups (ups (R 0) 6 0) 13 gm) 14 gn)) 1 (ups (ups (R 1) 8 g8) 8 (R 1 8))) 4 (S4)) 5 (S5)) 6 (S6))) H := hP
          have hD : va_D (va_A (rfW cy a R) sz) (rfW cy a (upr (upr (upr (upr (upr R 0 (ups (ups (ups (R 0) 6 0) 13 gm) 14 gn)) 1 (ups (ups (R 1) 8 g8) 8 (R 1 8))) 4 (S4)) 5 (S5)) 6 (S6))) := hD
          refine lv_iload_n hx hb dX7_bestZero_237 rfl (lv_at hl 3 rfl) ?_
          exact W.iret (v := iI b) hx hb hr (fun t9 ht _ => ⟨⟨iI b, (upr (upr (upr (upr (upr R 0 (ups (ups (ups (R 0) 6 0) 13 gm) 14 gn)) 1 (ups (ups (R 1) 8 g8) 8 (R 1 8))) 4 (S4)) 5 (S5)) 6 (S6)), rfl, ⟨b, rfl, (by first | exact ⟨(S5), (S6), (S4), (gm), (gn), (by omega), (by show b = (bzI (R 1) (R 1 13 * R 1 12).toNat).1; rw [show R 1 13 * R 1 12 = k by omega, hi2]), (by rw [show (ups (ups (R 1) 8 g8) 8 (R 1 8)) = (R 1) from by rw [ups_ups, ups_self]])⟩ : (∃ (zs : Int → Int) (zt : Int → Int) (zq : Int → Int) (zm : Int) (zn : Int), ((0 : Int) = 0) ∧ (b : Int) = bzF (R 1) ∧ (upr (upr (upr (upr (upr R 0 (ups (ups (ups (R 0) 6 0) 13 gm) 14 gn)) 1 (ups (ups (R 1) 8 g8) 8 (R 1 8))) 4 (S4)) 5 (S5)) 6 (S6)) = (upr (upr (upr (upr (upr R 0 (ups (ups (ups (R 0) 6 0) 13 zm) 14 zn)) 1 (R 1)) 4 (zq)) 5 (zs)) 6 (zt))))⟩, by rw [ht]; exact hP, hD⟩, hS.F ht⟩) hS.2.2 dX7_bestZero_238 hlocks
        · skip
          obtain ⟨h13p, hkd, hkm⟩ := bz_pos hi0 (by omega) c_2
          have hpt := inv_pts hI hkd.1 hkd.2
          refine lv_iload hx hb dX7_bestZero_44 (lv_at hl 0 rfl) ?_
          refine lv_aload_n hx hb dX7_bestZero_46 rfl (lv_at hl 5 rfl) ?_
          refine va_get (D := D) (ci := 6) (v := .ref (a 1)) (C := RX7) (T := TX7) (N := 19) hx hb hts hinX7 hown hK hP 0 rfl rfl 0 (by decide) hm1 (fun _ h9 => h9) rfl dX7_bestZero_47 ?_
          refine k_bipush hx hb dX7_bestZero_50 (by decide +kernel) ?_
          refine k_iald hx hb hK hP 1 0 (f := ups (R 1) 8 g8) rfl rfl (i := 13) (by omega) dX7_bestZero_52 ?_
          refine k_eqI (v := (ups (R 1) 8 g8) 13) (w := R 1 13) rfl ?_
          refine k_idiv hx hb dX7_bestZero_53 (by omega) (by omega) ?_
          refine lv_istore (lv' := [(6, .int (iI (k / (R 1 13)))), (5, .int (iI k)), (4, .int (iI le)), (3, .int (iI mo)), (2, .int (iI b)), (1, .int (iI (R 1 8))), (0, .ref (a 0))]) hx hb dX7_bestZero_54 hl (by decide) rfl (fun ls hl => ?_)
          refine lv_aload_n hx hb dX7_bestZero_56 rfl (lv_at hl 6 rfl) ?_
          refine lv_iload hx hb dX7_bestZero_57 (lv_at hl 0 rfl) ?_
          refine k_roV (As := [.int (iI (k / (R 1 13)))]) (rest := []) ⟨hx, hb, hml, hown, hts⟩ (c_X7_points l D cy a (upr (upr (upr (upr (upr R 0 (ups (ups (ups (R 0) 6 0) 13 gm) 14 gn)) 1 (ups (R 1) 8 g8)) 4 (S4)) 5 (S5)) 6 (S6)) (k / (R 1 13)) (show 0 ≤ (k / (R 1 13)) by omega) (show (k / (R 1 13)) < 12 by omega)) gX7_bestZero_X7_points rfl ⟨rfl, rfl⟩ 1 rfl (by decide +kernel) ⟨Nat.le_of_ble_eq_true rfl, Nat.le_of_ble_eq_true rfl⟩ (GG_ok D cy) ((GG_ok D cy).2.2.2 _ _ _ _ (fun _ h => h.elim) ((GG_ok D cy).1 _ _ _ _ hS.2.1 hG)) hP (va_recv hK hP (ci := 6) (q0 := 0) rfl rfl) hl.1 rfl (Nat.le_of_ble_eq_true rfl) ⟨Nat.le_of_ble_eq_true rfl, Nat.le_of_ble_eq_true rfl⟩ dX7_bestZero_59 (fun r_3 hr_3 => ?_)
          have hr_3 : r_3 = pts ((ups (R 1) 8 g8)) (k / (R 1 13)) := hr_3
          subst hr_3
          refine k_eqI (v := pts ((ups (R 1) 8 g8)) (k / (R 1 13))) (w := pts (R 1) (k / R 1 13)) (u8_pts (R 1) g8 _ hkd.1) ?_
          refine k_if_ne (tgt := 70) hx hb dX7_bestZero_62 (by decide) (by omega) (fun c_4 => ?_) (fun c_4 => ?_)
          · skip
            refine lv_aload_n hx hb dX7_bestZero_70 rfl (lv_at hl 6 rfl) ?_
            refine lv_iload hx hb dX7_bestZero_71 (lv_at hl 0 rfl) ?_
            refine lv_iload hx hb dX7_bestZero_73 (lv_at hl 1 rfl) ?_
            refine lv_aload_n hx hb dX7_bestZero_75 rfl (lv_at hl 6 rfl) ?_
            refine va_get (D := D) (ci := 6) (v := .ref (a 1)) (C := RX7) (T := TX7) (N := 19) hx hb hts hinX7 hown hK hP 0 rfl rfl 0 (by decide) hm1 (fun _ h9 => h9) rfl dX7_bestZero_76 ?_
            refine k_bipush hx hb dX7_bestZero_79 (by decide +kernel) ?_
            refine k_iald hx hb hK hP 1 0 (f := ups (R 1) 8 g8) rfl rfl (i := 13) (by omega) dX7_bestZero_81 ?_
            refine k_eqI (v := (ups (R 1) 8 g8) 13) (w := R 1 13) rfl ?_
            refine k_irem hx hb dX7_bestZero_82 (by omega) (by omega) ?_
            refine k_roV (As := [.int (iI (k / (R 1 13))), .int (iI (k % (R 1 13)))]) (rest := []) ⟨hx, hb, hml, hown, hts⟩ (c_X7_zeroFor l D cy a (upr (upr (upr (upr (upr R 0 (ups (ups (ups (R 0) 6 0) 13 gm) 14 gn)) 1 (ups (R 1) 8 g8)) 4 (S4)) 5 (S5)) 6 (S6)) (k / (R 1 13)) (k % (R 1 13)) (show Inv ((ups (R 1) 8 g8)) from hIg) (show 0 ≤ (k / (R 1 13)) by omega) (show (k / (R 1 13)) < (R 1 12) by omega) (show 0 < pts ((ups (R 1) 8 g8)) (k / (R 1 13)) from by rw [u8_pts (R 1) g8 _ hkd.1]; omega) (show 0 ≤ (k % (R 1 13)) by omega) (show (k % (R 1 13)) < (R 1 13) by omega)) gX7_bestZero_X7_zeroFor rfl ⟨rfl, rfl⟩ 2 rfl (by decide +kernel) ⟨Nat.le_of_ble_eq_true rfl, Nat.le_of_ble_eq_true rfl⟩ (GG_ok D cy) ((GG_ok D cy).2.2.2 _ _ _ _ (fun _ h => h.elim) ((GG_ok D cy).1 _ _ _ _ hS.2.1 hG)) hP (va_recv hK hP (ci := 6) (q0 := 0) rfl rfl) hl.1 rfl (Nat.le_of_ble_eq_true rfl) ⟨Nat.le_of_ble_eq_true rfl, Nat.le_of_ble_eq_true rfl⟩ dX7_bestZero_83 (fun r_5 hr_5 => ?_)
            have hr_5 : r_5 = zfor ((ups (R 1) 8 g8)) (k / (R 1 13)) (k % (R 1 13)) := hr_5
            subst hr_5
            refine k_eqI (v := zfor ((ups (R 1) 8 g8)) (k / (R 1 13)) (k % (R 1 13))) (w := zfor (R 1) (k / R 1 13) (k % R 1 13)) (u8_zfor (R 1) g8 hkd.1 hkm.1) ?_
            have hzb := zfor_bd (R 1) (k / R 1 13) (k % R 1 13)
            refine lv_istore (lv' := [(7, .int (iI (zfor (R 1) (k / R 1 13) (k % R 1 13)))), (6, .int (iI (k / (R 1 13)))), (5, .int (iI k)), (4, .int (iI le)), (3, .int (iI mo)), (2, .int (iI b)), (1, .int (iI (R 1 8))), (0, .ref (a 0))]) hx hb dX7_bestZero_86 hl (by decide) rfl (fun ls hl => ?_)
            refine lv_iload hx hb dX7_bestZero_88 (lv_at hl 0 rfl) ?_
            refine k_ldc (z := (-1000000000)) hx hb hown hm2 (by decide +kernel) dX7_bestZero_90 ?_
            refine k_icmp_eq (tgt := 223) hx hb dX7_bestZero_92 (by decide) (by omega) (by omega) (fun c_6 => ?_) (fun c_6 => ?_)
            · exfalso; omega
            · skip
              refine lv_aload_n hx hb dX7_bestZero_95 rfl (lv_at hl 7 rfl) ?_
              refine va_get (D := D) (ci := 6) (v := .ref (a 1)) (C := RX7) (T := TX7) (N := 19) hx hb hts hinX7 hown hK hP 0 rfl rfl 0 (by decide) hm1 (fun _ h9 => h9) rfl dX7_bestZero_96 ?_
              refine k_bipush hx hb dX7_bestZero_99 (by decide +kernel) ?_
              refine lv_iload hx hb dX7_bestZero_101 (lv_at hl 0 rfl) ?_
              refine k_iast hx hb hK hP hD hS 1 0 (f := ups (R 1) 8 g8) rfl rfl (i := 8) (x := zfor (R 1) (k / R 1 13) (k % R 1 13)) (by omega) dX7_bestZero_103 (fun H locs hP hD hS => ?_)
              have hP : va_P D vwCl (rfW cy a (upr (upr (upr (upr (upr R 0 (ups (ups (ups (R 0) 6 0) 13 gm) 14 gn)) 1 (ups (ups (R 1) 8 g8) 8 (zfor (R 1) (k / R 1 13) (k % R 1 13)))) 4 (S4)) 5 (S5)) 6 (S6))) H := hP
              have hD : va_D (va_A (rfW cy a R) sz) (rfW cy a (upr (upr (upr (upr (upr R 0 (ups (ups (ups (R 0) 6 0) 13 gm) 14 gn)) 1 (ups (ups (R 1) 8 g8) 8 (zfor (R 1) (k / R 1 13) (k % R 1 13)))) 4 (S4)) 5 (S5)) 6 (S6))) := hD
              refine lv_aload_n hx hb dX7_bestZero_104 rfl (lv_at hl 7 rfl) ?_
              refine k_muv (k_runV (As := []) (rest := []) ⟨hx, hb, hml, hown, hts⟩ (c_X7_match l D cy H.size a (upr (upr (upr (upr (upr R 0 (ups (ups (ups (R 0) 6 0) 13 gm) 14 gn)) 1 (ups (ups (R 1) 8 g8) 8 (zfor (R 1) (k / R 1 13) (k % R 1 13)))) 4 (S4)) 5 (S5)) 6 (S6)) (show Inv ((ups (ups (R 1) 8 g8) 8 (zfor (R 1) (k / R 1 13) (k % R 1 13)))) from inv_u8 hIg (by omega))) gX7_bestZero_X7_match rfl ⟨rfl, rfl⟩ 0 rfl (by decide +kernel) ⟨Nat.le_of_ble_eq_true rfl, Nat.le_of_ble_eq_true rfl⟩ (GG_ok D cy) hG hS (k_free hD hS hA) hP hD (va_recv hK hP (ci := 6) (q0 := 0) rfl rfl) hl.1 rfl (Nat.le_of_ble_eq_true rfl) ⟨Nat.le_of_ble_eq_true rfl, Nat.le_of_ble_eq_true rfl⟩ dX7_bestZero_105) (k_free hD hS hA) hS (fun R_8 H1 locs1 hR_8 hP1 hD1 hS1 hk1 => ?_)
              have hR_8 : ∃ (zs : Int → Int) (zt : Int → Int) (zq : Int → Int), (matR ((ups (ups (R 1) 8 g8) 8 (zfor (R 1) (k / R 1 13) (k % R 1 13)))) ((zfor (R 1) (k / R 1 13) (k % R 1 13))) zs zt ∧ cstOK ((ups (ups (R 1) 8 g8) 8 (zfor (R 1) (k / R 1 13) (k % R 1 13)))) ((zfor (R 1) (k / R 1 13) (k % R 1 13))) zq) ∧ (R_8 = (upr (upr (upr (upr (upr (upr (upr (upr (upr R 0 (ups (ups (ups (R 0) 6 0) 13 gm) 14 gn)) 1 (ups (ups (R 1) 8 g8) 8 (zfor (R 1) (k / R 1 13) (k % R 1 13)))) 4 (S4)) 5 (S5)) 6 (S6)) 0 (ups (ups ((ups (ups (ups (R 0) 6 0) 13 gm) 14 gn)) 13 (mat ((ups (ups (R 1) 8 g8) 8 (zfor (R 1) (k / R 1 13) (k % R 1 13)))) ((zfor (R 1) (k / R 1 13) (k % R 1 13)))).2.2.1) 14 (mat ((ups (ups (R 1) 8 g8) 8 (zfor (R 1) (k / R 1 13) (k % R 1 13)))) ((zfor (R 1) (k / R 1 13) (k % R 1 13)))).2.2.2)) 4 (zq)) 5 (zs)) 6 (zt))) := hR_8
              obtain ⟨zs_9, zt_10, zq_11, hf_12, hR_8⟩ := hR_8
              have hf_12 : matR ((ups (ups (R 1) 8 g8) 8 (zfor (R 1) (k / R 1 13) (k % R 1 13)))) ((zfor (R 1) (k / R 1 13) (k % R 1 13))) zs_9 zt_10 ∧ cstOK ((ups (ups (R 1) 8 g8) 8 (zfor (R 1) (k / R 1 13) (k % R 1 13)))) ((zfor (R 1) (k / R 1 13) (k % R 1 13))) zq_11 := hf_12
              subst hR_8
              have hDn : va_D (va_A (rfW cy a R) sz) (rfW cy a (upr (upr (upr (upr (upr R 0 (ups (ups ((ups (ups (ups (R 0) 6 0) 13 gm) 14 gn)) 13 (mat ((ups (ups (R 1) 8 g8) 8 (zfor (R 1) (k / R 1 13) (k % R 1 13)))) ((zfor (R 1) (k / R 1 13) (k % R 1 13)))).2.2.1) 14 (mat ((ups (ups (R 1) 8 g8) 8 (zfor (R 1) (k / R 1 13) (k % R 1 13)))) ((zfor (R 1) (k / R 1 13) (k % R 1 13)))).2.2.2)) 1 (ups (ups (R 1) 8 g8) 8 (zfor (R 1) (k / R 1 13) (k % R 1 13)))) 4 (zq_11)) 5 (zs_9)) 6 (zt_10))) := k_addr hD rfl
              have hPn : va_P D vwCl (rfW cy a (upr (upr (upr (upr (upr R 0 (ups (ups ((ups (ups (ups (R 0) 6 0) 13 gm) 14 gn)) 13 (mat ((ups (ups (R 1) 8 g8) 8 (zfor (R 1) (k / R 1 13) (k % R 1 13)))) ((zfor (R 1) (k / R 1 13) (k % R 1 13)))).2.2.1) 14 (mat ((ups (ups (R 1) 8 g8) 8 (zfor (R 1) (k / R 1 13) (k % R 1 13)))) ((zfor (R 1) (k / R 1 13) (k % R 1 13)))).2.2.2)) 1 (ups (ups (R 1) 8 g8) 8 (zfor (R 1) (k / R 1 13) (k % R 1 13)))) 4 (zq_11)) 5 (zs_9)) 6 (zt_10))) H1 := hP1
              clear hP hD hS hP1 hD1 hk1
              have hP := hPn
              have hD := hDn
              have hS := hS1
              clear hPn hDn hS1
              generalize H1 = H at hP hS ⊢
              generalize locs1 = locs at hS ⊢
              have hMM : mat (ups (ups (R 1) 8 g8) 8 (zfor (R 1) (k / R 1 13) (k % R 1 13))) (zfor (R 1) (k / R 1 13) (k % R 1 13)) = mat (R 1) (zfor (R 1) (k / R 1 13) (k % R 1 13)) := by rw [u8_mat, u8_mat]
              have hmb := mat_bd (zfor (R 1) (k / R 1 13) (k % R 1 13)) hI
              rw [← hMM] at hmb
              have join181 : ∀ (y9 : Int) (jey9 : y9 = (if (b = -1000000000 ∨ ((mat ((ups (ups (R 1) 8 g8) 8 (zfor (R 1) (k / R 1 13) (k % R 1 13)))) ((zfor (R 1) (k / R 1 13) (k % R 1 13)))).2.2.1) > mo ∨ (((mat ((ups (ups (R 1) 8 g8) 8 (zfor (R 1) (k / R 1 13) (k % R 1 13)))) ((zfor (R 1) (k / R 1 13) (k % R 1 13)))).2.2.1) = mo ∧ (((mat ((ups (ups (R 1) 8 g8) 8 (zfor (R 1) (k / R 1 13) (k % R 1 13)))) ((zfor (R 1) (k / R 1 13) (k % R 1 13)))).2.2.2) < le ∨ (((mat ((ups (ups (R 1) 8 g8) 8 (zfor (R 1) (k / R 1 13) (k % R 1 13)))) ((zfor (R 1) (k / R 1 13) (k % R 1 13)))).2.2.2) = le ∧ (zfor (R 1) (k / R 1 13) (k % R 1 13)) < b)))) then (1 : Int) else 0)) (ls : Array Slot) (hl : lv_has ls 10 [(7, .int (iI (zfor (R 1) (k / R 1 13) (k % R 1 13)))), (6, .int (iI (k / (R 1 13)))), (5, .int (iI k)), (4, .int (iI le)), (3, .int (iI mo)), (2, .int (iI b)), (1, .int (iI (R 1 8))), (0, .ref (a 0)), (9, .int (iI y9))]), W p l e { frames := 7, cells := 0, slots := 0, locals := 158 } s m ([.ref (a 0)] : List Value).toArray below meth c H locs 0 0 (MQ below (kQi D (rfW cy a R) sz (fun u9 : Nat → Int → Int => rfW cy a u9) (fun r9 u9 => (∃ (zs : Int → Int) (zt : Int → Int) (zq : Int → Int) (zm : Int) (zn : Int), ((0 : Int) = 0) ∧ r9 = bzF (R 1) ∧ u9 = (upr (upr (upr (upr (upr R 0 (ups (ups (ups (R 0) 6 0) 13 zm) 14 zn)) 1 (R 1)) 4 (zq)) 5 (zs)) 6 (zt))))) ([.ref (a 0)] : List Value).toArray s 0 0 (va_A (rfW cy a R) sz)) (F0 m 181 ls []) := by
                intro y9 jey9 ls hl
                subst jey9
                refine lv_iload hx hb dX7_bestZero_181 (lv_at hl 8 rfl) ?_
                refine k_if_eq (tgt := 191) hx hb dX7_bestZero_183 (by decide) (by split <;> omega) (fun c_13 => ?_) (fun c_13 => ?_)
                · skip
                  have h9 : ¬ (b = -1000000000 ∨ ((mat ((ups (ups (R 1) 8 g8) 8 (zfor (R 1) (k / R 1 13) (k % R 1 13)))) ((zfor (R 1) (k / R 1 13) (k % R 1 13)))).2.2.1) > mo ∨ (((mat ((ups (ups (R 1) 8 g8) 8 (zfor (R 1) (k / R 1 13) (k % R 1 13)))) ((zfor (R 1) (k / R 1 13) (k % R 1 13)))).2.2.1) = mo ∧ (((mat ((ups (ups (R 1) 8 g8) 8 (zfor (R 1) (k / R 1 13) (k % R 1 13)))) ((zfor (R 1) (k / R 1 13) (k % R 1 13)))).2.2.2) < le ∨ (((mat ((ups (ups (R 1) 8 g8) 8 (zfor (R 1) (k / R 1 13) (k % R 1 13)))) ((zfor (R 1) (k / R 1 13) (k % R 1 13)))).2.2.2) = le ∧ (zfor (R 1) (k / R 1 13) (k % R 1 13)) < b)))) := by intro h; rw [if_pos h] at c_13; exact absurd c_13 (by decide)
                  refine lv_iload_n hx hb dX7_bestZero_191 rfl (lv_at hl 5 rfl) ?_
                  refine lv_istore_n (lv' := [(2, .int (iI b)), (7, .int (iI (zfor (R 1) (k / R 1 13) (k % R 1 13)))), (6, .int (iI (k / (R 1 13)))), (5, .int (iI k)), (4, .int (iI le)), (3, .int (iI mo)), (1, .int (iI (R 1 8))), (0, .ref (a 0)), (9, .int (iI (if (b = -1000000000 ∨ ((mat ((ups (ups (R 1) 8 g8) 8 (zfor (R 1) (k / R 1 13) (k % R 1 13)))) ((zfor (R 1) (k / R 1 13) (k % R 1 13)))).2.2.1) > mo ∨ (((mat ((ups (ups (R 1) 8 g8) 8 (zfor (R 1) (k / R 1 13) (k % R 1 13)))) ((zfor (R 1) (k / R 1 13) (k % R 1 13)))).2.2.1) = mo ∧ (((mat ((ups (ups (R 1) 8 g8) 8 (zfor (R 1) (k / R 1 13) (k % R 1 13)))) ((zfor (R 1) (k / R 1 13) (k % R 1 13)))).2.2.2) < le ∨ (((mat ((ups (ups (R 1) 8 g8) 8 (zfor (R 1) (k / R 1 13) (k % R 1 13)))) ((zfor (R 1) (k / R 1 13) (k % R 1 13)))).2.2.2) = le ∧ (zfor (R 1) (k / R 1 13) (k % R 1 13)) < b)))) then (1 : Int) else 0)))]) hx hb dX7_bestZero_192 rfl hl (by decide) rfl (fun ls hl => ?_)
                  refine lv_iload hx hb dX7_bestZero_193 (lv_at hl 8 rfl) ?_
                  refine k_if_eq (tgt := 205) hx hb dX7_bestZero_195 (by decide) (by split <;> omega) (fun c_14 => ?_) (fun c_14 => ?_)
                  · skip
                    refine lv_iload_n hx hb dX7_bestZero_205 rfl (lv_at hl 5 rfl) ?_
                    refine lv_istore_n (lv' := [(3, .int (iI mo)), (2, .int (iI b)), (7, .int (iI (zfor (R 1) (k / R 1 13) (k % R 1 13)))), (6, .int (iI (k / (R 1 13)))), (5, .int (iI k)), (4, .int (iI le)), (1, .int (iI (R 1 8))), (0, .ref (a 0)), (9, .int (iI (if (b = -1000000000 ∨ ((mat ((ups (ups (R 1) 8 g8) 8 (zfor (R 1) (k / R 1 13) (k % R 1 13)))) ((zfor (R 1) (k / R 1 13) (k % R 1 13)))).2.2.1) > mo ∨ (((mat ((ups (ups (R 1) 8 g8) 8 (zfor (R 1) (k / R 1 13) (k % R 1 13)))) ((zfor (R 1) (k / R 1 13) (k % R 1 13)))).2.2.1) = mo ∧ (((mat ((ups (ups (R 1) 8 g8) 8 (zfor (R 1) (k / R 1 13) (k % R 1 13)))) ((zfor (R 1) (k / R 1 13) (k % R 1 13)))).2.2.2) < le ∨ (((mat ((ups (ups (R 1) 8 g8) 8 (zfor (R 1) (k / R 1 13) (k % R 1 13)))) ((zfor (R 1) (k / R 1 13) (k % R 1 13)))).2.2.2) = le ∧ (zfor (R 1) (k / R 1 13) (k % R 1 13)) < b)))) then (1 : Int) else 0)))]) hx hb dX7_bestZero_206 rfl hl (by decide) rfl (fun ls hl => ?_)
                    refine lv_iload hx hb dX7_bestZero_207 (lv_at hl 8 rfl) ?_
                    refine k_if_eq (tgt := 219) hx hb dX7_bestZero_209 (by decide) (by split <;> omega) (fun c_15 => ?_) (fun c_15 => ?_)
                    · skip
                      refine lv_iload hx hb dX7_bestZero_219 (lv_at hl 5 rfl) ?_
                      refine lv_istore (lv' := [(4, .int (iI le)), (3, .int (iI mo)), (2, .int (iI b)), (7, .int (iI (zfor (R 1) (k / R 1 13) (k % R 1 13)))), (6, .int (iI (k / (R 1 13)))), (5, .int (iI k)), (1, .int (iI (R 1 8))), (0, .ref (a 0)), (9, .int (iI (if (b = -1000000000 ∨ ((mat ((ups (ups (R 1) 8 g8) 8 (zfor (R 1) (k / R 1 13) (k % R 1 13)))) ((zfor (R 1) (k / R 1 13) (k % R 1 13)))).2.2.1) > mo ∨ (((mat ((ups (ups (R 1) 8 g8) 8 (zfor (R 1) (k / R 1 13) (k % R 1 13)))) ((zfor (R 1) (k / R 1 13) (k % R 1 13)))).2.2.1) = mo ∧ (((mat ((ups (ups (R 1) 8 g8) 8 (zfor (R 1) (k / R 1 13) (k % R 1 13)))) ((zfor (R 1) (k / R 1 13) (k % R 1 13)))).2.2.2) < le ∨ (((mat ((ups (ups (R 1) 8 g8) 8 (zfor (R 1) (k / R 1 13) (k % R 1 13)))) ((zfor (R 1) (k / R 1 13) (k % R 1 13)))).2.2.2) = le ∧ (zfor (R 1) (k / R 1 13) (k % R 1 13)) < b)))) then (1 : Int) else 0)))]) hx hb dX7_bestZero_221 hl (by decide) rfl (fun ls hl => ?_)
                      refine lv_iinc (v := iI (k + 1)) (lv' := [(5, .int (iI (k + 1))), (4, .int (iI le)), (3, .int (iI mo)), (2, .int (iI b)), (7, .int (iI (zfor (R 1) (k / R 1 13) (k % R 1 13)))), (6, .int (iI (k / (R 1 13)))), (1, .int (iI (R 1 8))), (0, .ref (a 0)), (9, .int (iI (if (b = -1000000000 ∨ ((mat ((ups (ups (R 1) 8 g8) 8 (zfor (R 1) (k / R 1 13) (k % R 1 13)))) ((zfor (R 1) (k / R 1 13) (k % R 1 13)))).2.2.1) > mo ∨ (((mat ((ups (ups (R 1) 8 g8) 8 (zfor (R 1) (k / R 1 13) (k % R 1 13)))) ((zfor (R 1) (k / R 1 13) (k % R 1 13)))).2.2.1) = mo ∧ (((mat ((ups (ups (R 1) 8 g8) 8 (zfor (R 1) (k / R 1 13) (k % R 1 13)))) ((zfor (R 1) (k / R 1 13) (k % R 1 13)))).2.2.2) < le ∨ (((mat ((ups (ups (R 1) 8 g8) 8 (zfor (R 1) (k / R 1 13) (k % R 1 13)))) ((zfor (R 1) (k / R 1 13) (k % R 1 13)))).2.2.2) = le ∧ (zfor (R 1) (k / R 1 13) (k % R 1 13)) < b)))) then (1 : Int) else 0)))]) hx hb dX7_bestZero_223 hl (k := 5) rfl (iI_add _ _) (by decide) rfl (fun ls hl => ?_)
                      refine lv_goto (tgt := 24) hx hb dX7_bestZero_226 (by decide) ?_
                      exact ih24 (k + 1) b mo le (zfor (R 1) (k / R 1 13) (k % R 1 13)) ((mat ((ups (ups (R 1) 8 g8) 8 (zfor (R 1) (k / R 1 13) (k % R 1 13)))) ((zfor (R 1) (k / R 1 13) (k % R 1 13)))).2.2.1) ((mat ((ups (ups (R 1) 8 g8) 8 (zfor (R 1) (k / R 1 13) (k % R 1 13)))) ((zfor (R 1) (k / R 1 13) (k % R 1 13)))).2.2.2) zq_11 zs_9 zt_10  (by omega) (by omega) (by first | contradiction | (rw [bzI_s (R 1) hi0, if_pos (by omega)]; exact hi2) | (rw [bzI_s (R 1) hi0, if_neg (by omega), hi2]; unfold bzN; dsimp only; rw [← hMM]; first | rw [if_pos h9] | rw [if_neg h9])) (by first | contradiction | omega) (by first | contradiction | omega) (by omega) H locs (by rw [show (ups (ups (ups (R 0) 6 0) 13 ((mat ((ups (ups (R 1) 8 g8) 8 (zfor (R 1) (k / R 1 13) (k % R 1 13)))) ((zfor (R 1) (k / R 1 13) (k % R 1 13)))).2.2.1)) 14 ((mat ((ups (ups (R 1) 8 g8) 8 (zfor (R 1) (k / R 1 13) (k % R 1 13)))) ((zfor (R 1) (k / R 1 13) (k % R 1 13)))).2.2.2)) = (ups (ups ((ups (ups (ups (R 0) 6 0) 13 gm) 14 gn)) 13 (mat ((ups (ups (R 1) 8 g8) 8 (zfor (R 1) (k / R 1 13) (k % R 1 13)))) ((zfor (R 1) (k / R 1 13) (k % R 1 13)))).2.2.1) 14 (mat ((ups (ups (R 1) 8 g8) 8 (zfor (R 1) (k / R 1 13) (k % R 1 13)))) ((zfor (R 1) (k / R 1 13) (k % R 1 13)))).2.2.2) from by first | rfl | (funext k9; unfold ups; (repeat' split) <;> first | rfl | omega), show (ups (R 1) 8 (zfor (R 1) (k / R 1 13) (k % R 1 13))) = (ups (ups (R 1) 8 g8) 8 (zfor (R 1) (k / R 1 13) (k % R 1 13))) from by first | rfl | exact (ups_ups _ _ _ _).symm]; exact hP) (k_addr hD rfl) hS ls (lv_sub hl [0, 1, 2, 3, 6, 7] rfl)
                    · skip
                      refine lv_aload_n hx hb dX7_bestZero_212 rfl (lv_at hl 7 rfl) ?_
                      refine va_get (D := D) (ci := 6) (v := .int (iI ((mat ((ups (ups (R 1) 8 g8) 8 (zfor (R 1) (k / R 1 13) (k % R 1 13)))) ((zfor (R 1) (k / R 1 13) (k % R 1 13)))).2.2.2))) (C := RX7) (T := TX7) (N := 19) hx hb hts hinX7 hown hK hP 0 rfl rfl 14 (by decide) hm3 (fun _ h9 => h9) rfl dX7_bestZero_213 ?_
                      refine lv_goto (tgt := 221) hx hb dX7_bestZero_216 (by decide) ?_
                      refine lv_istore (lv' := [(4, .int (iI ((mat ((ups (ups (R 1) 8 g8) 8 (zfor (R 1) (k / R 1 13) (k % R 1 13)))) ((zfor (R 1) (k / R 1 13) (k % R 1 13)))).2.2.2))), (3, .int (iI mo)), (2, .int (iI b)), (7, .int (iI (zfor (R 1) (k / R 1 13) (k % R 1 13)))), (6, .int (iI (k / (R 1 13)))), (5, .int (iI k)), (1, .int (iI (R 1 8))), (0, .ref (a 0)), (9, .int (iI (if (b = -1000000000 ∨ ((mat ((ups (ups (R 1) 8 g8) 8 (zfor (R 1) (k / R 1 13) (k % R 1 13)))) ((zfor (R 1) (k / R 1 13) (k % R 1 13)))).2.2.1) > mo ∨ (((mat ((ups (ups (R 1) 8 g8) 8 (zfor (R 1) (k / R 1 13) (k % R 1 13)))) ((zfor (R 1) (k / R 1 13) (k % R 1 13)))).2.2.1) = mo ∧ (((mat ((ups (ups (R 1) 8 g8) 8 (zfor (R 1) (k / R 1 13) (k % R 1 13)))) ((zfor (R 1) (k / R 1 13) (k % R 1 13)))).2.2.2) < le ∨ (((mat ((ups (ups (R 1) 8 g8) 8 (zfor (R 1) (k / R 1 13) (k % R 1 13)))) ((zfor (R 1) (k / R 1 13) (k % R 1 13)))).2.2.2) = le ∧ (zfor (R 1) (k / R 1 13) (k % R 1 13)) < b)))) then (1 : Int) else 0)))]) hx hb dX7_bestZero_221 hl (by decide) rfl (fun ls hl => ?_)
                      refine lv_iinc (v := iI (k + 1)) (lv' := [(5, .int (iI (k + 1))), (4, .int (iI ((mat ((ups (ups (R 1) 8 g8) 8 (zfor (R 1) (k / R 1 13) (k % R 1 13)))) ((zfor (R 1) (k / R 1 13) (k % R 1 13)))).2.2.2))), (3, .int (iI mo)), (2, .int (iI b)), (7, .int (iI (zfor (R 1) (k / R 1 13) (k % R 1 13)))), (6, .int (iI (k / (R 1 13)))), (1, .int (iI (R 1 8))), (0, .ref (a 0)), (9, .int (iI (if (b = -1000000000 ∨ ((mat ((ups (ups (R 1) 8 g8) 8 (zfor (R 1) (k / R 1 13) (k % R 1 13)))) ((zfor (R 1) (k / R 1 13) (k % R 1 13)))).2.2.1) > mo ∨ (((mat ((ups (ups (R 1) 8 g8) 8 (zfor (R 1) (k / R 1 13) (k % R 1 13)))) ((zfor (R 1) (k / R 1 13) (k % R 1 13)))).2.2.1) = mo ∧ (((mat ((ups (ups (R 1) 8 g8) 8 (zfor (R 1) (k / R 1 13) (k % R 1 13)))) ((zfor (R 1) (k / R 1 13) (k % R 1 13)))).2.2.2) < le ∨ (((mat ((ups (ups (R 1) 8 g8) 8 (zfor (R 1) (k / R 1 13) (k % R 1 13)))) ((zfor (R 1) (k / R 1 13) (k % R 1 13)))).2.2.2) = le ∧ (zfor (R 1) (k / R 1 13) (k % R 1 13)) < b)))) then (1 : Int) else 0)))]) hx hb dX7_bestZero_223 hl (k := 5) rfl (iI_add _ _) (by decide) rfl (fun ls hl => ?_)
                      refine lv_goto (tgt := 24) hx hb dX7_bestZero_226 (by decide) ?_
                      exact ih24 (k + 1) b mo ((mat ((ups (ups (R 1) 8 g8) 8 (zfor (R 1) (k / R 1 13) (k % R 1 13)))) ((zfor (R 1) (k / R 1 13) (k % R 1 13)))).2.2.2) (zfor (R 1) (k / R 1 13) (k % R 1 13)) ((mat ((ups (ups (R 1) 8 g8) 8 (zfor (R 1) (k / R 1 13) (k % R 1 13)))) ((zfor (R 1) (k / R 1 13) (k % R 1 13)))).2.2.1) ((mat ((ups (ups (R 1) 8 g8) 8 (zfor (R 1) (k / R 1 13) (k % R 1 13)))) ((zfor (R 1) (k / R 1 13) (k % R 1 13)))).2.2.2) zq_11 zs_9 zt_10  (by omega) (by omega) (by first | contradiction | (rw [bzI_s (R 1) hi0, if_pos (by omega)]; exact hi2) | (rw [bzI_s (R 1) hi0, if_neg (by omega), hi2]; unfold bzN; dsimp only; rw [← hMM]; first | rw [if_pos h9] | rw [if_neg h9])) (by first | contradiction | omega) (by first | contradiction | omega) (by omega) H locs (by rw [show (ups (ups (ups (R 0) 6 0) 13 ((mat ((ups (ups (R 1) 8 g8) 8 (zfor (R 1) (k / R 1 13) (k % R 1 13)))) ((zfor (R 1) (k / R 1 13) (k % R 1 13)))).2.2.1)) 14 ((mat ((ups (ups (R 1) 8 g8) 8 (zfor (R 1) (k / R 1 13) (k % R 1 13)))) ((zfor (R 1) (k / R 1 13) (k % R 1 13)))).2.2.2)) = (ups (ups ((ups (ups (ups (R 0) 6 0) 13 gm) 14 gn)) 13 (mat ((ups (ups (R 1) 8 g8) 8 (zfor (R 1) (k / R 1 13) (k % R 1 13)))) ((zfor (R 1) (k / R 1 13) (k % R 1 13)))).2.2.1) 14 (mat ((ups (ups (R 1) 8 g8) 8 (zfor (R 1) (k / R 1 13) (k % R 1 13)))) ((zfor (R 1) (k / R 1 13) (k % R 1 13)))).2.2.2) from by first | rfl | (funext k9; unfold ups; (repeat' split) <;> first | rfl | omega), show (ups (R 1) 8 (zfor (R 1) (k / R 1 13) (k % R 1 13))) = (ups (ups (R 1) 8 g8) 8 (zfor (R 1) (k / R 1 13) (k % R 1 13))) from by first | rfl | exact (ups_ups _ _ _ _).symm]; exact hP) (k_addr hD rfl) hS ls (lv_sub hl [0, 1, 2, 3, 6, 7] rfl)
                  · skip
                    refine lv_aload_n hx hb dX7_bestZero_198 rfl (lv_at hl 7 rfl) ?_
                    refine va_get (D := D) (ci := 6) (v := .int (iI ((mat ((ups (ups (R 1) 8 g8) 8 (zfor (R 1) (k / R 1 13) (k % R 1 13)))) ((zfor (R 1) (k / R 1 13) (k % R 1 13)))).2.2.1))) (C := RX7) (T := TX7) (N := 19) hx hb hts hinX7 hown hK hP 0 rfl rfl 13 (by decide) hm4 (fun _ h9 => h9) rfl dX7_bestZero_199 ?_
                    refine lv_goto (tgt := 206) hx hb dX7_bestZero_202 (by decide) ?_
                    refine lv_istore_n (lv' := [(3, .int (iI ((mat ((ups (ups (R 1) 8 g8) 8 (zfor (R 1) (k / R 1 13) (k % R 1 13)))) ((zfor (R 1) (k / R 1 13) (k % R 1 13)))).2.2.1))), (2, .int (iI b)), (7, .int (iI (zfor (R 1) (k / R 1 13) (k % R 1 13)))), (6, .int (iI (k / (R 1 13)))), (5, .int (iI k)), (4, .int (iI le)), (1, .int (iI (R 1 8))), (0, .ref (a 0)), (9, .int (iI (if (b = -1000000000 ∨ ((mat ((ups (ups (R 1) 8 g8) 8 (zfor (R 1) (k / R 1 13) (k % R 1 13)))) ((zfor (R 1) (k / R 1 13) (k % R 1 13)))).2.2.1) > mo ∨ (((mat ((ups (ups (R 1) 8 g8) 8 (zfor (R 1) (k / R 1 13) (k % R 1 13)))) ((zfor (R 1) (k / R 1 13) (k % R 1 13)))).2.2.1) = mo ∧ (((mat ((ups (ups (R 1) 8 g8) 8 (zfor (R 1) (k / R 1 13) (k % R 1 13)))) ((zfor (R 1) (k / R 1 13) (k % R 1 13)))).2.2.2) < le ∨ (((mat ((ups (ups (R 1) 8 g8) 8 (zfor (R 1) (k / R 1 13) (k % R 1 13)))) ((zfor (R 1) (k / R 1 13) (k % R 1 13)))).2.2.2) = le ∧ (zfor (R 1) (k / R 1 13) (k % R 1 13)) < b)))) then (1 : Int) else 0)))]) hx hb dX7_bestZero_206 rfl hl (by decide) rfl (fun ls hl => ?_)
                    refine lv_iload hx hb dX7_bestZero_207 (lv_at hl 8 rfl) ?_
                    refine k_if_eq (tgt := 219) hx hb dX7_bestZero_209 (by decide) (by split <;> omega) (fun c_16 => ?_) (fun c_16 => ?_)
                    · skip
                      refine lv_iload hx hb dX7_bestZero_219 (lv_at hl 5 rfl) ?_
                      refine lv_istore (lv' := [(4, .int (iI le)), (3, .int (iI ((mat ((ups (ups (R 1) 8 g8) 8 (zfor (R 1) (k / R 1 13) (k % R 1 13)))) ((zfor (R 1) (k / R 1 13) (k % R 1 13)))).2.2.1))), (2, .int (iI b)), (7, .int (iI (zfor (R 1) (k / R 1 13) (k % R 1 13)))), (6, .int (iI (k / (R 1 13)))), (5, .int (iI k)), (1, .int (iI (R 1 8))), (0, .ref (a 0)), (9, .int (iI (if (b = -1000000000 ∨ ((mat ((ups (ups (R 1) 8 g8) 8 (zfor (R 1) (k / R 1 13) (k % R 1 13)))) ((zfor (R 1) (k / R 1 13) (k % R 1 13)))).2.2.1) > mo ∨ (((mat ((ups (ups (R 1) 8 g8) 8 (zfor (R 1) (k / R 1 13) (k % R 1 13)))) ((zfor (R 1) (k / R 1 13) (k % R 1 13)))).2.2.1) = mo ∧ (((mat ((ups (ups (R 1) 8 g8) 8 (zfor (R 1) (k / R 1 13) (k % R 1 13)))) ((zfor (R 1) (k / R 1 13) (k % R 1 13)))).2.2.2) < le ∨ (((mat ((ups (ups (R 1) 8 g8) 8 (zfor (R 1) (k / R 1 13) (k % R 1 13)))) ((zfor (R 1) (k / R 1 13) (k % R 1 13)))).2.2.2) = le ∧ (zfor (R 1) (k / R 1 13) (k % R 1 13)) < b)))) then (1 : Int) else 0)))]) hx hb dX7_bestZero_221 hl (by decide) rfl (fun ls hl => ?_)
                      refine lv_iinc (v := iI (k + 1)) (lv' := [(5, .int (iI (k + 1))), (4, .int (iI le)), (3, .int (iI ((mat ((ups (ups (R 1) 8 g8) 8 (zfor (R 1) (k / R 1 13) (k % R 1 13)))) ((zfor (R 1) (k / R 1 13) (k % R 1 13)))).2.2.1))), (2, .int (iI b)), (7, .int (iI (zfor (R 1) (k / R 1 13) (k % R 1 13)))), (6, .int (iI (k / (R 1 13)))), (1, .int (iI (R 1 8))), (0, .ref (a 0)), (9, .int (iI (if (b = -1000000000 ∨ ((mat ((ups (ups (R 1) 8 g8) 8 (zfor (R 1) (k / R 1 13) (k % R 1 13)))) ((zfor (R 1) (k / R 1 13) (k % R 1 13)))).2.2.1) > mo ∨ (((mat ((ups (ups (R 1) 8 g8) 8 (zfor (R 1) (k / R 1 13) (k % R 1 13)))) ((zfor (R 1) (k / R 1 13) (k % R 1 13)))).2.2.1) = mo ∧ (((mat ((ups (ups (R 1) 8 g8) 8 (zfor (R 1) (k / R 1 13) (k % R 1 13)))) ((zfor (R 1) (k / R 1 13) (k % R 1 13)))).2.2.2) < le ∨ (((mat ((ups (ups (R 1) 8 g8) 8 (zfor (R 1) (k / R 1 13) (k % R 1 13)))) ((zfor (R 1) (k / R 1 13) (k % R 1 13)))).2.2.2) = le ∧ (zfor (R 1) (k / R 1 13) (k % R 1 13)) < b)))) then (1 : Int) else 0)))]) hx hb dX7_bestZero_223 hl (k := 5) rfl (iI_add _ _) (by decide) rfl (fun ls hl => ?_)
                      refine lv_goto (tgt := 24) hx hb dX7_bestZero_226 (by decide) ?_
                      exact ih24 (k + 1) b ((mat ((ups (ups (R 1) 8 g8) 8 (zfor (R 1) (k / R 1 13) (k % R 1 13)))) ((zfor (R 1) (k / R 1 13) (k % R 1 13)))).2.2.1) le (zfor (R 1) (k / R 1 13) (k % R 1 13)) ((mat ((ups (ups (R 1) 8 g8) 8 (zfor (R 1) (k / R 1 13) (k % R 1 13)))) ((zfor (R 1) (k / R 1 13) (k % R 1 13)))).2.2.1) ((mat ((ups (ups (R 1) 8 g8) 8 (zfor (R 1) (k / R 1 13) (k % R 1 13)))) ((zfor (R 1) (k / R 1 13) (k % R 1 13)))).2.2.2) zq_11 zs_9 zt_10  (by omega) (by omega) (by first | contradiction | (rw [bzI_s (R 1) hi0, if_pos (by omega)]; exact hi2) | (rw [bzI_s (R 1) hi0, if_neg (by omega), hi2]; unfold bzN; dsimp only; rw [← hMM]; first | rw [if_pos h9] | rw [if_neg h9])) (by first | contradiction | omega) (by first | contradiction | omega) (by omega) H locs (by rw [show (ups (ups (ups (R 0) 6 0) 13 ((mat ((ups (ups (R 1) 8 g8) 8 (zfor (R 1) (k / R 1 13) (k % R 1 13)))) ((zfor (R 1) (k / R 1 13) (k % R 1 13)))).2.2.1)) 14 ((mat ((ups (ups (R 1) 8 g8) 8 (zfor (R 1) (k / R 1 13) (k % R 1 13)))) ((zfor (R 1) (k / R 1 13) (k % R 1 13)))).2.2.2)) = (ups (ups ((ups (ups (ups (R 0) 6 0) 13 gm) 14 gn)) 13 (mat ((ups (ups (R 1) 8 g8) 8 (zfor (R 1) (k / R 1 13) (k % R 1 13)))) ((zfor (R 1) (k / R 1 13) (k % R 1 13)))).2.2.1) 14 (mat ((ups (ups (R 1) 8 g8) 8 (zfor (R 1) (k / R 1 13) (k % R 1 13)))) ((zfor (R 1) (k / R 1 13) (k % R 1 13)))).2.2.2) from by first | rfl | (funext k9; unfold ups; (repeat' split) <;> first | rfl | omega), show (ups (R 1) 8 (zfor (R 1) (k / R 1 13) (k % R 1 13))) = (ups (ups (R 1) 8 g8) 8 (zfor (R 1) (k / R 1 13) (k % R 1 13))) from by first | rfl | exact (ups_ups _ _ _ _).symm]; exact hP) (k_addr hD rfl) hS ls (lv_sub hl [0, 1, 2, 3, 6, 7] rfl)
                    · skip
                      refine lv_aload_n hx hb dX7_bestZero_212 rfl (lv_at hl 7 rfl) ?_
                      refine va_get (D := D) (ci := 6) (v := .int (iI ((mat ((ups (ups (R 1) 8 g8) 8 (zfor (R 1) (k / R 1 13) (k % R 1 13)))) ((zfor (R 1) (k / R 1 13) (k % R 1 13)))).2.2.2))) (C := RX7) (T := TX7) (N := 19) hx hb hts hinX7 hown hK hP 0 rfl rfl 14 (by decide) hm3 (fun _ h9 => h9) rfl dX7_bestZero_213 ?_
                      refine lv_goto (tgt := 221) hx hb dX7_bestZero_216 (by decide) ?_
                      refine lv_istore (lv' := [(4, .int (iI ((mat ((ups (ups (R 1) 8 g8) 8 (zfor (R 1) (k / R 1 13) (k % R 1 13)))) ((zfor (R 1) (k / R 1 13) (k % R 1 13)))).2.2.2))), (3, .int (iI ((mat ((ups (ups (R 1) 8 g8) 8 (zfor (R 1) (k / R 1 13) (k % R 1 13)))) ((zfor (R 1) (k / R 1 13) (k % R 1 13)))).2.2.1))), (2, .int (iI b)), (7, .int (iI (zfor (R 1) (k / R 1 13) (k % R 1 13)))), (6, .int (iI (k / (R 1 13)))), (5, .int (iI k)), (1, .int (iI (R 1 8))), (0, .ref (a 0)), (9, .int (iI (if (b = -1000000000 ∨ ((mat ((ups (ups (R 1) 8 g8) 8 (zfor (R 1) (k / R 1 13) (k % R 1 13)))) ((zfor (R 1) (k / R 1 13) (k % R 1 13)))).2.2.1) > mo ∨ (((mat ((ups (ups (R 1) 8 g8) 8 (zfor (R 1) (k / R 1 13) (k % R 1 13)))) ((zfor (R 1) (k / R 1 13) (k % R 1 13)))).2.2.1) = mo ∧ (((mat ((ups (ups (R 1) 8 g8) 8 (zfor (R 1) (k / R 1 13) (k % R 1 13)))) ((zfor (R 1) (k / R 1 13) (k % R 1 13)))).2.2.2) < le ∨ (((mat ((ups (ups (R 1) 8 g8) 8 (zfor (R 1) (k / R 1 13) (k % R 1 13)))) ((zfor (R 1) (k / R 1 13) (k % R 1 13)))).2.2.2) = le ∧ (zfor (R 1) (k / R 1 13) (k % R 1 13)) < b)))) then (1 : Int) else 0)))]) hx hb dX7_bestZero_221 hl (by decide) rfl (fun ls hl => ?_)
                      refine lv_iinc (v := iI (k + 1)) (lv' := [(5, .int (iI (k + 1))), (4, .int (iI ((mat ((ups (ups (R 1) 8 g8) 8 (zfor (R 1) (k / R 1 13) (k % R 1 13)))) ((zfor (R 1) (k / R 1 13) (k % R 1 13)))).2.2.2))), (3, .int (iI ((mat ((ups (ups (R 1) 8 g8) 8 (zfor (R 1) (k / R 1 13) (k % R 1 13)))) ((zfor (R 1) (k / R 1 13) (k % R 1 13)))).2.2.1))), (2, .int (iI b)), (7, .int (iI (zfor (R 1) (k / R 1 13) (k % R 1 13)))), (6, .int (iI (k / (R 1 13)))), (1, .int (iI (R 1 8))), (0, .ref (a 0)), (9, .int (iI (if (b = -1000000000 ∨ ((mat ((ups (ups (R 1) 8 g8) 8 (zfor (R 1) (k / R 1 13) (k % R 1 13)))) ((zfor (R 1) (k / R 1 13) (k % R 1 13)))).2.2.1) > mo ∨ (((mat ((ups (ups (R 1) 8 g8) 8 (zfor (R 1) (k / R 1 13) (k % R 1 13)))) ((zfor (R 1) (k / R 1 13) (k % R 1 13)))).2.2.1) = mo ∧ (((mat ((ups (ups (R 1) 8 g8) 8 (zfor (R 1) (k / R 1 13) (k % R 1 13)))) ((zfor (R 1) (k / R 1 13) (k % R 1 13)))).2.2.2) < le ∨ (((mat ((ups (ups (R 1) 8 g8) 8 (zfor (R 1) (k / R 1 13) (k % R 1 13)))) ((zfor (R 1) (k / R 1 13) (k % R 1 13)))).2.2.2) = le ∧ (zfor (R 1) (k / R 1 13) (k % R 1 13)) < b)))) then (1 : Int) else 0)))]) hx hb dX7_bestZero_223 hl (k := 5) rfl (iI_add _ _) (by decide) rfl (fun ls hl => ?_)
                      refine lv_goto (tgt := 24) hx hb dX7_bestZero_226 (by decide) ?_
                      exact ih24 (k + 1) b ((mat ((ups (ups (R 1) 8 g8) 8 (zfor (R 1) (k / R 1 13) (k % R 1 13)))) ((zfor (R 1) (k / R 1 13) (k % R 1 13)))).2.2.1) ((mat ((ups (ups (R 1) 8 g8) 8 (zfor (R 1) (k / R 1 13) (k % R 1 13)))) ((zfor (R 1) (k / R 1 13) (k % R 1 13)))).2.2.2) (zfor (R 1) (k / R 1 13) (k % R 1 13)) ((mat ((ups (ups (R 1) 8 g8) 8 (zfor (R 1) (k / R 1 13) (k % R 1 13)))) ((zfor (R 1) (k / R 1 13) (k % R 1 13)))).2.2.1) ((mat ((ups (ups (R 1) 8 g8) 8 (zfor (R 1) (k / R 1 13) (k % R 1 13)))) ((zfor (R 1) (k / R 1 13) (k % R 1 13)))).2.2.2) zq_11 zs_9 zt_10  (by omega) (by omega) (by first | contradiction | (rw [bzI_s (R 1) hi0, if_pos (by omega)]; exact hi2) | (rw [bzI_s (R 1) hi0, if_neg (by omega), hi2]; unfold bzN; dsimp only; rw [← hMM]; first | rw [if_pos h9] | rw [if_neg h9])) (by first | contradiction | omega) (by first | contradiction | omega) (by omega) H locs (by rw [show (ups (ups (ups (R 0) 6 0) 13 ((mat ((ups (ups (R 1) 8 g8) 8 (zfor (R 1) (k / R 1 13) (k % R 1 13)))) ((zfor (R 1) (k / R 1 13) (k % R 1 13)))).2.2.1)) 14 ((mat ((ups (ups (R 1) 8 g8) 8 (zfor (R 1) (k / R 1 13) (k % R 1 13)))) ((zfor (R 1) (k / R 1 13) (k % R 1 13)))).2.2.2)) = (ups (ups ((ups (ups (ups (R 0) 6 0) 13 gm) 14 gn)) 13 (mat ((ups (ups (R 1) 8 g8) 8 (zfor (R 1) (k / R 1 13) (k % R 1 13)))) ((zfor (R 1) (k / R 1 13) (k % R 1 13)))).2.2.1) 14 (mat ((ups (ups (R 1) 8 g8) 8 (zfor (R 1) (k / R 1 13) (k % R 1 13)))) ((zfor (R 1) (k / R 1 13) (k % R 1 13)))).2.2.2) from by first | rfl | (funext k9; unfold ups; (repeat' split) <;> first | rfl | omega), show (ups (R 1) 8 (zfor (R 1) (k / R 1 13) (k % R 1 13))) = (ups (ups (R 1) 8 g8) 8 (zfor (R 1) (k / R 1 13) (k % R 1 13))) from by first | rfl | exact (ups_ups _ _ _ _).symm]; exact hP) (k_addr hD rfl) hS ls (lv_sub hl [0, 1, 2, 3, 6, 7] rfl)
                · skip
                  have h9 : (b = -1000000000 ∨ ((mat ((ups (ups (R 1) 8 g8) 8 (zfor (R 1) (k / R 1 13) (k % R 1 13)))) ((zfor (R 1) (k / R 1 13) (k % R 1 13)))).2.2.1) > mo ∨ (((mat ((ups (ups (R 1) 8 g8) 8 (zfor (R 1) (k / R 1 13) (k % R 1 13)))) ((zfor (R 1) (k / R 1 13) (k % R 1 13)))).2.2.1) = mo ∧ (((mat ((ups (ups (R 1) 8 g8) 8 (zfor (R 1) (k / R 1 13) (k % R 1 13)))) ((zfor (R 1) (k / R 1 13) (k % R 1 13)))).2.2.2) < le ∨ (((mat ((ups (ups (R 1) 8 g8) 8 (zfor (R 1) (k / R 1 13) (k % R 1 13)))) ((zfor (R 1) (k / R 1 13) (k % R 1 13)))).2.2.2) = le ∧ (zfor (R 1) (k / R 1 13) (k % R 1 13)) < b)))) := by by_cases h : (b = -1000000000 ∨ ((mat ((ups (ups (R 1) 8 g8) 8 (zfor (R 1) (k / R 1 13) (k % R 1 13)))) ((zfor (R 1) (k / R 1 13) (k % R 1 13)))).2.2.1) > mo ∨ (((mat ((ups (ups (R 1) 8 g8) 8 (zfor (R 1) (k / R 1 13) (k % R 1 13)))) ((zfor (R 1) (k / R 1 13) (k % R 1 13)))).2.2.1) = mo ∧ (((mat ((ups (ups (R 1) 8 g8) 8 (zfor (R 1) (k / R 1 13) (k % R 1 13)))) ((zfor (R 1) (k / R 1 13) (k % R 1 13)))).2.2.2) < le ∨ (((mat ((ups (ups (R 1) 8 g8) 8 (zfor (R 1) (k / R 1 13) (k % R 1 13)))) ((zfor (R 1) (k / R 1 13) (k % R 1 13)))).2.2.2) = le ∧ (zfor (R 1) (k / R 1 13) (k % R 1 13)) < b)))); exact h; rw [if_neg h] at c_13; exact absurd rfl c_13
                  refine lv_iload hx hb dX7_bestZero_186 (lv_at hl 0 rfl) ?_
                  refine lv_goto (tgt := 192) hx hb dX7_bestZero_188 (by decide) ?_
                  refine lv_istore_n (lv' := [(2, .int (iI (zfor (R 1) (k / R 1 13) (k % R 1 13)))), (7, .int (iI (zfor (R 1) (k / R 1 13) (k % R 1 13)))), (6, .int (iI (k / (R 1 13)))), (5, .int (iI k)), (4, .int (iI le)), (3, .int (iI mo)), (1, .int (iI (R 1 8))), (0, .ref (a 0)), (9, .int (iI (if (b = -1000000000 ∨ ((mat ((ups (ups (R 1) 8 g8) 8 (zfor (R 1) (k / R 1 13) (k % R 1 13)))) ((zfor (R 1) (k / R 1 13) (k % R 1 13)))).2.2.1) > mo ∨ (((mat ((ups (ups (R 1) 8 g8) 8 (zfor (R 1) (k / R 1 13) (k % R 1 13)))) ((zfor (R 1) (k / R 1 13) (k % R 1 13)))).2.2.1) = mo ∧ (((mat ((ups (ups (R 1) 8 g8) 8 (zfor (R 1) (k / R 1 13) (k % R 1 13)))) ((zfor (R 1) (k / R 1 13) (k % R 1 13)))).2.2.2) < le ∨ (((mat ((ups (ups (R 1) 8 g8) 8 (zfor (R 1) (k / R 1 13) (k % R 1 13)))) ((zfor (R 1) (k / R 1 13) (k % R 1 13)))).2.2.2) = le ∧ (zfor (R 1) (k / R 1 13) (k % R 1 13)) < b)))) then (1 : Int) else 0)))]) hx hb dX7_bestZero_192 rfl hl (by decide) rfl (fun ls hl => ?_)
                  refine lv_iload hx hb dX7_bestZero_193 (lv_at hl 8 rfl) ?_
                  refine k_if_eq (tgt := 205) hx hb dX7_bestZero_195 (by decide) (by split <;> omega) (fun c_17 => ?_) (fun c_17 => ?_)
                  · skip
                    refine lv_iload_n hx hb dX7_bestZero_205 rfl (lv_at hl 5 rfl) ?_
                    refine lv_istore_n (lv' := [(3, .int (iI mo)), (2, .int (iI (zfor (R 1) (k / R 1 13) (k % R 1 13)))), (7, .int (iI (zfor (R 1) (k / R 1 13) (k % R 1 13)))), (6, .int (iI (k / (R 1 13)))), (5, .int (iI k)), (4, .int (iI le)), (1, .int (iI (R 1 8))), (0, .ref (a 0)), (9, .int (iI (if (b = -1000000000 ∨ ((mat ((ups (ups (R 1) 8 g8) 8 (zfor (R 1) (k / R 1 13) (k % R 1 13)))) ((zfor (R 1) (k / R 1 13) (k % R 1 13)))).2.2.1) > mo ∨ (((mat ((ups (ups (R 1) 8 g8) 8 (zfor (R 1) (k / R 1 13) (k % R 1 13)))) ((zfor (R 1) (k / R 1 13) (k % R 1 13)))).2.2.1) = mo ∧ (((mat ((ups (ups (R 1) 8 g8) 8 (zfor (R 1) (k / R 1 13) (k % R 1 13)))) ((zfor (R 1) (k / R 1 13) (k % R 1 13)))).2.2.2) < le ∨ (((mat ((ups (ups (R 1) 8 g8) 8 (zfor (R 1) (k / R 1 13) (k % R 1 13)))) ((zfor (R 1) (k / R 1 13) (k % R 1 13)))).2.2.2) = le ∧ (zfor (R 1) (k / R 1 13) (k % R 1 13)) < b)))) then (1 : Int) else 0)))]) hx hb dX7_bestZero_206 rfl hl (by decide) rfl (fun ls hl => ?_)
                    refine lv_iload hx hb dX7_bestZero_207 (lv_at hl 8 rfl) ?_
                    refine k_if_eq (tgt := 219) hx hb dX7_bestZero_209 (by decide) (by split <;> omega) (fun c_18 => ?_) (fun c_18 => ?_)
                    · skip
                      refine lv_iload hx hb dX7_bestZero_219 (lv_at hl 5 rfl) ?_
                      refine lv_istore (lv' := [(4, .int (iI le)), (3, .int (iI mo)), (2, .int (iI (zfor (R 1) (k / R 1 13) (k % R 1 13)))), (7, .int (iI (zfor (R 1) (k / R 1 13) (k % R 1 13)))), (6, .int (iI (k / (R 1 13)))), (5, .int (iI k)), (1, .int (iI (R 1 8))), (0, .ref (a 0)), (9, .int (iI (if (b = -1000000000 ∨ ((mat ((ups (ups (R 1) 8 g8) 8 (zfor (R 1) (k / R 1 13) (k % R 1 13)))) ((zfor (R 1) (k / R 1 13) (k % R 1 13)))).2.2.1) > mo ∨ (((mat ((ups (ups (R 1) 8 g8) 8 (zfor (R 1) (k / R 1 13) (k % R 1 13)))) ((zfor (R 1) (k / R 1 13) (k % R 1 13)))).2.2.1) = mo ∧ (((mat ((ups (ups (R 1) 8 g8) 8 (zfor (R 1) (k / R 1 13) (k % R 1 13)))) ((zfor (R 1) (k / R 1 13) (k % R 1 13)))).2.2.2) < le ∨ (((mat ((ups (ups (R 1) 8 g8) 8 (zfor (R 1) (k / R 1 13) (k % R 1 13)))) ((zfor (R 1) (k / R 1 13) (k % R 1 13)))).2.2.2) = le ∧ (zfor (R 1) (k / R 1 13) (k % R 1 13)) < b)))) then (1 : Int) else 0)))]) hx hb dX7_bestZero_221 hl (by decide) rfl (fun ls hl => ?_)
                      refine lv_iinc (v := iI (k + 1)) (lv' := [(5, .int (iI (k + 1))), (4, .int (iI le)), (3, .int (iI mo)), (2, .int (iI (zfor (R 1) (k / R 1 13) (k % R 1 13)))), (7, .int (iI (zfor (R 1) (k / R 1 13) (k % R 1 13)))), (6, .int (iI (k / (R 1 13)))), (1, .int (iI (R 1 8))), (0, .ref (a 0)), (9, .int (iI (if (b = -1000000000 ∨ ((mat ((ups (ups (R 1) 8 g8) 8 (zfor (R 1) (k / R 1 13) (k % R 1 13)))) ((zfor (R 1) (k / R 1 13) (k % R 1 13)))).2.2.1) > mo ∨ (((mat ((ups (ups (R 1) 8 g8) 8 (zfor (R 1) (k / R 1 13) (k % R 1 13)))) ((zfor (R 1) (k / R 1 13) (k % R 1 13)))).2.2.1) = mo ∧ (((mat ((ups (ups (R 1) 8 g8) 8 (zfor (R 1) (k / R 1 13) (k % R 1 13)))) ((zfor (R 1) (k / R 1 13) (k % R 1 13)))).2.2.2) < le ∨ (((mat ((ups (ups (R 1) 8 g8) 8 (zfor (R 1) (k / R 1 13) (k % R 1 13)))) ((zfor (R 1) (k / R 1 13) (k % R 1 13)))).2.2.2) = le ∧ (zfor (R 1) (k / R 1 13) (k % R 1 13)) < b)))) then (1 : Int) else 0)))]) hx hb dX7_bestZero_223 hl (k := 5) rfl (iI_add _ _) (by decide) rfl (fun ls hl => ?_)
                      refine lv_goto (tgt := 24) hx hb dX7_bestZero_226 (by decide) ?_
                      exact ih24 (k + 1) (zfor (R 1) (k / R 1 13) (k % R 1 13)) mo le (zfor (R 1) (k / R 1 13) (k % R 1 13)) ((mat ((ups (ups (R 1) 8 g8) 8 (zfor (R 1) (k / R 1 13) (k % R 1 13)))) ((zfor (R 1) (k / R 1 13) (k % R 1 13)))).2.2.1) ((mat ((ups (ups (R 1) 8 g8) 8 (zfor (R 1) (k / R 1 13) (k % R 1 13)))) ((zfor (R 1) (k / R 1 13) (k % R 1 13)))).2.2.2) zq_11 zs_9 zt_10  (by omega) (by omega) (by first | contradiction | (rw [bzI_s (R 1) hi0, if_pos (by omega)]; exact hi2) | (rw [bzI_s (R 1) hi0, if_neg (by omega), hi2]; unfold bzN; dsimp only; rw [← hMM]; first | rw [if_pos h9] | rw [if_neg h9])) (by first | contradiction | omega) (by first | contradiction | omega) (by omega) H locs (by rw [show (ups (ups (ups (R 0) 6 0) 13 ((mat ((ups (ups (R 1) 8 g8) 8 (zfor (R 1) (k / R 1 13) (k % R 1 13)))) ((zfor (R 1) (k / R 1 13) (k % R 1 13)))).2.2.1)) 14 ((mat ((ups (ups (R 1) 8 g8) 8 (zfor (R 1) (k / R 1 13) (k % R 1 13)))) ((zfor (R 1) (k / R 1 13) (k % R 1 13)))).2.2.2)) = (ups (ups ((ups (ups (ups (R 0) 6 0) 13 gm) 14 gn)) 13 (mat ((ups (ups (R 1) 8 g8) 8 (zfor (R 1) (k / R 1 13) (k % R 1 13)))) ((zfor (R 1) (k / R 1 13) (k % R 1 13)))).2.2.1) 14 (mat ((ups (ups (R 1) 8 g8) 8 (zfor (R 1) (k / R 1 13) (k % R 1 13)))) ((zfor (R 1) (k / R 1 13) (k % R 1 13)))).2.2.2) from by first | rfl | (funext k9; unfold ups; (repeat' split) <;> first | rfl | omega), show (ups (R 1) 8 (zfor (R 1) (k / R 1 13) (k % R 1 13))) = (ups (ups (R 1) 8 g8) 8 (zfor (R 1) (k / R 1 13) (k % R 1 13))) from by first | rfl | exact (ups_ups _ _ _ _).symm]; exact hP) (k_addr hD rfl) hS ls (lv_sub hl [0, 1, 2, 3, 6, 7] rfl)
                    · skip
                      refine lv_aload_n hx hb dX7_bestZero_212 rfl (lv_at hl 7 rfl) ?_
                      refine va_get (D := D) (ci := 6) (v := .int (iI ((mat ((ups (ups (R 1) 8 g8) 8 (zfor (R 1) (k / R 1 13) (k % R 1 13)))) ((zfor (R 1) (k / R 1 13) (k % R 1 13)))).2.2.2))) (C := RX7) (T := TX7) (N := 19) hx hb hts hinX7 hown hK hP 0 rfl rfl 14 (by decide) hm3 (fun _ h9 => h9) rfl dX7_bestZero_213 ?_
                      refine lv_goto (tgt := 221) hx hb dX7_bestZero_216 (by decide) ?_
                      refine lv_istore (lv' := [(4, .int (iI ((mat ((ups (ups (R 1) 8 g8) 8 (zfor (R 1) (k / R 1 13) (k % R 1 13)))) ((zfor (R 1) (k / R 1 13) (k % R 1 13)))).2.2.2))), (3, .int (iI mo)), (2, .int (iI (zfor (R 1) (k / R 1 13) (k % R 1 13)))), (7, .int (iI (zfor (R 1) (k / R 1 13) (k % R 1 13)))), (6, .int (iI (k / (R 1 13)))), (5, .int (iI k)), (1, .int (iI (R 1 8))), (0, .ref (a 0)), (9, .int (iI (if (b = -1000000000 ∨ ((mat ((ups (ups (R 1) 8 g8) 8 (zfor (R 1) (k / R 1 13) (k % R 1 13)))) ((zfor (R 1) (k / R 1 13) (k % R 1 13)))).2.2.1) > mo ∨ (((mat ((ups (ups (R 1) 8 g8) 8 (zfor (R 1) (k / R 1 13) (k % R 1 13)))) ((zfor (R 1) (k / R 1 13) (k % R 1 13)))).2.2.1) = mo ∧ (((mat ((ups (ups (R 1) 8 g8) 8 (zfor (R 1) (k / R 1 13) (k % R 1 13)))) ((zfor (R 1) (k / R 1 13) (k % R 1 13)))).2.2.2) < le ∨ (((mat ((ups (ups (R 1) 8 g8) 8 (zfor (R 1) (k / R 1 13) (k % R 1 13)))) ((zfor (R 1) (k / R 1 13) (k % R 1 13)))).2.2.2) = le ∧ (zfor (R 1) (k / R 1 13) (k % R 1 13)) < b)))) then (1 : Int) else 0)))]) hx hb dX7_bestZero_221 hl (by decide) rfl (fun ls hl => ?_)
                      refine lv_iinc (v := iI (k + 1)) (lv' := [(5, .int (iI (k + 1))), (4, .int (iI ((mat ((ups (ups (R 1) 8 g8) 8 (zfor (R 1) (k / R 1 13) (k % R 1 13)))) ((zfor (R 1) (k / R 1 13) (k % R 1 13)))).2.2.2))), (3, .int (iI mo)), (2, .int (iI (zfor (R 1) (k / R 1 13) (k % R 1 13)))), (7, .int (iI (zfor (R 1) (k / R 1 13) (k % R 1 13)))), (6, .int (iI (k / (R 1 13)))), (1, .int (iI (R 1 8))), (0, .ref (a 0)), (9, .int (iI (if (b = -1000000000 ∨ ((mat ((ups (ups (R 1) 8 g8) 8 (zfor (R 1) (k / R 1 13) (k % R 1 13)))) ((zfor (R 1) (k / R 1 13) (k % R 1 13)))).2.2.1) > mo ∨ (((mat ((ups (ups (R 1) 8 g8) 8 (zfor (R 1) (k / R 1 13) (k % R 1 13)))) ((zfor (R 1) (k / R 1 13) (k % R 1 13)))).2.2.1) = mo ∧ (((mat ((ups (ups (R 1) 8 g8) 8 (zfor (R 1) (k / R 1 13) (k % R 1 13)))) ((zfor (R 1) (k / R 1 13) (k % R 1 13)))).2.2.2) < le ∨ (((mat ((ups (ups (R 1) 8 g8) 8 (zfor (R 1) (k / R 1 13) (k % R 1 13)))) ((zfor (R 1) (k / R 1 13) (k % R 1 13)))).2.2.2) = le ∧ (zfor (R 1) (k / R 1 13) (k % R 1 13)) < b)))) then (1 : Int) else 0)))]) hx hb dX7_bestZero_223 hl (k := 5) rfl (iI_add _ _) (by decide) rfl (fun ls hl => ?_)
                      refine lv_goto (tgt := 24) hx hb dX7_bestZero_226 (by decide) ?_
                      exact ih24 (k + 1) (zfor (R 1) (k / R 1 13) (k % R 1 13)) mo ((mat ((ups (ups (R 1) 8 g8) 8 (zfor (R 1) (k / R 1 13) (k % R 1 13)))) ((zfor (R 1) (k / R 1 13) (k % R 1 13)))).2.2.2) (zfor (R 1) (k / R 1 13) (k % R 1 13)) ((mat ((ups (ups (R 1) 8 g8) 8 (zfor (R 1) (k / R 1 13) (k % R 1 13)))) ((zfor (R 1) (k / R 1 13) (k % R 1 13)))).2.2.1) ((mat ((ups (ups (R 1) 8 g8) 8 (zfor (R 1) (k / R 1 13) (k % R 1 13)))) ((zfor (R 1) (k / R 1 13) (k % R 1 13)))).2.2.2) zq_11 zs_9 zt_10  (by omega) (by omega) (by first | contradiction | (rw [bzI_s (R 1) hi0, if_pos (by omega)]; exact hi2) | (rw [bzI_s (R 1) hi0, if_neg (by omega), hi2]; unfold bzN; dsimp only; rw [← hMM]; first | rw [if_pos h9] | rw [if_neg h9])) (by first | contradiction | omega) (by first | contradiction | omega) (by omega) H locs (by rw [show (ups (ups (ups (R 0) 6 0) 13 ((mat ((ups (ups (R 1) 8 g8) 8 (zfor (R 1) (k / R 1 13) (k % R 1 13)))) ((zfor (R 1) (k / R 1 13) (k % R 1 13)))).2.2.1)) 14 ((mat ((ups (ups (R 1) 8 g8) 8 (zfor (R 1) (k / R 1 13) (k % R 1 13)))) ((zfor (R 1) (k / R 1 13) (k % R 1 13)))).2.2.2)) = (ups (ups ((ups (ups (ups (R 0) 6 0) 13 gm) 14 gn)) 13 (mat ((ups (ups (R 1) 8 g8) 8 (zfor (R 1) (k / R 1 13) (k % R 1 13)))) ((zfor (R 1) (k / R 1 13) (k % R 1 13)))).2.2.1) 14 (mat ((ups (ups (R 1) 8 g8) 8 (zfor (R 1) (k / R 1 13) (k % R 1 13)))) ((zfor (R 1) (k / R 1 13) (k % R 1 13)))).2.2.2) from by first | rfl | (funext k9; unfold ups; (repeat' split) <;> first | rfl | omega), show (ups (R 1) 8 (zfor (R 1) (k / R 1 13) (k % R 1 13))) = (ups (ups (R 1) 8 g8) 8 (zfor (R 1) (k / R 1 13) (k % R 1 13))) from by first | rfl | exact (ups_ups _ _ _ _).symm]; exact hP) (k_addr hD rfl) hS ls (lv_sub hl [0, 1, 2, 3, 6, 7] rfl)
                  · skip
                    refine lv_aload_n hx hb dX7_bestZero_198 rfl (lv_at hl 7 rfl) ?_
                    refine va_get (D := D) (ci := 6) (v := .int (iI ((mat ((ups (ups (R 1) 8 g8) 8 (zfor (R 1) (k / R 1 13) (k % R 1 13)))) ((zfor (R 1) (k / R 1 13) (k % R 1 13)))).2.2.1))) (C := RX7) (T := TX7) (N := 19) hx hb hts hinX7 hown hK hP 0 rfl rfl 13 (by decide) hm4 (fun _ h9 => h9) rfl dX7_bestZero_199 ?_
                    refine lv_goto (tgt := 206) hx hb dX7_bestZero_202 (by decide) ?_
                    refine lv_istore_n (lv' := [(3, .int (iI ((mat ((ups (ups (R 1) 8 g8) 8 (zfor (R 1) (k / R 1 13) (k % R 1 13)))) ((zfor (R 1) (k / R 1 13) (k % R 1 13)))).2.2.1))), (2, .int (iI (zfor (R 1) (k / R 1 13) (k % R 1 13)))), (7, .int (iI (zfor (R 1) (k / R 1 13) (k % R 1 13)))), (6, .int (iI (k / (R 1 13)))), (5, .int (iI k)), (4, .int (iI le)), (1, .int (iI (R 1 8))), (0, .ref (a 0)), (9, .int (iI (if (b = -1000000000 ∨ ((mat ((ups (ups (R 1) 8 g8) 8 (zfor (R 1) (k / R 1 13) (k % R 1 13)))) ((zfor (R 1) (k / R 1 13) (k % R 1 13)))).2.2.1) > mo ∨ (((mat ((ups (ups (R 1) 8 g8) 8 (zfor (R 1) (k / R 1 13) (k % R 1 13)))) ((zfor (R 1) (k / R 1 13) (k % R 1 13)))).2.2.1) = mo ∧ (((mat ((ups (ups (R 1) 8 g8) 8 (zfor (R 1) (k / R 1 13) (k % R 1 13)))) ((zfor (R 1) (k / R 1 13) (k % R 1 13)))).2.2.2) < le ∨ (((mat ((ups (ups (R 1) 8 g8) 8 (zfor (R 1) (k / R 1 13) (k % R 1 13)))) ((zfor (R 1) (k / R 1 13) (k % R 1 13)))).2.2.2) = le ∧ (zfor (R 1) (k / R 1 13) (k % R 1 13)) < b)))) then (1 : Int) else 0)))]) hx hb dX7_bestZero_206 rfl hl (by decide) rfl (fun ls hl => ?_)
                    refine lv_iload hx hb dX7_bestZero_207 (lv_at hl 8 rfl) ?_
                    refine k_if_eq (tgt := 219) hx hb dX7_bestZero_209 (by decide) (by split <;> omega) (fun c_19 => ?_) (fun c_19 => ?_)
                    · skip
                      refine lv_iload hx hb dX7_bestZero_219 (lv_at hl 5 rfl) ?_
                      refine lv_istore (lv' := [(4, .int (iI le)), (3, .int (iI ((mat ((ups (ups (R 1) 8 g8) 8 (zfor (R 1) (k / R 1 13) (k % R 1 13)))) ((zfor (R 1) (k / R 1 13) (k % R 1 13)))).2.2.1))), (2, .int (iI (zfor (R 1) (k / R 1 13) (k % R 1 13)))), (7, .int (iI (zfor (R 1) (k / R 1 13) (k % R 1 13)))), (6, .int (iI (k / (R 1 13)))), (5, .int (iI k)), (1, .int (iI (R 1 8))), (0, .ref (a 0)), (9, .int (iI (if (b = -1000000000 ∨ ((mat ((ups (ups (R 1) 8 g8) 8 (zfor (R 1) (k / R 1 13) (k % R 1 13)))) ((zfor (R 1) (k / R 1 13) (k % R 1 13)))).2.2.1) > mo ∨ (((mat ((ups (ups (R 1) 8 g8) 8 (zfor (R 1) (k / R 1 13) (k % R 1 13)))) ((zfor (R 1) (k / R 1 13) (k % R 1 13)))).2.2.1) = mo ∧ (((mat ((ups (ups (R 1) 8 g8) 8 (zfor (R 1) (k / R 1 13) (k % R 1 13)))) ((zfor (R 1) (k / R 1 13) (k % R 1 13)))).2.2.2) < le ∨ (((mat ((ups (ups (R 1) 8 g8) 8 (zfor (R 1) (k / R 1 13) (k % R 1 13)))) ((zfor (R 1) (k / R 1 13) (k % R 1 13)))).2.2.2) = le ∧ (zfor (R 1) (k / R 1 13) (k % R 1 13)) < b)))) then (1 : Int) else 0)))]) hx hb dX7_bestZero_221 hl (by decide) rfl (fun ls hl => ?_)
                      refine lv_iinc (v := iI (k + 1)) (lv' := [(5, .int (iI (k + 1))), (4, .int (iI le)), (3, .int (iI ((mat ((ups (ups (R 1) 8 g8) 8 (zfor (R 1) (k / R 1 13) (k % R 1 13)))) ((zfor (R 1) (k / R 1 13) (k % R 1 13)))).2.2.1))), (2, .int (iI (zfor (R 1) (k / R 1 13) (k % R 1 13)))), (7, .int (iI (zfor (R 1) (k / R 1 13) (k % R 1 13)))), (6, .int (iI (k / (R 1 13)))), (1, .int (iI (R 1 8))), (0, .ref (a 0)), (9, .int (iI (if (b = -1000000000 ∨ ((mat ((ups (ups (R 1) 8 g8) 8 (zfor (R 1) (k / R 1 13) (k % R 1 13)))) ((zfor (R 1) (k / R 1 13) (k % R 1 13)))).2.2.1) > mo ∨ (((mat ((ups (ups (R 1) 8 g8) 8 (zfor (R 1) (k / R 1 13) (k % R 1 13)))) ((zfor (R 1) (k / R 1 13) (k % R 1 13)))).2.2.1) = mo ∧ (((mat ((ups (ups (R 1) 8 g8) 8 (zfor (R 1) (k / R 1 13) (k % R 1 13)))) ((zfor (R 1) (k / R 1 13) (k % R 1 13)))).2.2.2) < le ∨ (((mat ((ups (ups (R 1) 8 g8) 8 (zfor (R 1) (k / R 1 13) (k % R 1 13)))) ((zfor (R 1) (k / R 1 13) (k % R 1 13)))).2.2.2) = le ∧ (zfor (R 1) (k / R 1 13) (k % R 1 13)) < b)))) then (1 : Int) else 0)))]) hx hb dX7_bestZero_223 hl (k := 5) rfl (iI_add _ _) (by decide) rfl (fun ls hl => ?_)
                      refine lv_goto (tgt := 24) hx hb dX7_bestZero_226 (by decide) ?_
                      exact ih24 (k + 1) (zfor (R 1) (k / R 1 13) (k % R 1 13)) ((mat ((ups (ups (R 1) 8 g8) 8 (zfor (R 1) (k / R 1 13) (k % R 1 13)))) ((zfor (R 1) (k / R 1 13) (k % R 1 13)))).2.2.1) le (zfor (R 1) (k / R 1 13) (k % R 1 13)) ((mat ((ups (ups (R 1) 8 g8) 8 (zfor (R 1) (k / R 1 13) (k % R 1 13)))) ((zfor (R 1) (k / R 1 13) (k % R 1 13)))).2.2.1) ((mat ((ups (ups (R 1) 8 g8) 8 (zfor (R 1) (k / R 1 13) (k % R 1 13)))) ((zfor (R 1) (k / R 1 13) (k % R 1 13)))).2.2.2) zq_11 zs_9 zt_10  (by omega) (by omega) (by first | contradiction | (rw [bzI_s (R 1) hi0, if_pos (by omega)]; exact hi2) | (rw [bzI_s (R 1) hi0, if_neg (by omega), hi2]; unfold bzN; dsimp only; rw [← hMM]; first | rw [if_pos h9] | rw [if_neg h9])) (by first | contradiction | omega) (by first | contradiction | omega) (by omega) H locs (by rw [show (ups (ups (ups (R 0) 6 0) 13 ((mat ((ups (ups (R 1) 8 g8) 8 (zfor (R 1) (k / R 1 13) (k % R 1 13)))) ((zfor (R 1) (k / R 1 13) (k % R 1 13)))).2.2.1)) 14 ((mat ((ups (ups (R 1) 8 g8) 8 (zfor (R 1) (k / R 1 13) (k % R 1 13)))) ((zfor (R 1) (k / R 1 13) (k % R 1 13)))).2.2.2)) = (ups (ups ((ups (ups (ups (R 0) 6 0) 13 gm) 14 gn)) 13 (mat ((ups (ups (R 1) 8 g8) 8 (zfor (R 1) (k / R 1 13) (k % R 1 13)))) ((zfor (R 1) (k / R 1 13) (k % R 1 13)))).2.2.1) 14 (mat ((ups (ups (R 1) 8 g8) 8 (zfor (R 1) (k / R 1 13) (k % R 1 13)))) ((zfor (R 1) (k / R 1 13) (k % R 1 13)))).2.2.2) from by first | rfl | (funext k9; unfold ups; (repeat' split) <;> first | rfl | omega), show (ups (R 1) 8 (zfor (R 1) (k / R 1 13) (k % R 1 13))) = (ups (ups (R 1) 8 g8) 8 (zfor (R 1) (k / R 1 13) (k % R 1 13))) from by first | rfl | exact (ups_ups _ _ _ _).symm]; exact hP) (k_addr hD rfl) hS ls (lv_sub hl [0, 1, 2, 3, 6, 7] rfl)
                    · skip
                      refine lv_aload_n hx hb dX7_bestZero_212 rfl (lv_at hl 7 rfl) ?_
                      refine va_get (D := D) (ci := 6) (v := .int (iI ((mat ((ups (ups (R 1) 8 g8) 8 (zfor (R 1) (k / R 1 13) (k % R 1 13)))) ((zfor (R 1) (k / R 1 13) (k % R 1 13)))).2.2.2))) (C := RX7) (T := TX7) (N := 19) hx hb hts hinX7 hown hK hP 0 rfl rfl 14 (by decide) hm3 (fun _ h9 => h9) rfl dX7_bestZero_213 ?_
                      refine lv_goto (tgt := 221) hx hb dX7_bestZero_216 (by decide) ?_
                      refine lv_istore (lv' := [(4, .int (iI ((mat ((ups (ups (R 1) 8 g8) 8 (zfor (R 1) (k / R 1 13) (k % R 1 13)))) ((zfor (R 1) (k / R 1 13) (k % R 1 13)))).2.2.2))), (3, .int (iI ((mat ((ups (ups (R 1) 8 g8) 8 (zfor (R 1) (k / R 1 13) (k % R 1 13)))) ((zfor (R 1) (k / R 1 13) (k % R 1 13)))).2.2.1))), (2, .int (iI (zfor (R 1) (k / R 1 13) (k % R 1 13)))), (7, .int (iI (zfor (R 1) (k / R 1 13) (k % R 1 13)))), (6, .int (iI (k / (R 1 13)))), (5, .int (iI k)), (1, .int (iI (R 1 8))), (0, .ref (a 0)), (9, .int (iI (if (b = -1000000000 ∨ ((mat ((ups (ups (R 1) 8 g8) 8 (zfor (R 1) (k / R 1 13) (k % R 1 13)))) ((zfor (R 1) (k / R 1 13) (k % R 1 13)))).2.2.1) > mo ∨ (((mat ((ups (ups (R 1) 8 g8) 8 (zfor (R 1) (k / R 1 13) (k % R 1 13)))) ((zfor (R 1) (k / R 1 13) (k % R 1 13)))).2.2.1) = mo ∧ (((mat ((ups (ups (R 1) 8 g8) 8 (zfor (R 1) (k / R 1 13) (k % R 1 13)))) ((zfor (R 1) (k / R 1 13) (k % R 1 13)))).2.2.2) < le ∨ (((mat ((ups (ups (R 1) 8 g8) 8 (zfor (R 1) (k / R 1 13) (k % R 1 13)))) ((zfor (R 1) (k / R 1 13) (k % R 1 13)))).2.2.2) = le ∧ (zfor (R 1) (k / R 1 13) (k % R 1 13)) < b)))) then (1 : Int) else 0)))]) hx hb dX7_bestZero_221 hl (by decide) rfl (fun ls hl => ?_)
                      refine lv_iinc (v := iI (k + 1)) (lv' := [(5, .int (iI (k + 1))), (4, .int (iI ((mat ((ups (ups (R 1) 8 g8) 8 (zfor (R 1) (k / R 1 13) (k % R 1 13)))) ((zfor (R 1) (k / R 1 13) (k % R 1 13)))).2.2.2))), (3, .int (iI ((mat ((ups (ups (R 1) 8 g8) 8 (zfor (R 1) (k / R 1 13) (k % R 1 13)))) ((zfor (R 1) (k / R 1 13) (k % R 1 13)))).2.2.1))), (2, .int (iI (zfor (R 1) (k / R 1 13) (k % R 1 13)))), (7, .int (iI (zfor (R 1) (k / R 1 13) (k % R 1 13)))), (6, .int (iI (k / (R 1 13)))), (1, .int (iI (R 1 8))), (0, .ref (a 0)), (9, .int (iI (if (b = -1000000000 ∨ ((mat ((ups (ups (R 1) 8 g8) 8 (zfor (R 1) (k / R 1 13) (k % R 1 13)))) ((zfor (R 1) (k / R 1 13) (k % R 1 13)))).2.2.1) > mo ∨ (((mat ((ups (ups (R 1) 8 g8) 8 (zfor (R 1) (k / R 1 13) (k % R 1 13)))) ((zfor (R 1) (k / R 1 13) (k % R 1 13)))).2.2.1) = mo ∧ (((mat ((ups (ups (R 1) 8 g8) 8 (zfor (R 1) (k / R 1 13) (k % R 1 13)))) ((zfor (R 1) (k / R 1 13) (k % R 1 13)))).2.2.2) < le ∨ (((mat ((ups (ups (R 1) 8 g8) 8 (zfor (R 1) (k / R 1 13) (k % R 1 13)))) ((zfor (R 1) (k / R 1 13) (k % R 1 13)))).2.2.2) = le ∧ (zfor (R 1) (k / R 1 13) (k % R 1 13)) < b)))) then (1 : Int) else 0)))]) hx hb dX7_bestZero_223 hl (k := 5) rfl (iI_add _ _) (by decide) rfl (fun ls hl => ?_)
                      refine lv_goto (tgt := 24) hx hb dX7_bestZero_226 (by decide) ?_
                      exact ih24 (k + 1) (zfor (R 1) (k / R 1 13) (k % R 1 13)) ((mat ((ups (ups (R 1) 8 g8) 8 (zfor (R 1) (k / R 1 13) (k % R 1 13)))) ((zfor (R 1) (k / R 1 13) (k % R 1 13)))).2.2.1) ((mat ((ups (ups (R 1) 8 g8) 8 (zfor (R 1) (k / R 1 13) (k % R 1 13)))) ((zfor (R 1) (k / R 1 13) (k % R 1 13)))).2.2.2) (zfor (R 1) (k / R 1 13) (k % R 1 13)) ((mat ((ups (ups (R 1) 8 g8) 8 (zfor (R 1) (k / R 1 13) (k % R 1 13)))) ((zfor (R 1) (k / R 1 13) (k % R 1 13)))).2.2.1) ((mat ((ups (ups (R 1) 8 g8) 8 (zfor (R 1) (k / R 1 13) (k % R 1 13)))) ((zfor (R 1) (k / R 1 13) (k % R 1 13)))).2.2.2) zq_11 zs_9 zt_10  (by omega) (by omega) (by first | contradiction | (rw [bzI_s (R 1) hi0, if_pos (by omega)]; exact hi2) | (rw [bzI_s (R 1) hi0, if_neg (by omega), hi2]; unfold bzN; dsimp only; rw [← hMM]; first | rw [if_pos h9] | rw [if_neg h9])) (by first | contradiction | omega) (by first | contradiction | omega) (by omega) H locs (by rw [show (ups (ups (ups (R 0) 6 0) 13 ((mat ((ups (ups (R 1) 8 g8) 8 (zfor (R 1) (k / R 1 13) (k % R 1 13)))) ((zfor (R 1) (k / R 1 13) (k % R 1 13)))).2.2.1)) 14 ((mat ((ups (ups (R 1) 8 g8) 8 (zfor (R 1) (k / R 1 13) (k % R 1 13)))) ((zfor (R 1) (k / R 1 13) (k % R 1 13)))).2.2.2)) = (ups (ups ((ups (ups (ups (R 0) 6 0) 13 gm) 14 gn)) 13 (mat ((ups (ups (R 1) 8 g8) 8 (zfor (R 1) (k / R 1 13) (k % R 1 13)))) ((zfor (R 1) (k / R 1 13) (k % R 1 13)))).2.2.1) 14 (mat ((ups (ups (R 1) 8 g8) 8 (zfor (R 1) (k / R 1 13) (k % R 1 13)))) ((zfor (R 1) (k / R 1 13) (k % R 1 13)))).2.2.2) from by first | rfl | (funext k9; unfold ups; (repeat' split) <;> first | rfl | omega), show (ups (R 1) 8 (zfor (R 1) (k / R 1 13) (k % R 1 13))) = (ups (ups (R 1) 8 g8) 8 (zfor (R 1) (k / R 1 13) (k % R 1 13))) from by first | rfl | exact (ups_ups _ _ _ _).symm]; exact hP) (k_addr hD rfl) hS ls (lv_sub hl [0, 1, 2, 3, 6, 7] rfl)
              have join138 : ∀ (y8 : Int) (jey8 : y8 = (if (((mat ((ups (ups (R 1) 8 g8) 8 (zfor (R 1) (k / R 1 13) (k % R 1 13)))) ((zfor (R 1) (k / R 1 13) (k % R 1 13)))).2.2.1) = mo ∧ ((mat ((ups (ups (R 1) 8 g8) 8 (zfor (R 1) (k / R 1 13) (k % R 1 13)))) ((zfor (R 1) (k / R 1 13) (k % R 1 13)))).2.2.2) = le ∧ (zfor (R 1) (k / R 1 13) (k % R 1 13)) < b) then (1 : Int) else 0)) (ls : Array Slot) (hl : lv_has ls 10 [(7, .int (iI (zfor (R 1) (k / R 1 13) (k % R 1 13)))), (6, .int (iI (k / (R 1 13)))), (5, .int (iI k)), (4, .int (iI le)), (3, .int (iI mo)), (2, .int (iI b)), (1, .int (iI (R 1 8))), (0, .ref (a 0)), (8, .int (iI y8))]), W p l e { frames := 7, cells := 0, slots := 0, locals := 158 } s m ([.ref (a 0)] : List Value).toArray below meth c H locs 0 0 (MQ below (kQi D (rfW cy a R) sz (fun u9 : Nat → Int → Int => rfW cy a u9) (fun r9 u9 => (∃ (zs : Int → Int) (zt : Int → Int) (zq : Int → Int) (zm : Int) (zn : Int), ((0 : Int) = 0) ∧ r9 = bzF (R 1) ∧ u9 = (upr (upr (upr (upr (upr R 0 (ups (ups (ups (R 0) 6 0) 13 zm) 14 zn)) 1 (R 1)) 4 (zq)) 5 (zs)) 6 (zt))))) ([.ref (a 0)] : List Value).toArray s 0 0 (va_A (rfW cy a R) sz)) (F0 m 138 ls []) := by
                intro y8 jey8 ls hl
                subst jey8
                refine lv_iload_n hx hb dX7_bestZero_138 rfl (lv_at hl 5 rfl) ?_
                refine k_ldc (z := (-1000000000)) hx hb hown hm2 (by decide +kernel) dX7_bestZero_139 ?_
                refine k_icmp_eq (tgt := 174) hx hb dX7_bestZero_141 (by decide) (by omega) (by omega) (fun c_20 => ?_) (fun c_20 => ?_)
                · skip
                  refine k_iconst hx hb dX7_bestZero_174 ?_
                  refine lv_goto (tgt := 179) hx hb dX7_bestZero_175 (by decide) ?_
                  refine lv_istore (lv' := [(9, .int (iI 1)), (7, .int (iI (zfor (R 1) (k / R 1 13) (k % R 1 13)))), (6, .int (iI (k / (R 1 13)))), (5, .int (iI k)), (4, .int (iI le)), (3, .int (iI mo)), (2, .int (iI b)), (1, .int (iI (R 1 8))), (0, .ref (a 0)), (8, .int (iI (if (((mat ((ups (ups (R 1) 8 g8) 8 (zfor (R 1) (k / R 1 13) (k % R 1 13)))) ((zfor (R 1) (k / R 1 13) (k % R 1 13)))).2.2.1) = mo ∧ ((mat ((ups (ups (R 1) 8 g8) 8 (zfor (R 1) (k / R 1 13) (k % R 1 13)))) ((zfor (R 1) (k / R 1 13) (k % R 1 13)))).2.2.2) = le ∧ (zfor (R 1) (k / R 1 13) (k % R 1 13)) < b) then (1 : Int) else 0)))]) hx hb dX7_bestZero_179 hl (by decide) rfl (fun ls hl => ?_)
                  exact join181  1 (by first | rw [if_pos (by omega)] | rw [if_neg (by omega)])  ls (lv_sub hl [1, 2, 3, 4, 5, 6, 7, 8, 0] rfl)
                · skip
                  refine lv_aload_n hx hb dX7_bestZero_144 rfl (lv_at hl 7 rfl) ?_
                  refine va_get (D := D) (ci := 6) (v := .int (iI ((mat ((ups (ups (R 1) 8 g8) 8 (zfor (R 1) (k / R 1 13) (k % R 1 13)))) ((zfor (R 1) (k / R 1 13) (k % R 1 13)))).2.2.1))) (C := RX7) (T := TX7) (N := 19) hx hb hts hinX7 hown hK hP 0 rfl rfl 13 (by decide) hm4 (fun _ h9 => h9) rfl dX7_bestZero_145 ?_
                  refine lv_iload_n hx hb dX7_bestZero_148 rfl (lv_at hl 4 rfl) ?_
                  refine k_icmp_gt (tgt := 174) hx hb dX7_bestZero_149 (by decide) (by omega) (by omega) (fun c_21 => ?_) (fun c_21 => ?_)
                  · skip
                    refine k_iconst hx hb dX7_bestZero_174 ?_
                    refine lv_goto (tgt := 179) hx hb dX7_bestZero_175 (by decide) ?_
                    refine lv_istore (lv' := [(9, .int (iI 1)), (7, .int (iI (zfor (R 1) (k / R 1 13) (k % R 1 13)))), (6, .int (iI (k / (R 1 13)))), (5, .int (iI k)), (4, .int (iI le)), (3, .int (iI mo)), (2, .int (iI b)), (1, .int (iI (R 1 8))), (0, .ref (a 0)), (8, .int (iI (if (((mat ((ups (ups (R 1) 8 g8) 8 (zfor (R 1) (k / R 1 13) (k % R 1 13)))) ((zfor (R 1) (k / R 1 13) (k % R 1 13)))).2.2.1) = mo ∧ ((mat ((ups (ups (R 1) 8 g8) 8 (zfor (R 1) (k / R 1 13) (k % R 1 13)))) ((zfor (R 1) (k / R 1 13) (k % R 1 13)))).2.2.2) = le ∧ (zfor (R 1) (k / R 1 13) (k % R 1 13)) < b) then (1 : Int) else 0)))]) hx hb dX7_bestZero_179 hl (by decide) rfl (fun ls hl => ?_)
                    exact join181  1 (by first | rw [if_pos (by omega)] | rw [if_neg (by omega)])  ls (lv_sub hl [1, 2, 3, 4, 5, 6, 7, 8, 0] rfl)
                  · skip
                    refine lv_aload_n hx hb dX7_bestZero_152 rfl (lv_at hl 7 rfl) ?_
                    refine va_get (D := D) (ci := 6) (v := .int (iI ((mat ((ups (ups (R 1) 8 g8) 8 (zfor (R 1) (k / R 1 13) (k % R 1 13)))) ((zfor (R 1) (k / R 1 13) (k % R 1 13)))).2.2.1))) (C := RX7) (T := TX7) (N := 19) hx hb hts hinX7 hown hK hP 0 rfl rfl 13 (by decide) hm4 (fun _ h9 => h9) rfl dX7_bestZero_153 ?_
                    refine lv_iload_n hx hb dX7_bestZero_156 rfl (lv_at hl 4 rfl) ?_
                    refine k_icmp_ne (tgt := 169) hx hb dX7_bestZero_157 (by decide) (by omega) (by omega) (fun c_22 => ?_) (fun c_22 => ?_)
                    · skip
                      refine lv_iload hx hb dX7_bestZero_169 (lv_at hl 8 rfl) ?_
                      refine k_if_eq (tgt := 178) hx hb dX7_bestZero_171 (by decide) (by split <;> omega) (fun c_23 => ?_) (fun c_23 => ?_)
                      · skip
                        have h8 : ¬ (((mat ((ups (ups (R 1) 8 g8) 8 (zfor (R 1) (k / R 1 13) (k % R 1 13)))) ((zfor (R 1) (k / R 1 13) (k % R 1 13)))).2.2.1) = mo ∧ ((mat ((ups (ups (R 1) 8 g8) 8 (zfor (R 1) (k / R 1 13) (k % R 1 13)))) ((zfor (R 1) (k / R 1 13) (k % R 1 13)))).2.2.2) = le ∧ (zfor (R 1) (k / R 1 13) (k % R 1 13)) < b) := by intro h; rw [if_pos h] at c_23; exact absurd c_23 (by decide)
                        refine k_iconst hx hb dX7_bestZero_178 ?_
                        refine lv_istore (lv' := [(9, .int (iI 0)), (7, .int (iI (zfor (R 1) (k / R 1 13) (k % R 1 13)))), (6, .int (iI (k / (R 1 13)))), (5, .int (iI k)), (4, .int (iI le)), (3, .int (iI mo)), (2, .int (iI b)), (1, .int (iI (R 1 8))), (0, .ref (a 0)), (8, .int (iI (if (((mat ((ups (ups (R 1) 8 g8) 8 (zfor (R 1) (k / R 1 13) (k % R 1 13)))) ((zfor (R 1) (k / R 1 13) (k % R 1 13)))).2.2.1) = mo ∧ ((mat ((ups (ups (R 1) 8 g8) 8 (zfor (R 1) (k / R 1 13) (k % R 1 13)))) ((zfor (R 1) (k / R 1 13) (k % R 1 13)))).2.2.2) = le ∧ (zfor (R 1) (k / R 1 13) (k % R 1 13)) < b) then (1 : Int) else 0)))]) hx hb dX7_bestZero_179 hl (by decide) rfl (fun ls hl => ?_)
                        exact join181  0 (by first | rw [if_pos (by omega)] | rw [if_neg (by omega)])  ls (lv_sub hl [1, 2, 3, 4, 5, 6, 7, 8, 0] rfl)
                      · skip
                        have h8 : (((mat ((ups (ups (R 1) 8 g8) 8 (zfor (R 1) (k / R 1 13) (k % R 1 13)))) ((zfor (R 1) (k / R 1 13) (k % R 1 13)))).2.2.1) = mo ∧ ((mat ((ups (ups (R 1) 8 g8) 8 (zfor (R 1) (k / R 1 13) (k % R 1 13)))) ((zfor (R 1) (k / R 1 13) (k % R 1 13)))).2.2.2) = le ∧ (zfor (R 1) (k / R 1 13) (k % R 1 13)) < b) := by by_cases h : (((mat ((ups (ups (R 1) 8 g8) 8 (zfor (R 1) (k / R 1 13) (k % R 1 13)))) ((zfor (R 1) (k / R 1 13) (k % R 1 13)))).2.2.1) = mo ∧ ((mat ((ups (ups (R 1) 8 g8) 8 (zfor (R 1) (k / R 1 13) (k % R 1 13)))) ((zfor (R 1) (k / R 1 13) (k % R 1 13)))).2.2.2) = le ∧ (zfor (R 1) (k / R 1 13) (k % R 1 13)) < b); exact h; rw [if_neg h] at c_23; exact absurd rfl c_23
                        refine k_iconst hx hb dX7_bestZero_174 ?_
                        refine lv_goto (tgt := 179) hx hb dX7_bestZero_175 (by decide) ?_
                        refine lv_istore (lv' := [(9, .int (iI 1)), (7, .int (iI (zfor (R 1) (k / R 1 13) (k % R 1 13)))), (6, .int (iI (k / (R 1 13)))), (5, .int (iI k)), (4, .int (iI le)), (3, .int (iI mo)), (2, .int (iI b)), (1, .int (iI (R 1 8))), (0, .ref (a 0)), (8, .int (iI (if (((mat ((ups (ups (R 1) 8 g8) 8 (zfor (R 1) (k / R 1 13) (k % R 1 13)))) ((zfor (R 1) (k / R 1 13) (k % R 1 13)))).2.2.1) = mo ∧ ((mat ((ups (ups (R 1) 8 g8) 8 (zfor (R 1) (k / R 1 13) (k % R 1 13)))) ((zfor (R 1) (k / R 1 13) (k % R 1 13)))).2.2.2) = le ∧ (zfor (R 1) (k / R 1 13) (k % R 1 13)) < b) then (1 : Int) else 0)))]) hx hb dX7_bestZero_179 hl (by decide) rfl (fun ls hl => ?_)
                        exact join181  1 (by first | rw [if_pos (by omega)] | rw [if_neg (by omega)])  ls (lv_sub hl [1, 2, 3, 4, 5, 6, 7, 8, 0] rfl)
                    · skip
                      refine lv_aload_n hx hb dX7_bestZero_160 rfl (lv_at hl 7 rfl) ?_
                      refine va_get (D := D) (ci := 6) (v := .int (iI ((mat ((ups (ups (R 1) 8 g8) 8 (zfor (R 1) (k / R 1 13) (k % R 1 13)))) ((zfor (R 1) (k / R 1 13) (k % R 1 13)))).2.2.2))) (C := RX7) (T := TX7) (N := 19) hx hb hts hinX7 hown hK hP 0 rfl rfl 14 (by decide) hm3 (fun _ h9 => h9) rfl dX7_bestZero_161 ?_
                      refine lv_iload hx hb dX7_bestZero_164 (lv_at hl 3 rfl) ?_
                      refine k_icmp_lt (tgt := 174) hx hb dX7_bestZero_166 (by decide) (by omega) (by omega) (fun c_24 => ?_) (fun c_24 => ?_)
                      · skip
                        refine k_iconst hx hb dX7_bestZero_174 ?_
                        refine lv_goto (tgt := 179) hx hb dX7_bestZero_175 (by decide) ?_
                        refine lv_istore (lv' := [(9, .int (iI 1)), (7, .int (iI (zfor (R 1) (k / R 1 13) (k % R 1 13)))), (6, .int (iI (k / (R 1 13)))), (5, .int (iI k)), (4, .int (iI le)), (3, .int (iI mo)), (2, .int (iI b)), (1, .int (iI (R 1 8))), (0, .ref (a 0)), (8, .int (iI (if (((mat ((ups (ups (R 1) 8 g8) 8 (zfor (R 1) (k / R 1 13) (k % R 1 13)))) ((zfor (R 1) (k / R 1 13) (k % R 1 13)))).2.2.1) = mo ∧ ((mat ((ups (ups (R 1) 8 g8) 8 (zfor (R 1) (k / R 1 13) (k % R 1 13)))) ((zfor (R 1) (k / R 1 13) (k % R 1 13)))).2.2.2) = le ∧ (zfor (R 1) (k / R 1 13) (k % R 1 13)) < b) then (1 : Int) else 0)))]) hx hb dX7_bestZero_179 hl (by decide) rfl (fun ls hl => ?_)
                        exact join181  1 (by first | rw [if_pos (by omega)] | rw [if_neg (by omega)])  ls (lv_sub hl [1, 2, 3, 4, 5, 6, 7, 8, 0] rfl)
                      · skip
                        refine lv_iload hx hb dX7_bestZero_169 (lv_at hl 8 rfl) ?_
                        refine k_if_eq (tgt := 178) hx hb dX7_bestZero_171 (by decide) (by split <;> omega) (fun c_25 => ?_) (fun c_25 => ?_)
                        · skip
                          have h8 : ¬ (((mat ((ups (ups (R 1) 8 g8) 8 (zfor (R 1) (k / R 1 13) (k % R 1 13)))) ((zfor (R 1) (k / R 1 13) (k % R 1 13)))).2.2.1) = mo ∧ ((mat ((ups (ups (R 1) 8 g8) 8 (zfor (R 1) (k / R 1 13) (k % R 1 13)))) ((zfor (R 1) (k / R 1 13) (k % R 1 13)))).2.2.2) = le ∧ (zfor (R 1) (k / R 1 13) (k % R 1 13)) < b) := by intro h; rw [if_pos h] at c_25; exact absurd c_25 (by decide)
                          refine k_iconst hx hb dX7_bestZero_178 ?_
                          refine lv_istore (lv' := [(9, .int (iI 0)), (7, .int (iI (zfor (R 1) (k / R 1 13) (k % R 1 13)))), (6, .int (iI (k / (R 1 13)))), (5, .int (iI k)), (4, .int (iI le)), (3, .int (iI mo)), (2, .int (iI b)), (1, .int (iI (R 1 8))), (0, .ref (a 0)), (8, .int (iI (if (((mat ((ups (ups (R 1) 8 g8) 8 (zfor (R 1) (k / R 1 13) (k % R 1 13)))) ((zfor (R 1) (k / R 1 13) (k % R 1 13)))).2.2.1) = mo ∧ ((mat ((ups (ups (R 1) 8 g8) 8 (zfor (R 1) (k / R 1 13) (k % R 1 13)))) ((zfor (R 1) (k / R 1 13) (k % R 1 13)))).2.2.2) = le ∧ (zfor (R 1) (k / R 1 13) (k % R 1 13)) < b) then (1 : Int) else 0)))]) hx hb dX7_bestZero_179 hl (by decide) rfl (fun ls hl => ?_)
                          exact join181  0 (by first | rw [if_pos (by omega)] | rw [if_neg (by omega)])  ls (lv_sub hl [1, 2, 3, 4, 5, 6, 7, 8, 0] rfl)
                        · skip
                          have h8 : (((mat ((ups (ups (R 1) 8 g8) 8 (zfor (R 1) (k / R 1 13) (k % R 1 13)))) ((zfor (R 1) (k / R 1 13) (k % R 1 13)))).2.2.1) = mo ∧ ((mat ((ups (ups (R 1) 8 g8) 8 (zfor (R 1) (k / R 1 13) (k % R 1 13)))) ((zfor (R 1) (k / R 1 13) (k % R 1 13)))).2.2.2) = le ∧ (zfor (R 1) (k / R 1 13) (k % R 1 13)) < b) := by by_cases h : (((mat ((ups (ups (R 1) 8 g8) 8 (zfor (R 1) (k / R 1 13) (k % R 1 13)))) ((zfor (R 1) (k / R 1 13) (k % R 1 13)))).2.2.1) = mo ∧ ((mat ((ups (ups (R 1) 8 g8) 8 (zfor (R 1) (k / R 1 13) (k % R 1 13)))) ((zfor (R 1) (k / R 1 13) (k % R 1 13)))).2.2.2) = le ∧ (zfor (R 1) (k / R 1 13) (k % R 1 13)) < b); exact h; rw [if_neg h] at c_25; exact absurd rfl c_25
                          refine k_iconst hx hb dX7_bestZero_174 ?_
                          refine lv_goto (tgt := 179) hx hb dX7_bestZero_175 (by decide) ?_
                          refine lv_istore (lv' := [(9, .int (iI 1)), (7, .int (iI (zfor (R 1) (k / R 1 13) (k % R 1 13)))), (6, .int (iI (k / (R 1 13)))), (5, .int (iI k)), (4, .int (iI le)), (3, .int (iI mo)), (2, .int (iI b)), (1, .int (iI (R 1 8))), (0, .ref (a 0)), (8, .int (iI (if (((mat ((ups (ups (R 1) 8 g8) 8 (zfor (R 1) (k / R 1 13) (k % R 1 13)))) ((zfor (R 1) (k / R 1 13) (k % R 1 13)))).2.2.1) = mo ∧ ((mat ((ups (ups (R 1) 8 g8) 8 (zfor (R 1) (k / R 1 13) (k % R 1 13)))) ((zfor (R 1) (k / R 1 13) (k % R 1 13)))).2.2.2) = le ∧ (zfor (R 1) (k / R 1 13) (k % R 1 13)) < b) then (1 : Int) else 0)))]) hx hb dX7_bestZero_179 hl (by decide) rfl (fun ls hl => ?_)
                          exact join181  1 (by first | rw [if_pos (by omega)] | rw [if_neg (by omega)])  ls (lv_sub hl [1, 2, 3, 4, 5, 6, 7, 8, 0] rfl)
              refine lv_aload_n hx hb dX7_bestZero_108 rfl (lv_at hl 7 rfl) ?_
              refine va_get (D := D) (ci := 6) (v := .int (iI ((mat ((ups (ups (R 1) 8 g8) 8 (zfor (R 1) (k / R 1 13) (k % R 1 13)))) ((zfor (R 1) (k / R 1 13) (k % R 1 13)))).2.2.1))) (C := RX7) (T := TX7) (N := 19) hx hb hts hinX7 hown hK hP 0 rfl rfl 13 (by decide) hm4 (fun _ h9 => h9) rfl dX7_bestZero_109 ?_
              refine lv_iload_n hx hb dX7_bestZero_112 rfl (lv_at hl 4 rfl) ?_
              refine k_icmp_ne (tgt := 135) hx hb dX7_bestZero_113 (by decide) (by omega) (by omega) (fun c_26 => ?_) (fun c_26 => ?_)
              · skip
                refine k_iconst hx hb dX7_bestZero_135 ?_
                refine lv_istore (lv' := [(8, .int (iI 0)), (7, .int (iI (zfor (R 1) (k / R 1 13) (k % R 1 13)))), (6, .int (iI (k / (R 1 13)))), (5, .int (iI k)), (4, .int (iI le)), (3, .int (iI mo)), (2, .int (iI b)), (1, .int (iI (R 1 8))), (0, .ref (a 0))]) hx hb dX7_bestZero_136 hl (by decide) rfl (fun ls hl => ?_)
                exact join138  0 (by first | rw [if_pos (by omega)] | rw [if_neg (by omega)])  ls (lv_sub hl [1, 2, 3, 4, 5, 6, 7, 8, 0] rfl)
              · skip
                refine lv_aload_n hx hb dX7_bestZero_116 rfl (lv_at hl 7 rfl) ?_
                refine va_get (D := D) (ci := 6) (v := .int (iI ((mat ((ups (ups (R 1) 8 g8) 8 (zfor (R 1) (k / R 1 13) (k % R 1 13)))) ((zfor (R 1) (k / R 1 13) (k % R 1 13)))).2.2.2))) (C := RX7) (T := TX7) (N := 19) hx hb hts hinX7 hown hK hP 0 rfl rfl 14 (by decide) hm3 (fun _ h9 => h9) rfl dX7_bestZero_117 ?_
                refine lv_iload hx hb dX7_bestZero_120 (lv_at hl 3 rfl) ?_
                refine k_icmp_ne (tgt := 135) hx hb dX7_bestZero_122 (by decide) (by omega) (by omega) (fun c_27 => ?_) (fun c_27 => ?_)
                · skip
                  refine k_iconst hx hb dX7_bestZero_135 ?_
                  refine lv_istore (lv' := [(8, .int (iI 0)), (7, .int (iI (zfor (R 1) (k / R 1 13) (k % R 1 13)))), (6, .int (iI (k / (R 1 13)))), (5, .int (iI k)), (4, .int (iI le)), (3, .int (iI mo)), (2, .int (iI b)), (1, .int (iI (R 1 8))), (0, .ref (a 0))]) hx hb dX7_bestZero_136 hl (by decide) rfl (fun ls hl => ?_)
                  exact join138  0 (by first | rw [if_pos (by omega)] | rw [if_neg (by omega)])  ls (lv_sub hl [1, 2, 3, 4, 5, 6, 7, 8, 0] rfl)
                · skip
                  refine lv_iload hx hb dX7_bestZero_125 (lv_at hl 0 rfl) ?_
                  refine lv_iload_n hx hb dX7_bestZero_127 rfl (lv_at hl 5 rfl) ?_
                  refine k_icmp_ge (tgt := 135) hx hb dX7_bestZero_128 (by decide) (by omega) (by omega) (fun c_28 => ?_) (fun c_28 => ?_)
                  · skip
                    refine k_iconst hx hb dX7_bestZero_135 ?_
                    refine lv_istore (lv' := [(8, .int (iI 0)), (7, .int (iI (zfor (R 1) (k / R 1 13) (k % R 1 13)))), (6, .int (iI (k / (R 1 13)))), (5, .int (iI k)), (4, .int (iI le)), (3, .int (iI mo)), (2, .int (iI b)), (1, .int (iI (R 1 8))), (0, .ref (a 0))]) hx hb dX7_bestZero_136 hl (by decide) rfl (fun ls hl => ?_)
                    exact join138  0 (by first | rw [if_pos (by omega)] | rw [if_neg (by omega)])  ls (lv_sub hl [1, 2, 3, 4, 5, 6, 7, 8, 0] rfl)
                  · skip
                    refine k_iconst hx hb dX7_bestZero_131 ?_
                    refine lv_goto (tgt := 136) hx hb dX7_bestZero_132 (by decide) ?_
                    refine lv_istore (lv' := [(8, .int (iI 1)), (7, .int (iI (zfor (R 1) (k / R 1 13) (k % R 1 13)))), (6, .int (iI (k / (R 1 13)))), (5, .int (iI k)), (4, .int (iI le)), (3, .int (iI mo)), (2, .int (iI b)), (1, .int (iI (R 1 8))), (0, .ref (a 0))]) hx hb dX7_bestZero_136 hl (by decide) rfl (fun ls hl => ?_)
                    exact join138  1 (by first | rw [if_pos (by omega)] | rw [if_neg (by omega)])  ls (lv_sub hl [1, 2, 3, 4, 5, 6, 7, 8, 0] rfl)
          · skip
            refine k_ldc (z := (-1000000000)) hx hb hown hm2 (by decide +kernel) dX7_bestZero_65 ?_
            refine lv_goto (tgt := 86) hx hb dX7_bestZero_67 (by decide) ?_
            refine lv_istore (lv' := [(7, .int (iI (-1000000000))), (6, .int (iI (k / (R 1 13)))), (5, .int (iI k)), (4, .int (iI le)), (3, .int (iI mo)), (2, .int (iI b)), (1, .int (iI (R 1 8))), (0, .ref (a 0))]) hx hb dX7_bestZero_86 hl (by decide) rfl (fun ls hl => ?_)
            refine lv_iload hx hb dX7_bestZero_88 (lv_at hl 0 rfl) ?_
            refine k_ldc (z := (-1000000000)) hx hb hown hm2 (by decide +kernel) dX7_bestZero_90 ?_
            refine k_icmp_eq (tgt := 223) hx hb dX7_bestZero_92 (by decide) (by omega) (by omega) (fun c_29 => ?_) (fun c_29 => ?_)
            · skip
              refine lv_iinc (v := iI (k + 1)) (lv' := [(5, .int (iI (k + 1))), (7, .int (iI (-1000000000))), (6, .int (iI (k / (R 1 13)))), (4, .int (iI le)), (3, .int (iI mo)), (2, .int (iI b)), (1, .int (iI (R 1 8))), (0, .ref (a 0))]) hx hb dX7_bestZero_223 hl (k := 2) rfl (iI_add _ _) (by decide) rfl (fun ls hl => ?_)
              refine lv_goto (tgt := 24) hx hb dX7_bestZero_226 (by decide) ?_
              exact ih24 (k + 1) b mo le g8 gm gn S4 S5 S6  (by omega) (by omega) (by first | contradiction | (rw [bzI_s (R 1) hi0, if_pos (by omega)]; exact hi2) | (rw [bzI_s (R 1) hi0, if_neg (by omega), hi2]; unfold bzN; dsimp only; rw [← hMM]; first | rw [if_pos h9] | rw [if_neg h9])) (by first | contradiction | omega) (by first | contradiction | omega) (by omega) H locs (hP) (k_addr hD rfl) hS ls (lv_sub hl [0, 3, 4, 5, 6, 7] rfl)
            · exfalso; omega
    exact loop24 ((R 1 13 * R 1 12 - 0 : Int) + 1).toNat 0 (-1000000000) 0 0 (R 1 8) (R 0 13) (R 0 14) (R 4) (R 5) (R 6)  (by omega) (Int.mul_nonneg (by omega) (by omega)) (rfl) (by have := hI.1.2.2.2.2.2.2.2.2.1; omega) (by first | contradiction | omega) (by omega) H locs (by rw [show (ups (ups (ups (R 0) 6 0) 13 (R 0 13)) 14 (R 0 14)) = (ups (R 0) 6 0) from (show ups (ups (ups (R 0) 6 0) 13 (ups (R 0) 6 0 13)) 14 (ups (R 0) 6 0 14) = ups (R 0) 6 0 by rw [ups_self, ups_self]), show (ups (R 1) 8 (R 1 8)) = (R 1) from ups_self _ _]; exact hP) (k_addr hD rfl) hS ls (lv_sub hl [0, 1, 2, 3, 4, 5] rfl)
  exact hbody s.heap [] hP hS ls hl
set_option maxHeartbeats 4000000 in
set_option maxRecDepth 100000 in
theorem c_X7_bestDrift (l : Launch) (D : va_G) (cy : Nat → ClassId) (sz : Nat) (a : Nat → Nat) (R : Nat → Int → Int) (q9 : Int) (hI : Inv (R 1)) (hrq9 : -2147483648 ≤ q9 ∧ q9 ≤ 2147483647) : Met l yX7_bestDrift wsX7_bestDrift { frames := 6, cells := 0, slots := 0, locals := 136 } (mPre (GG D cy) D (rfW cy a R) sz ([.ref (a 0), .int (iI q9)] : List Value)) (kQi D (rfW cy a R) sz (fun u9 : Nat → Int → Int => rfW cy a u9) (fun r9 u9 => ((¬ (0 ≤ q9 ∧ q9 ≤ 5)) ∧ r9 = 0 ∧ u9 = (upr R 0 (ups (R 0) 6 1))) ∨ ((0 ≤ q9 ∧ q9 ≤ 5) ∧ r9 = bdF (R 1) q9 ∧ u9 = (upr (upr R 0 (ups (R 0) 6 0)) 1 (R 1))))) 0 0 (va_A (rfW cy a R) sz) := by
  refine kM_start (cc := cX7_bestDrift) (maxL := 9) (ret := (some .int)) (by decide) rfl (Nat.le_of_ble_eq_true rfl) ?_
  intro p e s m below meth c hx hb hr hlocks hml hts hown hsz hA hG hP hD hS hin ls hl
  have hK := hG.1
  have hl : lv_has ls 9 [(0, .ref (a 0)), (1, .int (iI q9))] := hl
  have hinX7 : ∀ w ∈ u_ws RX7 TX7 19, w ∈ wsX7_bestDrift := by decide +kernel
  have hm0 := hts (.fieldLink RX7 31 "ArcPlateModel" "code" "I") (by decide +kernel)
  have hm1 := hts (.fieldLink RX7 7 "ArcPlateModel" "m" "[I") (by decide +kernel)
  have hm2 := hts (.constant RX7 109 (-1000000000)) (by decide +kernel)
  have h12 := inv_S12 hI
  have hd1 := hI.1.2.1
  have hd2 := hI.1.2.2.1
  have hbody : ∀ (H : Heap) (locs : List Loc) (hP : va_P D vwCl (rfW cy a R) H) (hS : va_S (va_A (rfW cy a R) sz) s.heap H locs) (ls : Array Slot) (hl : lv_has ls 9 [(0, .ref (a 0)), (1, .int (iI q9))]), W p l e { frames := 6, cells := 0, slots := 0, locals := 136 } s m ([.ref (a 0), .int (iI q9)] : List Value).toArray below meth c H locs 0 0 (MQ below (kQi D (rfW cy a R) sz (fun u9 : Nat → Int → Int => rfW cy a u9) (fun r9 u9 => ((¬ (0 ≤ q9 ∧ q9 ≤ 5)) ∧ r9 = 0 ∧ u9 = (upr R 0 (ups (R 0) 6 1))) ∨ ((0 ≤ q9 ∧ q9 ≤ 5) ∧ r9 = bdF (R 1) q9 ∧ u9 = (upr (upr R 0 (ups (R 0) 6 0)) 1 (R 1))))) ([.ref (a 0), .int (iI q9)] : List Value).toArray s 0 0 (va_A (rfW cy a R) sz)) (F0 m 0 ls []) := by
    intro H locs hP hS ls hl
    refine lv_aload_n hx hb dX7_bestDrift_0 rfl (lv_at hl 0 rfl) ?_
    refine lv_iload_n hx hb dX7_bestDrift_1 rfl (lv_at hl 1 rfl) ?_
    refine k_iconst hx hb dX7_bestDrift_2 ?_
    refine k_iconst hx hb dX7_bestDrift_3 ?_
    refine k_roS (As := [.int (iI q9), .int (iI 0), .int (iI 5)]) (rest := [.ref (a 0)]) ⟨hx, hb, hml, hown, hts⟩ (c_X7_in l D q9 0 5 (show -2147483648 ≤ q9 ∧ q9 ≤ 2147483647 by omega) (show -2147483648 ≤ 0 ∧ 0 ≤ 2147483647 by omega) (show -2147483648 ≤ 5 ∧ 5 ≤ 2147483647 by omega)) gX7_bestDrift_X7_in rfl ⟨rfl, rfl⟩ 3 rfl (by decide +kernel) ⟨Nat.le_of_ble_eq_true rfl, Nat.le_of_ble_eq_true rfl⟩ kGT_ok trivial (fun k q h => by simp at h) hl.1 rfl (Nat.le_of_ble_eq_true rfl) ⟨Nat.le_of_ble_eq_true rfl, Nat.le_of_ble_eq_true rfl⟩ dX7_bestDrift_4 (fun r_1 hr_1 => ?_)
    have hr_1 : ((0 ≤ q9 ∧ q9 ≤ 5) ∧ r_1 = 1) ∨ (¬ (0 ≤ q9 ∧ q9 ≤ 5) ∧ r_1 = 0) := hr_1
    rcases hr_1 with ⟨c_2, hr_1⟩ | ⟨c_2, hr_1⟩ <;> subst hr_1
    · skip
      refine k_if_eq (tgt := 14) hx hb dX7_bestDrift_7 (by decide) (by omega) (fun c_3 => ?_) (fun c_3 => ?_)
      · exfalso; omega
      · skip
        refine k_iconst hx hb dX7_bestDrift_10 ?_
        refine lv_goto (tgt := 15) hx hb dX7_bestDrift_11 (by decide) ?_
        refine va_put (D := D) (ci := 6) (v := .int (iI 0)) (ty := .int) (C := RX7) (T := TX7) (N := 19) hx hb hts hinX7 tyX7 tyX7_ok nmX7 hown hK hP hD hS 0 rfl rfl 6 (by decide) hm0 (fun _ h9 => h9) rfl (by decide +kernel) rfl rfl (Nat.le_of_ble_eq_true rfl) dX7_bestDrift_15 (fun H locs hP hD hS => ?_)
        have hP : va_P D vwCl (rfW cy a (upr R 0 (ups (R 0) 6 0))) H := hP
        have hD : va_D (va_A (rfW cy a R) sz) (rfW cy a (upr R 0 (ups (R 0) 6 0))) := hD
        refine lv_aload_n hx hb dX7_bestDrift_18 rfl (lv_at hl 0 rfl) ?_
        refine va_get (D := D) (ci := 6) (v := .int (iI 0)) (C := RX7) (T := TX7) (N := 19) hx hb hts hinX7 hown hK hP 0 rfl rfl 6 (by decide) hm0 (fun _ h9 => h9) rfl dX7_bestDrift_19 ?_
        refine k_if_eq (tgt := 27) hx hb dX7_bestDrift_22 (by decide) (by omega) (fun c_4 => ?_) (fun c_4 => ?_)
        · skip
          refine lv_aload_n hx hb dX7_bestDrift_27 rfl (lv_at hl 0 rfl) ?_
          refine va_get (D := D) (ci := 6) (v := .ref (a 1)) (C := RX7) (T := TX7) (N := 19) hx hb hts hinX7 hown hK hP 0 rfl rfl 0 (by decide) hm1 (fun _ h9 => h9) rfl dX7_bestDrift_28 ?_
          refine k_iconst hx hb dX7_bestDrift_31 ?_
          refine k_iald hx hb hK hP 1 0 (f := R 1) rfl rfl (i := 1) (by omega) dX7_bestDrift_32 ?_
          refine lv_istore_n (lv' := [(2, .int (iI (R 1 1))), (0, .ref (a 0)), (1, .int (iI q9))]) hx hb dX7_bestDrift_33 rfl hl (by decide) rfl (fun ls hl => ?_)
          refine lv_aload_n hx hb dX7_bestDrift_34 rfl (lv_at hl 1 rfl) ?_
          refine va_get (D := D) (ci := 6) (v := .ref (a 1)) (C := RX7) (T := TX7) (N := 19) hx hb hts hinX7 hown hK hP 0 rfl rfl 0 (by decide) hm1 (fun _ h9 => h9) rfl dX7_bestDrift_35 ?_
          refine k_iconst hx hb dX7_bestDrift_38 ?_
          refine k_iald hx hb hK hP 1 0 (f := R 1) rfl rfl (i := 2) (by omega) dX7_bestDrift_39 ?_
          refine lv_istore_n (lv' := [(3, .int (iI (R 1 2))), (2, .int (iI (R 1 1))), (0, .ref (a 0)), (1, .int (iI q9))]) hx hb dX7_bestDrift_40 rfl hl (by decide) rfl (fun ls hl => ?_)
          refine k_ldc (z := (-1000000000)) hx hb hown hm2 (by decide +kernel) dX7_bestDrift_41 ?_
          refine lv_istore (lv' := [(4, .int (iI (-1000000000))), (3, .int (iI (R 1 2))), (2, .int (iI (R 1 1))), (0, .ref (a 0)), (1, .int (iI q9))]) hx hb dX7_bestDrift_43 hl (by decide) rfl (fun ls hl => ?_)
          refine k_iconst hx hb dX7_bestDrift_45 ?_
          refine lv_istore (lv' := [(5, .int (iI 0)), (4, .int (iI (-1000000000))), (3, .int (iI (R 1 2))), (2, .int (iI (R 1 1))), (0, .ref (a 0)), (1, .int (iI q9))]) hx hb dX7_bestDrift_46 hl (by decide) rfl (fun ls hl => ?_)
          refine k_iconst hx hb dX7_bestDrift_48 ?_
          refine lv_istore (lv' := [(6, .int (iI 0)), (5, .int (iI 0)), (4, .int (iI (-1000000000))), (3, .int (iI (R 1 2))), (2, .int (iI (R 1 1))), (0, .ref (a 0)), (1, .int (iI q9))]) hx hb dX7_bestDrift_49 hl (by decide) rfl (fun ls hl => ?_)
          have loop51 : ∀ (n_5 : Nat) (k : Int) (b : Int) (le : Int) (gu : Int) (gv : Int) (hi0 : 0 ≤ k) (hi1 : k ≤ ((2 * q9) + 1) * ((2 * q9) + 1)) (hi2 : bdI (R 1) q9 k.toNat = (b, le)) (hi3 : (b = -1000000000 ∨ (0 ≤ b ∧ b ≤ 200200)) ∧ (0 ≤ le ∧ le ≤ 118800)) (hn : ((2 * q9) + 1) * ((2 * q9) + 1) - k < (n_5 : Int)) (H : Heap) (locs : List Loc) (hP : va_P D vwCl (rfW cy a (upr (upr R 0 (ups (R 0) 6 0)) 1 (tDr (R 1) gu gv))) H) (hD : va_D (va_A (rfW cy a R) sz) (rfW cy a (upr (upr R 0 (ups (R 0) 6 0)) 1 (tDr (R 1) gu gv)))) (hS : va_S (va_A (rfW cy a R) sz) s.heap H locs) (ls : Array Slot) (hl : lv_has ls 9 [(6, .int (iI k)), (5, .int (iI le)), (4, .int (iI b)), (3, .int (iI (R 1 2))), (2, .int (iI (R 1 1))), (0, .ref (a 0)), (1, .int (iI q9))]), W p l e { frames := 6, cells := 0, slots := 0, locals := 136 } s m ([.ref (a 0), .int (iI q9)] : List Value).toArray below meth c H locs 0 0 (MQ below (kQi D (rfW cy a R) sz (fun u9 : Nat → Int → Int => rfW cy a u9) (fun r9 u9 => ((¬ (0 ≤ q9 ∧ q9 ≤ 5)) ∧ r9 = 0 ∧ u9 = (upr R 0 (ups (R 0) 6 1))) ∨ ((0 ≤ q9 ∧ q9 ≤ 5) ∧ r9 = bdF (R 1) q9 ∧ u9 = (upr (upr R 0 (ups (R 0) 6 0)) 1 (R 1))))) ([.ref (a 0), .int (iI q9)] : List Value).toArray s 0 0 (va_A (rfW cy a R) sz)) (F0 m 51 ls []) := by
            intro n_5
            induction n_5 with
            | zero => intro k b le gu gv hi0 hi1 hi2 hi3 hn H locs hP hD hS ls hl; exfalso; omega
            | succ n_5 ih51 =>
              intro k b le gu gv hi0 hi1 hi2 hi3 hn H locs hP hD hS ls hl
              have hkk := mul_bd2 (u := ((2 * q9) + 1)) (f := ((2 * q9) + 1)) (a := 11) (b := 11) (by omega) (by omega)
              refine lv_iload hx hb dX7_bestDrift_51 (lv_at hl 0 rfl) ?_
              refine k_iconst hx hb dX7_bestDrift_53 ?_
              refine lv_iload_n hx hb dX7_bestDrift_54 rfl (lv_at hl 6 rfl) ?_
              refine k_imul hx hb dX7_bestDrift_55 ?_
              refine k_iconst hx hb dX7_bestDrift_56 ?_
              refine k_iadd hx hb dX7_bestDrift_57 ?_
              refine k_iconst hx hb dX7_bestDrift_58 ?_
              refine lv_iload_n hx hb dX7_bestDrift_59 rfl (lv_at hl 6 rfl) ?_
              refine k_imul hx hb dX7_bestDrift_60 ?_
              refine k_iconst hx hb dX7_bestDrift_61 ?_
              refine k_iadd hx hb dX7_bestDrift_62 ?_
              refine k_imul hx hb dX7_bestDrift_63 ?_
              refine k_icmp_ge (tgt := 209) hx hb dX7_bestDrift_64 (by decide) (by omega) (by omega) (fun c_6 => ?_) (fun c_6 => ?_)
              · skip
                refine lv_aload_n hx hb dX7_bestDrift_209 rfl (lv_at hl 5 rfl) ?_
                refine va_get (D := D) (ci := 6) (v := .ref (a 1)) (C := RX7) (T := TX7) (N := 19) hx hb hts hinX7 hown hK hP 0 rfl rfl 0 (by decide) hm1 (fun _ h9 => h9) rfl dX7_bestDrift_210 ?_
                refine k_iconst hx hb dX7_bestDrift_213 ?_
                refine lv_iload_n hx hb dX7_bestDrift_214 rfl (lv_at hl 4 rfl) ?_
                refine k_iast hx hb hK hP hD hS 1 0 (f := tDr (R 1) gu gv) rfl rfl (i := 1) (x := R 1 1) (by omega) dX7_bestDrift_215 (fun H locs hP hD hS => ?_)
                have hP : va_P D vwCl (rfW cy a (upr (upr R 0 (ups (R 0) 6 0)) 1 (ups (tDr (R 1) gu gv) 1 (R 1 1)))) H := hP
                have hD : va_D (va_A (rfW cy a R) sz) (rfW cy a (upr (upr R 0 (ups (R 0) 6 0)) 1 (ups (tDr (R 1) gu gv) 1 (R 1 1)))) := hD
                refine lv_aload_n hx hb dX7_bestDrift_216 rfl (lv_at hl 5 rfl) ?_
                refine va_get (D := D) (ci := 6) (v := .ref (a 1)) (C := RX7) (T := TX7) (N := 19) hx hb hts hinX7 hown hK hP 0 rfl rfl 0 (by decide) hm1 (fun _ h9 => h9) rfl dX7_bestDrift_217 ?_
                refine k_iconst hx hb dX7_bestDrift_220 ?_
                refine lv_iload_n hx hb dX7_bestDrift_221 rfl (lv_at hl 3 rfl) ?_
                refine k_iast hx hb hK hP hD hS 1 0 (f := ups (tDr (R 1) gu gv) 1 (R 1 1)) rfl rfl (i := 2) (x := R 1 2) (by omega) dX7_bestDrift_222 (fun H locs hP hD hS => ?_)
                have hP : va_P D vwCl (rfW cy a (upr (upr R 0 (ups (R 0) 6 0)) 1 (ups (ups (tDr (R 1) gu gv) 1 (R 1 1)) 2 (R 1 2)))) H := hP
                have hD : va_D (va_A (rfW cy a R) sz) (rfW cy a (upr (upr R 0 (ups (R 0) 6 0)) 1 (ups (ups (tDr (R 1) gu gv) 1 (R 1 1)) 2 (R 1 2)))) := hD
                refine lv_iload hx hb dX7_bestDrift_223 (lv_at hl 2 rfl) ?_
                exact W.iret (v := iI b) hx hb hr (fun t9 ht _ => ⟨⟨iI b, (upr (upr R 0 (ups (R 0) 6 0)) 1 (ups (ups (tDr (R 1) gu gv) 1 (R 1 1)) 2 (R 1 2))), rfl, ⟨b, rfl, (by first | exact Or.inl ⟨(by omega), (by first | rfl | omega), (by rw [show (ups (ups (tDr (R 1) gu gv) 1 (R 1 1)) 2 (R 1 2)) = (R 1) from by rw [tDr_t, tDr_id]]; exact upr_back)⟩ | exact Or.inr (⟨(by omega), (by show b = (bdI (R 1) q9 (((2 * q9) + 1) * ((2 * q9) + 1)).toNat).1; rw [show ((2 * q9) + 1) * ((2 * q9) + 1) = k by omega, hi2]), (by rw [show (ups (ups (tDr (R 1) gu gv) 1 (R 1 1)) 2 (R 1 2)) = (R 1) from by rw [tDr_t, tDr_id]])⟩) : ((¬ (0 ≤ q9 ∧ q9 ≤ 5)) ∧ (b : Int) = 0 ∧ (upr (upr R 0 (ups (R 0) 6 0)) 1 (ups (ups (tDr (R 1) gu gv) 1 (R 1 1)) 2 (R 1 2))) = (upr R 0 (ups (R 0) 6 1))) ∨ ((0 ≤ q9 ∧ q9 ≤ 5) ∧ (b : Int) = bdF (R 1) q9 ∧ (upr (upr R 0 (ups (R 0) 6 0)) 1 (ups (ups (tDr (R 1) gu gv) 1 (R 1 1)) 2 (R 1 2))) = (upr (upr R 0 (ups (R 0) 6 0)) 1 (R 1))))⟩, by rw [ht]; exact hP, hD⟩, hS.F ht⟩) hS.2.2 dX7_bestDrift_225 hlocks
              · skip
                obtain ⟨hwp, hkd, hkm⟩ := bz_pos hi0 (by omega) c_6
                refine lv_aload_n hx hb dX7_bestDrift_67 rfl (lv_at hl 5 rfl) ?_
                refine va_get (D := D) (ci := 6) (v := .ref (a 1)) (C := RX7) (T := TX7) (N := 19) hx hb hts hinX7 hown hK hP 0 rfl rfl 0 (by decide) hm1 (fun _ h9 => h9) rfl dX7_bestDrift_68 ?_
                refine k_iconst hx hb dX7_bestDrift_71 ?_
                refine lv_iload_n hx hb dX7_bestDrift_72 rfl (lv_at hl 4 rfl) ?_
                refine lv_iload_n hx hb dX7_bestDrift_73 rfl (lv_at hl 6 rfl) ?_
                refine k_isub hx hb dX7_bestDrift_74 ?_
                refine lv_iload hx hb dX7_bestDrift_75 (lv_at hl 0 rfl) ?_
                refine k_iconst hx hb dX7_bestDrift_77 ?_
                refine lv_iload_n hx hb dX7_bestDrift_78 rfl (lv_at hl 6 rfl) ?_
                refine k_imul hx hb dX7_bestDrift_79 ?_
                refine k_iconst hx hb dX7_bestDrift_80 ?_
                refine k_iadd hx hb dX7_bestDrift_81 ?_
                refine k_idiv hx hb dX7_bestDrift_82 (by omega) (by omega) ?_
                refine k_iadd hx hb dX7_bestDrift_83 ?_
                refine k_iast hx hb hK hP hD hS 1 0 (f := tDr (R 1) gu gv) rfl rfl (i := 1) (x := ((R 1 1) - q9) + (k / ((2 * q9) + 1))) (by omega) dX7_bestDrift_84 (fun H locs hP hD hS => ?_)
                have hP : va_P D vwCl (rfW cy a (upr (upr R 0 (ups (R 0) 6 0)) 1 (ups (tDr (R 1) gu gv) 1 (((R 1 1) - q9) + (k / ((2 * q9) + 1)))))) H := hP
                have hD : va_D (va_A (rfW cy a R) sz) (rfW cy a (upr (upr R 0 (ups (R 0) 6 0)) 1 (ups (tDr (R 1) gu gv) 1 (((R 1 1) - q9) + (k / ((2 * q9) + 1)))))) := hD
                refine lv_aload_n hx hb dX7_bestDrift_85 rfl (lv_at hl 5 rfl) ?_
                refine va_get (D := D) (ci := 6) (v := .ref (a 1)) (C := RX7) (T := TX7) (N := 19) hx hb hts hinX7 hown hK hP 0 rfl rfl 0 (by decide) hm1 (fun _ h9 => h9) rfl dX7_bestDrift_86 ?_
                refine k_iconst hx hb dX7_bestDrift_89 ?_
                refine lv_iload_n hx hb dX7_bestDrift_90 rfl (lv_at hl 3 rfl) ?_
                refine lv_iload_n hx hb dX7_bestDrift_91 rfl (lv_at hl 6 rfl) ?_
                refine k_isub hx hb dX7_bestDrift_92 ?_
                refine lv_iload hx hb dX7_bestDrift_93 (lv_at hl 0 rfl) ?_
                refine k_iconst hx hb dX7_bestDrift_95 ?_
                refine lv_iload_n hx hb dX7_bestDrift_96 rfl (lv_at hl 6 rfl) ?_
                refine k_imul hx hb dX7_bestDrift_97 ?_
                refine k_iconst hx hb dX7_bestDrift_98 ?_
                refine k_iadd hx hb dX7_bestDrift_99 ?_
                refine k_irem hx hb dX7_bestDrift_100 (by omega) (by omega) ?_
                refine k_iadd hx hb dX7_bestDrift_101 ?_
                refine k_iast hx hb hK hP hD hS 1 0 (f := ups (tDr (R 1) gu gv) 1 (((R 1 1) - q9) + (k / ((2 * q9) + 1)))) rfl rfl (i := 2) (x := ((R 1 2) - q9) + (k % ((2 * q9) + 1))) (by omega) dX7_bestDrift_102 (fun H locs hP hD hS => ?_)
                have hP : va_P D vwCl (rfW cy a (upr (upr R 0 (ups (R 0) 6 0)) 1 (ups (ups (tDr (R 1) gu gv) 1 (((R 1 1) - q9) + (k / ((2 * q9) + 1)))) 2 (((R 1 2) - q9) + (k % ((2 * q9) + 1)))))) H := hP
                have hD : va_D (va_A (rfW cy a R) sz) (rfW cy a (upr (upr R 0 (ups (R 0) 6 0)) 1 (ups (ups (tDr (R 1) gu gv) 1 (((R 1 1) - q9) + (k / ((2 * q9) + 1)))) 2 (((R 1 2) - q9) + (k % ((2 * q9) + 1)))))) := hD
                refine lv_aload_n hx hb dX7_bestDrift_103 rfl (lv_at hl 5 rfl) ?_
                refine va_get (D := D) (ci := 6) (v := .ref (a 1)) (C := RX7) (T := TX7) (N := 19) hx hb hts hinX7 hown hK hP 0 rfl rfl 0 (by decide) hm1 (fun _ h9 => h9) rfl dX7_bestDrift_104 ?_
                refine k_iconst hx hb dX7_bestDrift_107 ?_
                refine k_iald hx hb hK hP 1 0 (f := ups (ups (tDr (R 1) gu gv) 1 (((R 1 1) - q9) + (k / ((2 * q9) + 1)))) 2 (((R 1 2) - q9) + (k % ((2 * q9) + 1)))) rfl rfl (i := 1) (by omega) dX7_bestDrift_108 ?_
                refine k_eqI (v := (ups (ups (tDr (R 1) gu gv) 1 (((R 1 1) - q9) + (k / ((2 * q9) + 1)))) 2 (((R 1 2) - q9) + (k % ((2 * q9) + 1)))) 1) (w := ((R 1 1) - q9) + (k / ((2 * q9) + 1))) rfl ?_
                refine k_roS (As := [.int (iI (((R 1 1) - q9) + (k / ((2 * q9) + 1))))]) (rest := []) ⟨hx, hb, hml, hown, hts⟩ (c_X7_isDrift l D (((R 1 1) - q9) + (k / ((2 * q9) + 1))) (show -2147483648 ≤ (((R 1 1) - q9) + (k / ((2 * q9) + 1))) ∧ (((R 1 1) - q9) + (k / ((2 * q9) + 1))) ≤ 2147483647 by omega)) gX7_bestDrift_X7_isDrift rfl ⟨rfl, rfl⟩ 1 rfl (by decide +kernel) ⟨Nat.le_of_ble_eq_true rfl, Nat.le_of_ble_eq_true rfl⟩ kGT_ok trivial (fun k q h => by simp at h) hl.1 rfl (Nat.le_of_ble_eq_true rfl) ⟨Nat.le_of_ble_eq_true rfl, Nat.le_of_ble_eq_true rfl⟩ dX7_bestDrift_109 (fun r_7 hr_7 => ?_)
                have hr_7 : ((-100 ≤ (((R 1 1) - q9) + (k / ((2 * q9) + 1))) ∧ (((R 1 1) - q9) + (k / ((2 * q9) + 1))) ≤ 100) ∧ r_7 = 1) ∨ (¬ (-100 ≤ (((R 1 1) - q9) + (k / ((2 * q9) + 1))) ∧ (((R 1 1) - q9) + (k / ((2 * q9) + 1))) ≤ 100) ∧ r_7 = 0) := hr_7
                rcases hr_7 with ⟨c_8, hr_7⟩ | ⟨c_8, hr_7⟩ <;> subst hr_7
                · skip
                  refine k_if_eq (tgt := 203) hx hb dX7_bestDrift_112 (by decide) (by omega) (fun c_9 => ?_) (fun c_9 => ?_)
                  · exfalso; omega
                  · skip
                    refine lv_aload_n hx hb dX7_bestDrift_115 rfl (lv_at hl 5 rfl) ?_
                    refine va_get (D := D) (ci := 6) (v := .ref (a 1)) (C := RX7) (T := TX7) (N := 19) hx hb hts hinX7 hown hK hP 0 rfl rfl 0 (by decide) hm1 (fun _ h9 => h9) rfl dX7_bestDrift_116 ?_
                    refine k_iconst hx hb dX7_bestDrift_119 ?_
                    refine k_iald hx hb hK hP 1 0 (f := ups (ups (tDr (R 1) gu gv) 1 (((R 1 1) - q9) + (k / ((2 * q9) + 1)))) 2 (((R 1 2) - q9) + (k % ((2 * q9) + 1)))) rfl rfl (i := 2) (by omega) dX7_bestDrift_120 ?_
                    refine k_eqI (v := (ups (ups (tDr (R 1) gu gv) 1 (((R 1 1) - q9) + (k / ((2 * q9) + 1)))) 2 (((R 1 2) - q9) + (k % ((2 * q9) + 1)))) 2) (w := ((R 1 2) - q9) + (k % ((2 * q9) + 1))) rfl ?_
                    refine k_roS (As := [.int (iI (((R 1 2) - q9) + (k % ((2 * q9) + 1))))]) (rest := []) ⟨hx, hb, hml, hown, hts⟩ (c_X7_isDrift l D (((R 1 2) - q9) + (k % ((2 * q9) + 1))) (show -2147483648 ≤ (((R 1 2) - q9) + (k % ((2 * q9) + 1))) ∧ (((R 1 2) - q9) + (k % ((2 * q9) + 1))) ≤ 2147483647 by omega)) gX7_bestDrift_X7_isDrift rfl ⟨rfl, rfl⟩ 1 rfl (by decide +kernel) ⟨Nat.le_of_ble_eq_true rfl, Nat.le_of_ble_eq_true rfl⟩ kGT_ok trivial (fun k q h => by simp at h) hl.1 rfl (Nat.le_of_ble_eq_true rfl) ⟨Nat.le_of_ble_eq_true rfl, Nat.le_of_ble_eq_true rfl⟩ dX7_bestDrift_121 (fun r_10 hr_10 => ?_)
                    have hr_10 : ((-100 ≤ (((R 1 2) - q9) + (k % ((2 * q9) + 1))) ∧ (((R 1 2) - q9) + (k % ((2 * q9) + 1))) ≤ 100) ∧ r_10 = 1) ∨ (¬ (-100 ≤ (((R 1 2) - q9) + (k % ((2 * q9) + 1))) ∧ (((R 1 2) - q9) + (k % ((2 * q9) + 1))) ≤ 100) ∧ r_10 = 0) := hr_10
                    rcases hr_10 with ⟨c_11, hr_10⟩ | ⟨c_11, hr_10⟩ <;> subst hr_10
                    · skip
                      refine k_if_eq (tgt := 203) hx hb dX7_bestDrift_124 (by decide) (by omega) (fun c_12 => ?_) (fun c_12 => ?_)
                      · exfalso; omega
                      · skip
                        refine lv_aload_n hx hb dX7_bestDrift_127 rfl (lv_at hl 5 rfl) ?_
                        refine k_roV (As := []) (rest := []) ⟨hx, hb, hml, hown, hts⟩ (c_X7_plateCost l D cy a (upr (upr R 0 (ups (R 0) 6 0)) 1 (ups (ups (tDr (R 1) gu gv) 1 (((R 1 1) - q9) + (k / ((2 * q9) + 1)))) 2 (((R 1 2) - q9) + (k % ((2 * q9) + 1))))) (show Inv ((ups (ups (tDr (R 1) gu gv) 1 (((R 1 1) - q9) + (k / ((2 * q9) + 1)))) 2 (((R 1 2) - q9) + (k % ((2 * q9) + 1))))) from by rw [tDr_t]; exact inv_tDr hI (by omega) (by omega))) gX7_bestDrift_X7_plateCost rfl ⟨rfl, rfl⟩ 0 rfl (by decide +kernel) ⟨Nat.le_of_ble_eq_true rfl, Nat.le_of_ble_eq_true rfl⟩ (GG_ok D cy) ((GG_ok D cy).2.2.2 _ _ _ _ (fun _ h => h.elim) ((GG_ok D cy).1 _ _ _ _ hS.2.1 hG)) hP (va_recv hK hP (ci := 6) (q0 := 0) rfl rfl) hl.1 rfl (Nat.le_of_ble_eq_true rfl) ⟨Nat.le_of_ble_eq_true rfl, Nat.le_of_ble_eq_true rfl⟩ dX7_bestDrift_128 (fun r_13 hr_13 => ?_)
                        have hr_13 : r_13 = pcost ((ups (ups (tDr (R 1) gu gv) 1 (((R 1 1) - q9) + (k / ((2 * q9) + 1)))) 2 (((R 1 2) - q9) + (k % ((2 * q9) + 1))))) := hr_13
                        subst hr_13
                        refine k_eqI (v := pcost ((ups (ups (tDr (R 1) gu gv) 1 (((R 1 1) - q9) + (k / ((2 * q9) + 1)))) 2 (((R 1 2) - q9) + (k % ((2 * q9) + 1)))))) (w := pcost (tDr (R 1) (bdU (R 1) q9 k) (bdV (R 1) q9 k))) (by rw [tDr_t]; rfl) ?_
                        have hpb := inv_pcost (inv_tDr hI (u := (bdU (R 1) q9 k)) (v := (bdV (R 1) q9 k)) (by unfold bdU; omega) (by unfold bdV; omega))
                        refine lv_istore (lv' := [(7, .int (iI (pcost (tDr (R 1) (bdU (R 1) q9 k) (bdV (R 1) q9 k))))), (6, .int (iI k)), (5, .int (iI le)), (4, .int (iI b)), (3, .int (iI (R 1 2))), (2, .int (iI (R 1 1))), (0, .ref (a 0)), (1, .int (iI q9))]) hx hb dX7_bestDrift_131 hl (by decide) rfl (fun ls hl => ?_)
                        have join154 : ∀ (y8 : Int) (jey8 : y8 = (if (b = -1000000000 ∨ (pcost (tDr (R 1) (bdU (R 1) q9 k) (bdV (R 1) q9 k))) < le) then (1 : Int) else 0)) (ls : Array Slot) (hl : lv_has ls 9 [(7, .int (iI (pcost (tDr (R 1) (bdU (R 1) q9 k) (bdV (R 1) q9 k))))), (6, .int (iI k)), (5, .int (iI le)), (4, .int (iI b)), (3, .int (iI (R 1 2))), (2, .int (iI (R 1 1))), (0, .ref (a 0)), (1, .int (iI q9)), (8, .int (iI y8))]), W p l e { frames := 6, cells := 0, slots := 0, locals := 136 } s m ([.ref (a 0), .int (iI q9)] : List Value).toArray below meth c H locs 0 0 (MQ below (kQi D (rfW cy a R) sz (fun u9 : Nat → Int → Int => rfW cy a u9) (fun r9 u9 => ((¬ (0 ≤ q9 ∧ q9 ≤ 5)) ∧ r9 = 0 ∧ u9 = (upr R 0 (ups (R 0) 6 1))) ∨ ((0 ≤ q9 ∧ q9 ≤ 5) ∧ r9 = bdF (R 1) q9 ∧ u9 = (upr (upr R 0 (ups (R 0) 6 0)) 1 (R 1))))) ([.ref (a 0), .int (iI q9)] : List Value).toArray s 0 0 (va_A (rfW cy a R) sz)) (F0 m 154 ls []) := by
                          intro y8 jey8 ls hl
                          subst jey8
                          refine lv_iload hx hb dX7_bestDrift_154 (lv_at hl 8 rfl) ?_
                          refine k_if_eq (tgt := 185) hx hb dX7_bestDrift_156 (by decide) (by split <;> omega) (fun c_14 => ?_) (fun c_14 => ?_)
                          · skip
                            have h9 : ¬ (b = -1000000000 ∨ (pcost (tDr (R 1) (bdU (R 1) q9 k) (bdV (R 1) q9 k))) < le) := by intro h; rw [if_pos h] at c_14; exact absurd c_14 (by decide)
                            refine lv_iload hx hb dX7_bestDrift_185 (lv_at hl 3 rfl) ?_
                            refine lv_istore (lv' := [(4, .int (iI b)), (7, .int (iI (pcost (tDr (R 1) (bdU (R 1) q9 k) (bdV (R 1) q9 k))))), (6, .int (iI k)), (5, .int (iI le)), (3, .int (iI (R 1 2))), (2, .int (iI (R 1 1))), (0, .ref (a 0)), (1, .int (iI q9)), (8, .int (iI (if (b = -1000000000 ∨ (pcost (tDr (R 1) (bdU (R 1) q9 k) (bdV (R 1) q9 k))) < le) then (1 : Int) else 0)))]) hx hb dX7_bestDrift_187 hl (by decide) rfl (fun ls hl => ?_)
                            refine lv_iload hx hb dX7_bestDrift_189 (lv_at hl 8 rfl) ?_
                            refine k_if_eq (tgt := 199) hx hb dX7_bestDrift_191 (by decide) (by split <;> omega) (fun c_15 => ?_) (fun c_15 => ?_)
                            · skip
                              refine lv_iload hx hb dX7_bestDrift_199 (lv_at hl 3 rfl) ?_
                              refine lv_istore (lv' := [(5, .int (iI le)), (4, .int (iI b)), (7, .int (iI (pcost (tDr (R 1) (bdU (R 1) q9 k) (bdV (R 1) q9 k))))), (6, .int (iI k)), (3, .int (iI (R 1 2))), (2, .int (iI (R 1 1))), (0, .ref (a 0)), (1, .int (iI q9)), (8, .int (iI (if (b = -1000000000 ∨ (pcost (tDr (R 1) (bdU (R 1) q9 k) (bdV (R 1) q9 k))) < le) then (1 : Int) else 0)))]) hx hb dX7_bestDrift_201 hl (by decide) rfl (fun ls hl => ?_)
                              refine lv_iinc (v := iI (k + 1)) (lv' := [(6, .int (iI (k + 1))), (5, .int (iI le)), (4, .int (iI b)), (7, .int (iI (pcost (tDr (R 1) (bdU (R 1) q9 k) (bdV (R 1) q9 k))))), (3, .int (iI (R 1 2))), (2, .int (iI (R 1 1))), (0, .ref (a 0)), (1, .int (iI q9)), (8, .int (iI (if (b = -1000000000 ∨ (pcost (tDr (R 1) (bdU (R 1) q9 k) (bdV (R 1) q9 k))) < le) then (1 : Int) else 0)))]) hx hb dX7_bestDrift_203 hl (k := 3) rfl (iI_add _ _) (by decide) rfl (fun ls hl => ?_)
                              refine lv_goto (tgt := 51) hx hb dX7_bestDrift_206 (by decide) ?_
                              exact ih51 (k + 1) b le (((R 1 1) - q9) + (k / ((2 * q9) + 1))) (((R 1 2) - q9) + (k % ((2 * q9) + 1)))  (by omega) (by omega) (by first | contradiction | exact bdI_y hi0 hi2 ⟨by unfold bdU; omega, by unfold bdV; omega⟩ h9 | exact bdI_n hi0 hi2 (fun h => by have g1 := h.1.1; have g2 := h.1.2; have g3 := h.2; unfold bdU at g1; unfold bdV at g2; omega) | exact bdI_n hi0 hi2 (fun h => h9 h.2)) (by first | contradiction | omega) (by omega) H locs (by rw [show (tDr (R 1) (((R 1 1) - q9) + (k / ((2 * q9) + 1))) (((R 1 2) - q9) + (k % ((2 * q9) + 1)))) = (ups (ups (tDr (R 1) gu gv) 1 (((R 1 1) - q9) + (k / ((2 * q9) + 1)))) 2 (((R 1 2) - q9) + (k % ((2 * q9) + 1)))) from (tDr_t _ _ _ _ _).symm]; exact hP) (k_addr hD rfl) hS ls (lv_sub hl [0, 1, 2, 4, 5, 6, 7] rfl)
                            · skip
                              refine lv_iload hx hb dX7_bestDrift_194 (lv_at hl 1 rfl) ?_
                              refine lv_goto (tgt := 201) hx hb dX7_bestDrift_196 (by decide) ?_
                              refine lv_istore (lv' := [(5, .int (iI (pcost (tDr (R 1) (bdU (R 1) q9 k) (bdV (R 1) q9 k))))), (4, .int (iI b)), (7, .int (iI (pcost (tDr (R 1) (bdU (R 1) q9 k) (bdV (R 1) q9 k))))), (6, .int (iI k)), (3, .int (iI (R 1 2))), (2, .int (iI (R 1 1))), (0, .ref (a 0)), (1, .int (iI q9)), (8, .int (iI (if (b = -1000000000 ∨ (pcost (tDr (R 1) (bdU (R 1) q9 k) (bdV (R 1) q9 k))) < le) then (1 : Int) else 0)))]) hx hb dX7_bestDrift_201 hl (by decide) rfl (fun ls hl => ?_)
                              refine lv_iinc (v := iI (k + 1)) (lv' := [(6, .int (iI (k + 1))), (5, .int (iI (pcost (tDr (R 1) (bdU (R 1) q9 k) (bdV (R 1) q9 k))))), (4, .int (iI b)), (7, .int (iI (pcost (tDr (R 1) (bdU (R 1) q9 k) (bdV (R 1) q9 k))))), (3, .int (iI (R 1 2))), (2, .int (iI (R 1 1))), (0, .ref (a 0)), (1, .int (iI q9)), (8, .int (iI (if (b = -1000000000 ∨ (pcost (tDr (R 1) (bdU (R 1) q9 k) (bdV (R 1) q9 k))) < le) then (1 : Int) else 0)))]) hx hb dX7_bestDrift_203 hl (k := 3) rfl (iI_add _ _) (by decide) rfl (fun ls hl => ?_)
                              refine lv_goto (tgt := 51) hx hb dX7_bestDrift_206 (by decide) ?_
                              exact ih51 (k + 1) b (pcost (tDr (R 1) (bdU (R 1) q9 k) (bdV (R 1) q9 k))) (((R 1 1) - q9) + (k / ((2 * q9) + 1))) (((R 1 2) - q9) + (k % ((2 * q9) + 1)))  (by omega) (by omega) (by first | contradiction | exact bdI_y hi0 hi2 ⟨by unfold bdU; omega, by unfold bdV; omega⟩ h9 | exact bdI_n hi0 hi2 (fun h => by have g1 := h.1.1; have g2 := h.1.2; have g3 := h.2; unfold bdU at g1; unfold bdV at g2; omega) | exact bdI_n hi0 hi2 (fun h => h9 h.2)) (by first | contradiction | omega) (by omega) H locs (by rw [show (tDr (R 1) (((R 1 1) - q9) + (k / ((2 * q9) + 1))) (((R 1 2) - q9) + (k % ((2 * q9) + 1)))) = (ups (ups (tDr (R 1) gu gv) 1 (((R 1 1) - q9) + (k / ((2 * q9) + 1)))) 2 (((R 1 2) - q9) + (k % ((2 * q9) + 1)))) from (tDr_t _ _ _ _ _).symm]; exact hP) (k_addr hD rfl) hS ls (lv_sub hl [0, 1, 2, 4, 5, 6, 7] rfl)
                          · skip
                            have h9 : (b = -1000000000 ∨ (pcost (tDr (R 1) (bdU (R 1) q9 k) (bdV (R 1) q9 k))) < le) := by by_cases h : (b = -1000000000 ∨ (pcost (tDr (R 1) (bdU (R 1) q9 k) (bdV (R 1) q9 k))) < le); exact h; rw [if_neg h] at c_14; exact absurd rfl c_14
                            refine k_sipush hx hb dX7_bestDrift_159 (by decide +kernel) ?_
                            refine lv_aload_n hx hb dX7_bestDrift_162 rfl (lv_at hl 6 rfl) ?_
                            refine va_get (D := D) (ci := 6) (v := .ref (a 1)) (C := RX7) (T := TX7) (N := 19) hx hb hts hinX7 hown hK hP 0 rfl rfl 0 (by decide) hm1 (fun _ h9 => h9) rfl dX7_bestDrift_163 ?_
                            refine k_iconst hx hb dX7_bestDrift_166 ?_
                            refine k_iald hx hb hK hP 1 0 (f := ups (ups (tDr (R 1) gu gv) 1 (((R 1 1) - q9) + (k / ((2 * q9) + 1)))) 2 (((R 1 2) - q9) + (k % ((2 * q9) + 1)))) rfl rfl (i := 1) (by omega) dX7_bestDrift_167 ?_
                            refine k_eqI (v := (ups (ups (tDr (R 1) gu gv) 1 (((R 1 1) - q9) + (k / ((2 * q9) + 1)))) 2 (((R 1 2) - q9) + (k % ((2 * q9) + 1)))) 1) (w := ((R 1 1) - q9) + (k / ((2 * q9) + 1))) rfl ?_
                            refine k_bipush hx hb dX7_bestDrift_168 (by decide +kernel) ?_
                            refine k_iadd hx hb dX7_bestDrift_170 ?_
                            refine k_imul hx hb dX7_bestDrift_171 ?_
                            refine lv_aload_n hx hb dX7_bestDrift_172 rfl (lv_at hl 6 rfl) ?_
                            refine va_get (D := D) (ci := 6) (v := .ref (a 1)) (C := RX7) (T := TX7) (N := 19) hx hb hts hinX7 hown hK hP 0 rfl rfl 0 (by decide) hm1 (fun _ h9 => h9) rfl dX7_bestDrift_173 ?_
                            refine k_iconst hx hb dX7_bestDrift_176 ?_
                            refine k_iald hx hb hK hP 1 0 (f := ups (ups (tDr (R 1) gu gv) 1 (((R 1 1) - q9) + (k / ((2 * q9) + 1)))) 2 (((R 1 2) - q9) + (k % ((2 * q9) + 1)))) rfl rfl (i := 2) (by omega) dX7_bestDrift_177 ?_
                            refine k_eqI (v := (ups (ups (tDr (R 1) gu gv) 1 (((R 1 1) - q9) + (k / ((2 * q9) + 1)))) 2 (((R 1 2) - q9) + (k % ((2 * q9) + 1)))) 2) (w := ((R 1 2) - q9) + (k % ((2 * q9) + 1))) rfl ?_
                            refine k_iadd hx hb dX7_bestDrift_178 ?_
                            refine k_bipush hx hb dX7_bestDrift_179 (by decide +kernel) ?_
                            refine k_iadd hx hb dX7_bestDrift_181 ?_
                            refine lv_goto (tgt := 187) hx hb dX7_bestDrift_182 (by decide) ?_
                            refine lv_istore (lv' := [(4, .int (iI (((1000 * ((((R 1 1) - q9) + (k / ((2 * q9) + 1))) + 100)) + (((R 1 2) - q9) + (k % ((2 * q9) + 1)))) + 100))), (7, .int (iI (pcost (tDr (R 1) (bdU (R 1) q9 k) (bdV (R 1) q9 k))))), (6, .int (iI k)), (5, .int (iI le)), (3, .int (iI (R 1 2))), (2, .int (iI (R 1 1))), (0, .ref (a 0)), (1, .int (iI q9)), (8, .int (iI (if (b = -1000000000 ∨ (pcost (tDr (R 1) (bdU (R 1) q9 k) (bdV (R 1) q9 k))) < le) then (1 : Int) else 0)))]) hx hb dX7_bestDrift_187 hl (by decide) rfl (fun ls hl => ?_)
                            refine lv_iload hx hb dX7_bestDrift_189 (lv_at hl 8 rfl) ?_
                            refine k_if_eq (tgt := 199) hx hb dX7_bestDrift_191 (by decide) (by split <;> omega) (fun c_16 => ?_) (fun c_16 => ?_)
                            · skip
                              refine lv_iload hx hb dX7_bestDrift_199 (lv_at hl 3 rfl) ?_
                              refine lv_istore (lv' := [(5, .int (iI le)), (4, .int (iI (((1000 * ((((R 1 1) - q9) + (k / ((2 * q9) + 1))) + 100)) + (((R 1 2) - q9) + (k % ((2 * q9) + 1)))) + 100))), (7, .int (iI (pcost (tDr (R 1) (bdU (R 1) q9 k) (bdV (R 1) q9 k))))), (6, .int (iI k)), (3, .int (iI (R 1 2))), (2, .int (iI (R 1 1))), (0, .ref (a 0)), (1, .int (iI q9)), (8, .int (iI (if (b = -1000000000 ∨ (pcost (tDr (R 1) (bdU (R 1) q9 k) (bdV (R 1) q9 k))) < le) then (1 : Int) else 0)))]) hx hb dX7_bestDrift_201 hl (by decide) rfl (fun ls hl => ?_)
                              refine lv_iinc (v := iI (k + 1)) (lv' := [(6, .int (iI (k + 1))), (5, .int (iI le)), (4, .int (iI (((1000 * ((((R 1 1) - q9) + (k / ((2 * q9) + 1))) + 100)) + (((R 1 2) - q9) + (k % ((2 * q9) + 1)))) + 100))), (7, .int (iI (pcost (tDr (R 1) (bdU (R 1) q9 k) (bdV (R 1) q9 k))))), (3, .int (iI (R 1 2))), (2, .int (iI (R 1 1))), (0, .ref (a 0)), (1, .int (iI q9)), (8, .int (iI (if (b = -1000000000 ∨ (pcost (tDr (R 1) (bdU (R 1) q9 k) (bdV (R 1) q9 k))) < le) then (1 : Int) else 0)))]) hx hb dX7_bestDrift_203 hl (k := 3) rfl (iI_add _ _) (by decide) rfl (fun ls hl => ?_)
                              refine lv_goto (tgt := 51) hx hb dX7_bestDrift_206 (by decide) ?_
                              exact ih51 (k + 1) (((1000 * ((((R 1 1) - q9) + (k / ((2 * q9) + 1))) + 100)) + (((R 1 2) - q9) + (k % ((2 * q9) + 1)))) + 100) le (((R 1 1) - q9) + (k / ((2 * q9) + 1))) (((R 1 2) - q9) + (k % ((2 * q9) + 1)))  (by omega) (by omega) (by first | contradiction | exact bdI_y hi0 hi2 ⟨by unfold bdU; omega, by unfold bdV; omega⟩ h9 | exact bdI_n hi0 hi2 (fun h => by have g1 := h.1.1; have g2 := h.1.2; have g3 := h.2; unfold bdU at g1; unfold bdV at g2; omega) | exact bdI_n hi0 hi2 (fun h => h9 h.2)) (by first | contradiction | omega) (by omega) H locs (by rw [show (tDr (R 1) (((R 1 1) - q9) + (k / ((2 * q9) + 1))) (((R 1 2) - q9) + (k % ((2 * q9) + 1)))) = (ups (ups (tDr (R 1) gu gv) 1 (((R 1 1) - q9) + (k / ((2 * q9) + 1)))) 2 (((R 1 2) - q9) + (k % ((2 * q9) + 1)))) from (tDr_t _ _ _ _ _).symm]; exact hP) (k_addr hD rfl) hS ls (lv_sub hl [0, 1, 2, 4, 5, 6, 7] rfl)
                            · skip
                              refine lv_iload hx hb dX7_bestDrift_194 (lv_at hl 1 rfl) ?_
                              refine lv_goto (tgt := 201) hx hb dX7_bestDrift_196 (by decide) ?_
                              refine lv_istore (lv' := [(5, .int (iI (pcost (tDr (R 1) (bdU (R 1) q9 k) (bdV (R 1) q9 k))))), (4, .int (iI (((1000 * ((((R 1 1) - q9) + (k / ((2 * q9) + 1))) + 100)) + (((R 1 2) - q9) + (k % ((2 * q9) + 1)))) + 100))), (7, .int (iI (pcost (tDr (R 1) (bdU (R 1) q9 k) (bdV (R 1) q9 k))))), (6, .int (iI k)), (3, .int (iI (R 1 2))), (2, .int (iI (R 1 1))), (0, .ref (a 0)), (1, .int (iI q9)), (8, .int (iI (if (b = -1000000000 ∨ (pcost (tDr (R 1) (bdU (R 1) q9 k) (bdV (R 1) q9 k))) < le) then (1 : Int) else 0)))]) hx hb dX7_bestDrift_201 hl (by decide) rfl (fun ls hl => ?_)
                              refine lv_iinc (v := iI (k + 1)) (lv' := [(6, .int (iI (k + 1))), (5, .int (iI (pcost (tDr (R 1) (bdU (R 1) q9 k) (bdV (R 1) q9 k))))), (4, .int (iI (((1000 * ((((R 1 1) - q9) + (k / ((2 * q9) + 1))) + 100)) + (((R 1 2) - q9) + (k % ((2 * q9) + 1)))) + 100))), (7, .int (iI (pcost (tDr (R 1) (bdU (R 1) q9 k) (bdV (R 1) q9 k))))), (3, .int (iI (R 1 2))), (2, .int (iI (R 1 1))), (0, .ref (a 0)), (1, .int (iI q9)), (8, .int (iI (if (b = -1000000000 ∨ (pcost (tDr (R 1) (bdU (R 1) q9 k) (bdV (R 1) q9 k))) < le) then (1 : Int) else 0)))]) hx hb dX7_bestDrift_203 hl (k := 3) rfl (iI_add _ _) (by decide) rfl (fun ls hl => ?_)
                              refine lv_goto (tgt := 51) hx hb dX7_bestDrift_206 (by decide) ?_
                              exact ih51 (k + 1) (((1000 * ((((R 1 1) - q9) + (k / ((2 * q9) + 1))) + 100)) + (((R 1 2) - q9) + (k % ((2 * q9) + 1)))) + 100) (pcost (tDr (R 1) (bdU (R 1) q9 k) (bdV (R 1) q9 k))) (((R 1 1) - q9) + (k / ((2 * q9) + 1))) (((R 1 2) - q9) + (k % ((2 * q9) + 1)))  (by omega) (by omega) (by first | contradiction | exact bdI_y hi0 hi2 ⟨by unfold bdU; omega, by unfold bdV; omega⟩ h9 | exact bdI_n hi0 hi2 (fun h => by have g1 := h.1.1; have g2 := h.1.2; have g3 := h.2; unfold bdU at g1; unfold bdV at g2; omega) | exact bdI_n hi0 hi2 (fun h => h9 h.2)) (by first | contradiction | omega) (by omega) H locs (by rw [show (tDr (R 1) (((R 1 1) - q9) + (k / ((2 * q9) + 1))) (((R 1 2) - q9) + (k % ((2 * q9) + 1)))) = (ups (ups (tDr (R 1) gu gv) 1 (((R 1 1) - q9) + (k / ((2 * q9) + 1)))) 2 (((R 1 2) - q9) + (k % ((2 * q9) + 1)))) from (tDr_t _ _ _ _ _).symm]; exact hP) (k_addr hD rfl) hS ls (lv_sub hl [0, 1, 2, 4, 5, 6, 7] rfl)
                        refine lv_iload hx hb dX7_bestDrift_133 (lv_at hl 3 rfl) ?_
                        refine k_ldc (z := (-1000000000)) hx hb hown hm2 (by decide +kernel) dX7_bestDrift_135 ?_
                        refine k_icmp_eq (tgt := 147) hx hb dX7_bestDrift_137 (by decide) (by omega) (by omega) (fun c_17 => ?_) (fun c_17 => ?_)
                        · skip
                          refine k_iconst hx hb dX7_bestDrift_147 ?_
                          refine lv_goto (tgt := 152) hx hb dX7_bestDrift_148 (by decide) ?_
                          refine lv_istore (lv' := [(8, .int (iI 1)), (7, .int (iI (pcost (tDr (R 1) (bdU (R 1) q9 k) (bdV (R 1) q9 k))))), (6, .int (iI k)), (5, .int (iI le)), (4, .int (iI b)), (3, .int (iI (R 1 2))), (2, .int (iI (R 1 1))), (0, .ref (a 0)), (1, .int (iI q9))]) hx hb dX7_bestDrift_152 hl (by decide) rfl (fun ls hl => ?_)
                          exact join154  1 (by first | rw [if_pos (by omega)] | rw [if_neg (by omega)])  ls (lv_sub hl [1, 2, 3, 4, 5, 6, 7, 8, 0] rfl)
                        · skip
                          refine lv_iload hx hb dX7_bestDrift_140 (lv_at hl 0 rfl) ?_
                          refine lv_iload hx hb dX7_bestDrift_142 (lv_at hl 2 rfl) ?_
                          refine k_icmp_ge (tgt := 151) hx hb dX7_bestDrift_144 (by decide) (by omega) (by omega) (fun c_18 => ?_) (fun c_18 => ?_)
                          · skip
                            refine k_iconst hx hb dX7_bestDrift_151 ?_
                            refine lv_istore (lv' := [(8, .int (iI 0)), (7, .int (iI (pcost (tDr (R 1) (bdU (R 1) q9 k) (bdV (R 1) q9 k))))), (6, .int (iI k)), (5, .int (iI le)), (4, .int (iI b)), (3, .int (iI (R 1 2))), (2, .int (iI (R 1 1))), (0, .ref (a 0)), (1, .int (iI q9))]) hx hb dX7_bestDrift_152 hl (by decide) rfl (fun ls hl => ?_)
                            exact join154  0 (by first | rw [if_pos (by omega)] | rw [if_neg (by omega)])  ls (lv_sub hl [1, 2, 3, 4, 5, 6, 7, 8, 0] rfl)
                          · skip
                            refine k_iconst hx hb dX7_bestDrift_147 ?_
                            refine lv_goto (tgt := 152) hx hb dX7_bestDrift_148 (by decide) ?_
                            refine lv_istore (lv' := [(8, .int (iI 1)), (7, .int (iI (pcost (tDr (R 1) (bdU (R 1) q9 k) (bdV (R 1) q9 k))))), (6, .int (iI k)), (5, .int (iI le)), (4, .int (iI b)), (3, .int (iI (R 1 2))), (2, .int (iI (R 1 1))), (0, .ref (a 0)), (1, .int (iI q9))]) hx hb dX7_bestDrift_152 hl (by decide) rfl (fun ls hl => ?_)
                            exact join154  1 (by first | rw [if_pos (by omega)] | rw [if_neg (by omega)])  ls (lv_sub hl [1, 2, 3, 4, 5, 6, 7, 8, 0] rfl)
                    · skip
                      refine k_if_eq (tgt := 203) hx hb dX7_bestDrift_124 (by decide) (by omega) (fun c_19 => ?_) (fun c_19 => ?_)
                      · skip
                        refine lv_iinc (v := iI (k + 1)) (lv' := [(6, .int (iI (k + 1))), (5, .int (iI le)), (4, .int (iI b)), (3, .int (iI (R 1 2))), (2, .int (iI (R 1 1))), (0, .ref (a 0)), (1, .int (iI q9))]) hx hb dX7_bestDrift_203 hl (k := 0) rfl (iI_add _ _) (by decide) rfl (fun ls hl => ?_)
                        refine lv_goto (tgt := 51) hx hb dX7_bestDrift_206 (by decide) ?_
                        exact ih51 (k + 1) b le (((R 1 1) - q9) + (k / ((2 * q9) + 1))) (((R 1 2) - q9) + (k % ((2 * q9) + 1)))  (by omega) (by omega) (by first | contradiction | exact bdI_y hi0 hi2 ⟨by unfold bdU; omega, by unfold bdV; omega⟩ h9 | exact bdI_n hi0 hi2 (fun h => by have g1 := h.1.1; have g2 := h.1.2; have g3 := h.2; unfold bdU at g1; unfold bdV at g2; omega) | exact bdI_n hi0 hi2 (fun h => h9 h.2)) (by first | contradiction | omega) (by omega) H locs (by rw [show (tDr (R 1) (((R 1 1) - q9) + (k / ((2 * q9) + 1))) (((R 1 2) - q9) + (k % ((2 * q9) + 1)))) = (ups (ups (tDr (R 1) gu gv) 1 (((R 1 1) - q9) + (k / ((2 * q9) + 1)))) 2 (((R 1 2) - q9) + (k % ((2 * q9) + 1)))) from (tDr_t _ _ _ _ _).symm]; exact hP) (k_addr hD rfl) hS ls (lv_sub hl [0, 1, 2, 3, 4, 5, 6] rfl)
                      · exfalso; omega
                · skip
                  refine k_if_eq (tgt := 203) hx hb dX7_bestDrift_112 (by decide) (by omega) (fun c_20 => ?_) (fun c_20 => ?_)
                  · skip
                    refine lv_iinc (v := iI (k + 1)) (lv' := [(6, .int (iI (k + 1))), (5, .int (iI le)), (4, .int (iI b)), (3, .int (iI (R 1 2))), (2, .int (iI (R 1 1))), (0, .ref (a 0)), (1, .int (iI q9))]) hx hb dX7_bestDrift_203 hl (k := 0) rfl (iI_add _ _) (by decide) rfl (fun ls hl => ?_)
                    refine lv_goto (tgt := 51) hx hb dX7_bestDrift_206 (by decide) ?_
                    exact ih51 (k + 1) b le (((R 1 1) - q9) + (k / ((2 * q9) + 1))) (((R 1 2) - q9) + (k % ((2 * q9) + 1)))  (by omega) (by omega) (by first | contradiction | exact bdI_y hi0 hi2 ⟨by unfold bdU; omega, by unfold bdV; omega⟩ h9 | exact bdI_n hi0 hi2 (fun h => by have g1 := h.1.1; have g2 := h.1.2; have g3 := h.2; unfold bdU at g1; unfold bdV at g2; omega) | exact bdI_n hi0 hi2 (fun h => h9 h.2)) (by first | contradiction | omega) (by omega) H locs (by rw [show (tDr (R 1) (((R 1 1) - q9) + (k / ((2 * q9) + 1))) (((R 1 2) - q9) + (k % ((2 * q9) + 1)))) = (ups (ups (tDr (R 1) gu gv) 1 (((R 1 1) - q9) + (k / ((2 * q9) + 1)))) 2 (((R 1 2) - q9) + (k % ((2 * q9) + 1)))) from (tDr_t _ _ _ _ _).symm]; exact hP) (k_addr hD rfl) hS ls (lv_sub hl [0, 1, 2, 3, 4, 5, 6] rfl)
                  · exfalso; omega
          exact loop51 ((((2 * q9) + 1) * ((2 * q9) + 1) - 0 : Int) + 1).toNat 0 (-1000000000) 0 (R 1 1) (R 1 2)  (by omega) (Int.mul_nonneg (by omega) (by omega)) (rfl) (by first | contradiction | omega) (by omega) H locs (by rw [show (tDr (R 1) (R 1 1) (R 1 2)) = (R 1) from tDr_id _]; exact hP) (k_addr hD rfl) hS ls (lv_sub hl [0, 1, 2, 3, 4, 5, 6] rfl)
        · exfalso; omega
    · skip
      refine k_if_eq (tgt := 14) hx hb dX7_bestDrift_7 (by decide) (by omega) (fun c_21 => ?_) (fun c_21 => ?_)
      · skip
        refine k_iconst hx hb dX7_bestDrift_14 ?_
        refine va_put (D := D) (ci := 6) (v := .int (iI 1)) (ty := .int) (C := RX7) (T := TX7) (N := 19) hx hb hts hinX7 tyX7 tyX7_ok nmX7 hown hK hP hD hS 0 rfl rfl 6 (by decide) hm0 (fun _ h9 => h9) rfl (by decide +kernel) rfl rfl (Nat.le_of_ble_eq_true rfl) dX7_bestDrift_15 (fun H locs hP hD hS => ?_)
        have hP : va_P D vwCl (rfW cy a (upr R 0 (ups (R 0) 6 1))) H := hP
        have hD : va_D (va_A (rfW cy a R) sz) (rfW cy a (upr R 0 (ups (R 0) 6 1))) := hD
        refine lv_aload_n hx hb dX7_bestDrift_18 rfl (lv_at hl 0 rfl) ?_
        refine va_get (D := D) (ci := 6) (v := .int (iI 1)) (C := RX7) (T := TX7) (N := 19) hx hb hts hinX7 hown hK hP 0 rfl rfl 6 (by decide) hm0 (fun _ h9 => h9) rfl dX7_bestDrift_19 ?_
        refine k_if_eq (tgt := 27) hx hb dX7_bestDrift_22 (by decide) (by omega) (fun c_22 => ?_) (fun c_22 => ?_)
        · exfalso; omega
        · skip
          refine k_iconst hx hb dX7_bestDrift_25 ?_
          exact W.iret (v := iI 0) hx hb hr (fun t9 ht _ => ⟨⟨iI 0, (upr R 0 (ups (R 0) 6 1)), rfl, ⟨0, rfl, (by first | exact Or.inl ⟨(by omega), (by first | rfl | omega), rfl⟩ | exact Or.inr (⟨(by omega), (by show b = (bdI (R 1) q9 (((2 * q9) + 1) * ((2 * q9) + 1)).toNat).1; rw [show ((2 * q9) + 1) * ((2 * q9) + 1) = k by omega, hi2]), rfl⟩) : ((¬ (0 ≤ q9 ∧ q9 ≤ 5)) ∧ (0 : Int) = 0 ∧ (upr R 0 (ups (R 0) 6 1)) = (upr R 0 (ups (R 0) 6 1))) ∨ ((0 ≤ q9 ∧ q9 ≤ 5) ∧ (0 : Int) = bdF (R 1) q9 ∧ (upr R 0 (ups (R 0) 6 1)) = (upr (upr R 0 (ups (R 0) 6 0)) 1 (R 1))))⟩, by rw [ht]; exact hP, hD⟩, hS.F ht⟩) hS.2.2 dX7_bestDrift_26 hlocks
      · exfalso; omega
  exact hbody s.heap [] hP hS ls hl
