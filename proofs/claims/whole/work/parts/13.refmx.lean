set_option maxHeartbeats 4000000 in
set_option maxRecDepth 100000 in
theorem c_X7_removeTrail (l : Launch) (D : va_G) (cy : Nat → ClassId) (sz : Nat) (a : Nat → Nat) (R : Nat → Int → Int) (t : Int) (hI : Inv (R 1)) (hsc : 0 ≤ R 0 2 ∧ R 0 2 ≤ 4) (hrt : -2147483648 ≤ t ∧ t ≤ 2147483647) : Met l yX7_removeTrail wsX7_removeTrail { frames := 2, cells := 0, slots := 0, locals := 43 } (mPre (GG D cy) D (rfW cy a R) sz ([.ref (a 0), .int (iI t)] : List Value)) (kQi D (rfW cy a R) sz (fun u9 : Nat → Int → Int => rfW cy a u9) (fun r9 u9 => ((¬ (0 ≤ t ∧ t < R 1 12)) ∧ r9 = 0 ∧ u9 = (upr R 0 (ups (R 0) 6 1))) ∨ ((0 ≤ t ∧ t < R 1 12) ∧ r9 = R 1 12 - 1 ∧ u9 = (upr (upr (upr R 0 (ups (ups (R 0) 6 0) 2 (kpN (R 0 2)))) 1 (tRT (R 1) t)) 2 (kpS (R 2) (R 1) (R 0 2)))))) 0 0 (va_A (rfW cy a R) sz) := by
  refine kM_start (cc := cX7_removeTrail) (maxL := 3) (ret := (some .int)) (by decide) rfl (Nat.le_of_ble_eq_true rfl) ?_
  intro p e s m below meth c hx hb hr hlocks hml hts hown hsz hA hG hP hD hS hin ls hl
  have hK := hG.1
  have hl : lv_has ls 3 [(0, .ref (a 0)), (1, .int (iI t))] := hl
  have hinX7 : ∀ w ∈ u_ws RX7 TX7 19, w ∈ wsX7_removeTrail := by decide +kernel
  have hm0 := hts (.fieldLink RX7 31 "ArcPlateModel" "code" "I") (by decide +kernel)
  have hm1 := hts (.fieldLink RX7 7 "ArcPlateModel" "m" "[I") (by decide +kernel)
  have h12 := inv_S12 hI
  have hbody : ∀ (H : Heap) (locs : List Loc) (hP : va_P D vwCl (rfW cy a R) H) (hS : va_S (va_A (rfW cy a R) sz) s.heap H locs) (ls : Array Slot) (hl : lv_has ls 3 [(0, .ref (a 0)), (1, .int (iI t))]), W p l e { frames := 2, cells := 0, slots := 0, locals := 43 } s m ([.ref (a 0), .int (iI t)] : List Value).toArray below meth c H locs 0 0 (MQ below (kQi D (rfW cy a R) sz (fun u9 : Nat → Int → Int => rfW cy a u9) (fun r9 u9 => ((¬ (0 ≤ t ∧ t < R 1 12)) ∧ r9 = 0 ∧ u9 = (upr R 0 (ups (R 0) 6 1))) ∨ ((0 ≤ t ∧ t < R 1 12) ∧ r9 = R 1 12 - 1 ∧ u9 = (upr (upr (upr R 0 (ups (ups (R 0) 6 0) 2 (kpN (R 0 2)))) 1 (tRT (R 1) t)) 2 (kpS (R 2) (R 1) (R 0 2)))))) ([.ref (a 0), .int (iI t)] : List Value).toArray s 0 0 (va_A (rfW cy a R) sz)) (F0 m 0 ls []) := by
    intro H locs hP hS ls hl
    refine lv_aload_n hx hb dX7_removeTrail_0 rfl (lv_at hl 0 rfl) ?_
    refine lv_aload_n hx hb dX7_removeTrail_1 rfl (lv_at hl 0 rfl) ?_
    refine lv_iload_n hx hb dX7_removeTrail_2 rfl (lv_at hl 1 rfl) ?_
    refine k_roV (As := [.int (iI t)]) (rest := [.ref (a 0)]) ⟨hx, hb, hml, hown, hts⟩ (c_X7_isTrail l D cy a R t hI (show -2147483648 ≤ t ∧ t ≤ 2147483647 by omega)) gX7_removeTrail_X7_isTrail rfl ⟨rfl, rfl⟩ 1 rfl (by decide +kernel) ⟨Nat.le_of_ble_eq_true rfl, Nat.le_of_ble_eq_true rfl⟩ (GG_ok D cy) ((GG_ok D cy).2.2.2 _ _ _ _ (fun _ h => h.elim) ((GG_ok D cy).1 _ _ _ _ hS.2.1 hG)) hP (va_recv hK hP (ci := 6) (q0 := 0) rfl rfl) hl.1 rfl (Nat.le_of_ble_eq_true rfl) ⟨Nat.le_of_ble_eq_true rfl, Nat.le_of_ble_eq_true rfl⟩ dX7_removeTrail_3 (fun r_1 hr_1 => ?_)
    have hr_1 : ((0 ≤ t ∧ t < R 1 12) ∧ r_1 = 1) ∨ (¬ (0 ≤ t ∧ t < R 1 12) ∧ r_1 = 0) := hr_1
    rcases hr_1 with ⟨c_2, hr_1⟩ | ⟨c_2, hr_1⟩ <;> subst hr_1
    · skip
      refine k_if_eq (tgt := 13) hx hb dX7_removeTrail_6 (by decide) (by omega) (fun c_3 => ?_) (fun c_3 => ?_)
      · exfalso; omega
      · skip
        refine k_iconst hx hb dX7_removeTrail_9 ?_
        refine lv_goto (tgt := 14) hx hb dX7_removeTrail_10 (by decide) ?_
        refine va_put (D := D) (ci := 6) (v := .int (iI 0)) (ty := .int) (C := RX7) (T := TX7) (N := 19) hx hb hts hinX7 tyX7 tyX7_ok nmX7 hown hK hP hD hS 0 rfl rfl 6 (by decide) hm0 (fun _ h9 => h9) rfl (by decide +kernel) rfl rfl (Nat.le_of_ble_eq_true rfl) dX7_removeTrail_14 (fun H locs hP hD hS => ?_)
        have hP : va_P D vwCl (rfW cy a (upr R 0 (ups (R 0) 6 0))) H := hP
        have hD : va_D (va_A (rfW cy a R) sz) (rfW cy a (upr R 0 (ups (R 0) 6 0))) := hD
        refine lv_aload_n hx hb dX7_removeTrail_17 rfl (lv_at hl 0 rfl) ?_
        refine va_get (D := D) (ci := 6) (v := .int (iI 0)) (C := RX7) (T := TX7) (N := 19) hx hb hts hinX7 hown hK hP 0 rfl rfl 6 (by decide) hm0 (fun _ h9 => h9) rfl dX7_removeTrail_18 ?_
        refine k_if_eq (tgt := 26) hx hb dX7_removeTrail_21 (by decide) (by omega) (fun c_4 => ?_) (fun c_4 => ?_)
        · skip
          refine lv_aload_n hx hb dX7_removeTrail_26 rfl (lv_at hl 0 rfl) ?_
          refine k_muv (k_runV (As := []) (rest := []) ⟨hx, hb, hml, hown, hts⟩ (c_X7_keep l D cy H.size a (upr R 0 (ups (R 0) 6 0)) (show 0 ≤ (R 0 2) ∧ (R 0 2) ≤ 4 by omega)) gX7_removeTrail_X7_keep rfl ⟨rfl, rfl⟩ 0 rfl (by decide +kernel) ⟨Nat.le_of_ble_eq_true rfl, Nat.le_of_ble_eq_true rfl⟩ (GG_ok D cy) hG hS (k_free hD hS hA) hP hD (va_recv hK hP (ci := 6) (q0 := 0) rfl rfl) hl.1 rfl (Nat.le_of_ble_eq_true rfl) ⟨Nat.le_of_ble_eq_true rfl, Nat.le_of_ble_eq_true rfl⟩ dX7_removeTrail_27) (k_free hD hS hA) hS (fun R_6 H1 locs1 hR_6 hP1 hD1 hS1 hk1 => ?_)
          have hR_6 : R_6 = (upr (upr (upr R 0 (ups (R 0) 6 0)) 0 (ups ((ups (R 0) 6 0)) 2 (kpN ((R 0 2))))) 2 (kpS ((R 2)) ((R 1)) ((R 0 2)))) := hR_6
          subst hR_6
          have hDn : va_D (va_A (rfW cy a R) sz) (rfW cy a (upr (upr R 0 (ups ((ups (R 0) 6 0)) 2 (kpN ((R 0 2))))) 2 (kpS ((R 2)) ((R 1)) ((R 0 2))))) := k_addr hD rfl
          have hPn : va_P D vwCl (rfW cy a (upr (upr R 0 (ups ((ups (R 0) 6 0)) 2 (kpN ((R 0 2))))) 2 (kpS ((R 2)) ((R 1)) ((R 0 2))))) H1 := hP1
          clear hP hD hS hP1 hD1 hk1
          have hP := hPn
          have hD := hDn
          have hS := hS1
          clear hPn hDn hS1
          generalize H1 = H at hP hS ⊢
          generalize locs1 = locs at hS ⊢
          refine lv_aload_n hx hb dX7_removeTrail_30 rfl (lv_at hl 0 rfl) ?_
          refine va_get (D := D) (ci := 6) (v := .ref (a 1)) (C := RX7) (T := TX7) (N := 19) hx hb hts hinX7 hown hK hP 0 rfl rfl 0 (by decide) hm1 (fun _ h9 => h9) rfl dX7_removeTrail_31 ?_
          refine k_bipush hx hb dX7_removeTrail_34 (by decide +kernel) ?_
          refine lv_dup2_11 hx hb dX7_removeTrail_36 rfl rfl ?_
          refine k_iald hx hb hK hP 1 0 (f := R 1) rfl rfl (i := 12) (by omega) dX7_removeTrail_37 ?_
          refine k_iconst hx hb dX7_removeTrail_38 ?_
          refine k_isub hx hb dX7_removeTrail_39 ?_
          refine k_iast hx hb hK hP hD hS 1 0 (f := R 1) rfl rfl (i := 12) (x := (R 1 12) - 1) (by omega) dX7_removeTrail_40 (fun H locs hP hD hS => ?_)
          have hP : va_P D vwCl (rfW cy a (upr (upr (upr R 0 (ups ((ups (R 0) 6 0)) 2 (kpN ((R 0 2))))) 1 (ups (R 1) 12 ((R 1 12) - 1))) 2 (kpS ((R 2)) ((R 1)) ((R 0 2))))) H := hP
          have hD : va_D (va_A (rfW cy a R) sz) (rfW cy a (upr (upr (upr R 0 (ups ((ups (R 0) 6 0)) 2 (kpN ((R 0 2))))) 1 (ups (R 1) 12 ((R 1 12) - 1))) 2 (kpS ((R 2)) ((R 1)) ((R 0 2))))) := hD
          refine k_bipush hx hb dX7_removeTrail_41 (by decide +kernel) ?_
          refine k_bipush hx hb dX7_removeTrail_43 (by decide +kernel) ?_
          refine lv_iload_n hx hb dX7_removeTrail_45 rfl (lv_at hl 1 rfl) ?_
          refine k_imul hx hb dX7_removeTrail_46 ?_
          refine k_iadd hx hb dX7_removeTrail_47 ?_
          refine lv_istore_n (lv' := [(2, .int (iI (14 + (37 * t)))), (0, .ref (a 0)), (1, .int (iI t))]) hx hb dX7_removeTrail_48 rfl hl (by decide) rfl (fun ls hl => ?_)
          have loop49 : ∀ (n_7 : Nat) (k : Int) (hi0 : 14 + 37 * t ≤ k) (hi1 : k ≤ 14 + 37 * (R 1 12 - 1)) (hn : 14 + 37 * (R 1 12 - 1) - k < (n_7 : Int)) (H : Heap) (locs : List Loc) (hP : va_P D vwCl (rfW cy a (upr (upr (upr R 0 (ups ((ups (R 0) 6 0)) 2 (kpN ((R 0 2))))) 1 (shf (ups (R 1) 12 (R 1 12 - 1)) (14 + 37 * t) k 37)) 2 (kpS ((R 2)) ((R 1)) ((R 0 2))))) H) (hD : va_D (va_A (rfW cy a R) sz) (rfW cy a (upr (upr (upr R 0 (ups ((ups (R 0) 6 0)) 2 (kpN ((R 0 2))))) 1 (shf (ups (R 1) 12 (R 1 12 - 1)) (14 + 37 * t) k 37)) 2 (kpS ((R 2)) ((R 1)) ((R 0 2)))))) (hS : va_S (va_A (rfW cy a R) sz) s.heap H locs) (ls : Array Slot) (hl : lv_has ls 3 [(2, .int (iI k)), (0, .ref (a 0)), (1, .int (iI t))]), W p l e { frames := 2, cells := 0, slots := 0, locals := 43 } s m ([.ref (a 0), .int (iI t)] : List Value).toArray below meth c H locs 0 0 (MQ below (kQi D (rfW cy a R) sz (fun u9 : Nat → Int → Int => rfW cy a u9) (fun r9 u9 => ((¬ (0 ≤ t ∧ t < R 1 12)) ∧ r9 = 0 ∧ u9 = (upr R 0 (ups (R 0) 6 1))) ∨ ((0 ≤ t ∧ t < R 1 12) ∧ r9 = R 1 12 - 1 ∧ u9 = (upr (upr (upr R 0 (ups (ups (R 0) 6 0) 2 (kpN (R 0 2)))) 1 (tRT (R 1) t)) 2 (kpS (R 2) (R 1) (R 0 2)))))) ([.ref (a 0), .int (iI t)] : List Value).toArray s 0 0 (va_A (rfW cy a R) sz)) (F0 m 49 ls []) := by
            intro n_7
            induction n_7 with
            | zero => intro k hi0 hi1 hn H locs hP hD hS ls hl; exfalso; omega
            | succ n_7 ih49 =>
              intro k hi0 hi1 hn H locs hP hD hS ls hl
              refine lv_iload_n hx hb dX7_removeTrail_49 rfl (lv_at hl 0 rfl) ?_
              refine k_bipush hx hb dX7_removeTrail_50 (by decide +kernel) ?_
              refine k_bipush hx hb dX7_removeTrail_52 (by decide +kernel) ?_
              refine lv_aload_n hx hb dX7_removeTrail_54 rfl (lv_at hl 1 rfl) ?_
              refine va_get (D := D) (ci := 6) (v := .ref (a 1)) (C := RX7) (T := TX7) (N := 19) hx hb hts hinX7 hown hK hP 0 rfl rfl 0 (by decide) hm1 (fun _ h9 => h9) rfl dX7_removeTrail_55 ?_
              refine k_bipush hx hb dX7_removeTrail_58 (by decide +kernel) ?_
              refine k_iald hx hb hK hP 1 0 (f := shf (ups (R 1) 12 (R 1 12 - 1)) (14 + 37 * t) k 37) rfl rfl (i := 12) (by omega) dX7_removeTrail_60 ?_
              refine k_eqI (v := (shf (ups (R 1) 12 (R 1 12 - 1)) (14 + 37 * t) k 37) 12) (w := R 1 12 - 1) (by rw [shf_lo _ (by omega), ups_eq]) ?_
              refine k_imul hx hb dX7_removeTrail_61 ?_
              refine k_iadd hx hb dX7_removeTrail_62 ?_
              refine k_icmp_ge (tgt := 87) hx hb dX7_removeTrail_63 (by decide) (by omega) (by omega) (fun c_8 => ?_) (fun c_8 => ?_)
              · skip
                refine lv_aload_n hx hb dX7_removeTrail_87 rfl (lv_at hl 1 rfl) ?_
                refine va_get (D := D) (ci := 6) (v := .ref (a 1)) (C := RX7) (T := TX7) (N := 19) hx hb hts hinX7 hown hK hP 0 rfl rfl 0 (by decide) hm1 (fun _ h9 => h9) rfl dX7_removeTrail_88 ?_
                refine k_bipush hx hb dX7_removeTrail_91 (by decide +kernel) ?_
                refine k_iald hx hb hK hP 1 0 (f := shf (ups (R 1) 12 (R 1 12 - 1)) (14 + 37 * t) k 37) rfl rfl (i := 12) (by omega) dX7_removeTrail_93 ?_
                refine k_eqI (v := (shf (ups (R 1) 12 (R 1 12 - 1)) (14 + 37 * t) k 37) 12) (w := R 1 12 - 1) (by rw [shf_lo _ (by omega), ups_eq]) ?_
                exact W.iret (v := iI (R 1 12 - 1)) hx hb hr (fun t9 ht _ => ⟨⟨iI (R 1 12 - 1), (upr (upr (upr R 0 (ups ((ups (R 0) 6 0)) 2 (kpN ((R 0 2))))) 1 (shf (ups (R 1) 12 (R 1 12 - 1)) (14 + 37 * t) k 37)) 2 (kpS ((R 2)) ((R 1)) ((R 0 2)))), rfl, ⟨(R 1 12 - 1), rfl, (by first | exact Or.inl ⟨(by omega), (by first | rfl | omega), (by rw [show (shf (ups (R 1) 12 (R 1 12 - 1)) (14 + 37 * t) k 37) = (R 1) from by have e9 : k = 14 + 37 * (R 1 12 - 1) := (by omega); subst e9; rfl]; exact upr_back)⟩ | exact Or.inr (⟨(by omega), (by first | rfl | omega), (by rw [show (shf (ups (R 1) 12 (R 1 12 - 1)) (14 + 37 * t) k 37) = (tRT (R 1) t) from by have e9 : k = 14 + 37 * (R 1 12 - 1) := (by omega); subst e9; rfl])⟩) : ((¬ (0 ≤ t ∧ t < R 1 12)) ∧ (R 1 12 - 1 : Int) = 0 ∧ (upr (upr (upr R 0 (ups ((ups (R 0) 6 0)) 2 (kpN ((R 0 2))))) 1 (shf (ups (R 1) 12 (R 1 12 - 1)) (14 + 37 * t) k 37)) 2 (kpS ((R 2)) ((R 1)) ((R 0 2)))) = (upr R 0 (ups (R 0) 6 1))) ∨ ((0 ≤ t ∧ t < R 1 12) ∧ (R 1 12 - 1 : Int) = R 1 12 - 1 ∧ (upr (upr (upr R 0 (ups ((ups (R 0) 6 0)) 2 (kpN ((R 0 2))))) 1 (shf (ups (R 1) 12 (R 1 12 - 1)) (14 + 37 * t) k 37)) 2 (kpS ((R 2)) ((R 1)) ((R 0 2)))) = (upr (upr (upr R 0 (ups (ups (R 0) 6 0) 2 (kpN (R 0 2)))) 1 (tRT (R 1) t)) 2 (kpS (R 2) (R 1) (R 0 2)))))⟩, by rw [ht]; exact hP, hD⟩, hS.F ht⟩) hS.2.2 dX7_removeTrail_94 hlocks
              · skip
                refine lv_aload_n hx hb dX7_removeTrail_66 rfl (lv_at hl 1 rfl) ?_
                refine va_get (D := D) (ci := 6) (v := .ref (a 1)) (C := RX7) (T := TX7) (N := 19) hx hb hts hinX7 hown hK hP 0 rfl rfl 0 (by decide) hm1 (fun _ h9 => h9) rfl dX7_removeTrail_67 ?_
                refine lv_iload_n hx hb dX7_removeTrail_70 rfl (lv_at hl 0 rfl) ?_
                refine lv_aload_n hx hb dX7_removeTrail_71 rfl (lv_at hl 1 rfl) ?_
                refine va_get (D := D) (ci := 6) (v := .ref (a 1)) (C := RX7) (T := TX7) (N := 19) hx hb hts hinX7 hown hK hP 0 rfl rfl 0 (by decide) hm1 (fun _ h9 => h9) rfl dX7_removeTrail_72 ?_
                refine lv_iload_n hx hb dX7_removeTrail_75 rfl (lv_at hl 0 rfl) ?_
                refine k_bipush hx hb dX7_removeTrail_76 (by decide +kernel) ?_
                refine k_iadd hx hb dX7_removeTrail_78 ?_
                refine k_iald hx hb hK hP 1 0 (f := shf (ups (R 1) 12 (R 1 12 - 1)) (14 + 37 * t) k 37) rfl rfl (i := k + 37) (by omega) dX7_removeTrail_79 ?_
                refine k_iast hx hb hK hP hD hS 1 0 (f := shf (ups (R 1) 12 (R 1 12 - 1)) (14 + 37 * t) k 37) rfl rfl (i := k) (x := (shf (ups (R 1) 12 (R 1 12 - 1)) (14 + 37 * t) k 37) (k + 37)) (by omega) dX7_removeTrail_80 (fun H locs hP hD hS => ?_)
                have hP : va_P D vwCl (rfW cy a (upr (upr (upr R 0 (ups ((ups (R 0) 6 0)) 2 (kpN ((R 0 2))))) 1 (ups (shf (ups (R 1) 12 (R 1 12 - 1)) (14 + 37 * t) k 37) k ((shf (ups (R 1) 12 (R 1 12 - 1)) (14 + 37 * t) k 37) (k + 37)))) 2 (kpS ((R 2)) ((R 1)) ((R 0 2))))) H := hP
                have hD : va_D (va_A (rfW cy a R) sz) (rfW cy a (upr (upr (upr R 0 (ups ((ups (R 0) 6 0)) 2 (kpN ((R 0 2))))) 1 (ups (shf (ups (R 1) 12 (R 1 12 - 1)) (14 + 37 * t) k 37) k ((shf (ups (R 1) 12 (R 1 12 - 1)) (14 + 37 * t) k 37) (k + 37)))) 2 (kpS ((R 2)) ((R 1)) ((R 0 2))))) := hD
                refine lv_iinc (v := iI (k + 1)) (lv' := [(2, .int (iI (k + 1))), (0, .ref (a 0)), (1, .int (iI t))]) hx hb dX7_removeTrail_81 hl (k := 0) rfl (iI_add _ _) (by decide) rfl (fun ls hl => ?_)
                refine lv_goto (tgt := 49) hx hb dX7_removeTrail_84 (by decide) ?_
                exact ih49 (k + 1)  (by omega) (by omega) (by omega) H locs (by rw [show (shf (ups (R 1) 12 (R 1 12 - 1)) (14 + 37 * t) (k + 1) 37) = (ups (shf (ups (R 1) 12 (R 1 12 - 1)) (14 + 37 * t) k 37) k ((shf (ups (R 1) 12 (R 1 12 - 1)) (14 + 37 * t) k 37) (k + 37))) from shf_s _ hi0 (by omega)]; exact hP) (k_addr hD rfl) hS ls (lv_sub hl [0, 1, 2] rfl)
          exact loop49 ((14 + 37 * (R 1 12 - 1) - (14 + 37 * t) : Int) + 1).toNat (14 + 37 * t)  (by omega) (by omega) (by omega) H locs (by rw [show (shf (ups (R 1) 12 (R 1 12 - 1)) (14 + 37 * t) (14 + 37 * t) 37) = (ups (R 1) 12 ((R 1 12) - 1)) from shf_0 _ _ (by omega)]; exact hP) (k_addr hD rfl) hS ls (lv_sub hl [0, 1, 2] rfl)
        · exfalso; omega
    · skip
      refine k_if_eq (tgt := 13) hx hb dX7_removeTrail_6 (by decide) (by omega) (fun c_9 => ?_) (fun c_9 => ?_)
      · skip
        refine k_iconst hx hb dX7_removeTrail_13 ?_
        refine va_put (D := D) (ci := 6) (v := .int (iI 1)) (ty := .int) (C := RX7) (T := TX7) (N := 19) hx hb hts hinX7 tyX7 tyX7_ok nmX7 hown hK hP hD hS 0 rfl rfl 6 (by decide) hm0 (fun _ h9 => h9) rfl (by decide +kernel) rfl rfl (Nat.le_of_ble_eq_true rfl) dX7_removeTrail_14 (fun H locs hP hD hS => ?_)
        have hP : va_P D vwCl (rfW cy a (upr R 0 (ups (R 0) 6 1))) H := hP
        have hD : va_D (va_A (rfW cy a R) sz) (rfW cy a (upr R 0 (ups (R 0) 6 1))) := hD
        refine lv_aload_n hx hb dX7_removeTrail_17 rfl (lv_at hl 0 rfl) ?_
        refine va_get (D := D) (ci := 6) (v := .int (iI 1)) (C := RX7) (T := TX7) (N := 19) hx hb hts hinX7 hown hK hP 0 rfl rfl 6 (by decide) hm0 (fun _ h9 => h9) rfl dX7_removeTrail_18 ?_
        refine k_if_eq (tgt := 26) hx hb dX7_removeTrail_21 (by decide) (by omega) (fun c_10 => ?_) (fun c_10 => ?_)
        · exfalso; omega
        · skip
          refine k_iconst hx hb dX7_removeTrail_24 ?_
          exact W.iret (v := iI 0) hx hb hr (fun t9 ht _ => ⟨⟨iI 0, (upr R 0 (ups (R 0) 6 1)), rfl, ⟨0, rfl, (by first | exact Or.inl ⟨(by omega), (by first | rfl | omega), rfl⟩ | exact Or.inr (⟨(by omega), (by first | rfl | omega), (by rw [show (R 1) = (tRT (R 1) t) from by have e9 : k = 14 + 37 * (R 1 12 - 1) := (by omega); subst e9; rfl])⟩) : ((¬ (0 ≤ t ∧ t < R 1 12)) ∧ (0 : Int) = 0 ∧ (upr R 0 (ups (R 0) 6 1)) = (upr R 0 (ups (R 0) 6 1))) ∨ ((0 ≤ t ∧ t < R 1 12) ∧ (0 : Int) = R 1 12 - 1 ∧ (upr R 0 (ups (R 0) 6 1)) = (upr (upr (upr R 0 (ups (ups (R 0) 6 0) 2 (kpN (R 0 2)))) 1 (tRT (R 1) t)) 2 (kpS (R 2) (R 1) (R 0 2)))))⟩, by rw [ht]; exact hP, hD⟩, hS.F ht⟩) hS.2.2 dX7_removeTrail_25 hlocks
      · exfalso; omega
  exact hbody s.heap [] hP hS ls hl
set_option maxHeartbeats 4000000 in
set_option maxRecDepth 100000 in
theorem c_X7_removeStar (l : Launch) (D : va_G) (cy : Nat → ClassId) (sz : Nat) (a : Nat → Nat) (R : Nat → Int → Int) (u : Int) (hI : Inv (R 1)) (hsc : 0 ≤ R 0 2 ∧ R 0 2 ≤ 4) (hru : -2147483648 ≤ u ∧ u ≤ 2147483647) : Met l yX7_removeStar wsX7_removeStar { frames := 2, cells := 0, slots := 0, locals := 43 } (mPre (GG D cy) D (rfW cy a R) sz ([.ref (a 0), .int (iI u)] : List Value)) (kQi D (rfW cy a R) sz (fun u9 : Nat → Int → Int => rfW cy a u9) (fun r9 u9 => ((¬ (0 ≤ u ∧ u < R 1 13)) ∧ r9 = 0 ∧ u9 = (upr R 0 (ups (R 0) 6 1))) ∨ ((0 ≤ u ∧ u < R 1 13) ∧ r9 = R 1 13 - 1 ∧ u9 = (upr (upr (upr R 0 (ups (ups (R 0) 6 0) 2 (kpN (R 0 2)))) 1 (tRS (R 1) u)) 2 (kpS (R 2) (R 1) (R 0 2)))))) 0 0 (va_A (rfW cy a R) sz) := by
  refine kM_start (cc := cX7_removeStar) (maxL := 3) (ret := (some .int)) (by decide) rfl (Nat.le_of_ble_eq_true rfl) ?_
  intro p e s m below meth c hx hb hr hlocks hml hts hown hsz hA hG hP hD hS hin ls hl
  have hK := hG.1
  have hl : lv_has ls 3 [(0, .ref (a 0)), (1, .int (iI u))] := hl
  have hinX7 : ∀ w ∈ u_ws RX7 TX7 19, w ∈ wsX7_removeStar := by decide +kernel
  have hm0 := hts (.fieldLink RX7 31 "ArcPlateModel" "code" "I") (by decide +kernel)
  have hm1 := hts (.fieldLink RX7 7 "ArcPlateModel" "m" "[I") (by decide +kernel)
  have h12 := inv_S12 hI
  have hbody : ∀ (H : Heap) (locs : List Loc) (hP : va_P D vwCl (rfW cy a R) H) (hS : va_S (va_A (rfW cy a R) sz) s.heap H locs) (ls : Array Slot) (hl : lv_has ls 3 [(0, .ref (a 0)), (1, .int (iI u))]), W p l e { frames := 2, cells := 0, slots := 0, locals := 43 } s m ([.ref (a 0), .int (iI u)] : List Value).toArray below meth c H locs 0 0 (MQ below (kQi D (rfW cy a R) sz (fun u9 : Nat → Int → Int => rfW cy a u9) (fun r9 u9 => ((¬ (0 ≤ u ∧ u < R 1 13)) ∧ r9 = 0 ∧ u9 = (upr R 0 (ups (R 0) 6 1))) ∨ ((0 ≤ u ∧ u < R 1 13) ∧ r9 = R 1 13 - 1 ∧ u9 = (upr (upr (upr R 0 (ups (ups (R 0) 6 0) 2 (kpN (R 0 2)))) 1 (tRS (R 1) u)) 2 (kpS (R 2) (R 1) (R 0 2)))))) ([.ref (a 0), .int (iI u)] : List Value).toArray s 0 0 (va_A (rfW cy a R) sz)) (F0 m 0 ls []) := by
    intro H locs hP hS ls hl
    refine lv_aload_n hx hb dX7_removeStar_0 rfl (lv_at hl 0 rfl) ?_
    refine lv_aload_n hx hb dX7_removeStar_1 rfl (lv_at hl 0 rfl) ?_
    refine lv_iload_n hx hb dX7_removeStar_2 rfl (lv_at hl 1 rfl) ?_
    refine k_roV (As := [.int (iI u)]) (rest := [.ref (a 0)]) ⟨hx, hb, hml, hown, hts⟩ (c_X7_isStar l D cy a R u hI (show -2147483648 ≤ u ∧ u ≤ 2147483647 by omega)) gX7_removeStar_X7_isStar rfl ⟨rfl, rfl⟩ 1 rfl (by decide +kernel) ⟨Nat.le_of_ble_eq_true rfl, Nat.le_of_ble_eq_true rfl⟩ (GG_ok D cy) ((GG_ok D cy).2.2.2 _ _ _ _ (fun _ h => h.elim) ((GG_ok D cy).1 _ _ _ _ hS.2.1 hG)) hP (va_recv hK hP (ci := 6) (q0 := 0) rfl rfl) hl.1 rfl (Nat.le_of_ble_eq_true rfl) ⟨Nat.le_of_ble_eq_true rfl, Nat.le_of_ble_eq_true rfl⟩ dX7_removeStar_3 (fun r_1 hr_1 => ?_)
    have hr_1 : ((0 ≤ u ∧ u < R 1 13) ∧ r_1 = 1) ∨ (¬ (0 ≤ u ∧ u < R 1 13) ∧ r_1 = 0) := hr_1
    rcases hr_1 with ⟨c_2, hr_1⟩ | ⟨c_2, hr_1⟩ <;> subst hr_1
    · skip
      refine k_if_eq (tgt := 13) hx hb dX7_removeStar_6 (by decide) (by omega) (fun c_3 => ?_) (fun c_3 => ?_)
      · exfalso; omega
      · skip
        refine k_iconst hx hb dX7_removeStar_9 ?_
        refine lv_goto (tgt := 14) hx hb dX7_removeStar_10 (by decide) ?_
        refine va_put (D := D) (ci := 6) (v := .int (iI 0)) (ty := .int) (C := RX7) (T := TX7) (N := 19) hx hb hts hinX7 tyX7 tyX7_ok nmX7 hown hK hP hD hS 0 rfl rfl 6 (by decide) hm0 (fun _ h9 => h9) rfl (by decide +kernel) rfl rfl (Nat.le_of_ble_eq_true rfl) dX7_removeStar_14 (fun H locs hP hD hS => ?_)
        have hP : va_P D vwCl (rfW cy a (upr R 0 (ups (R 0) 6 0))) H := hP
        have hD : va_D (va_A (rfW cy a R) sz) (rfW cy a (upr R 0 (ups (R 0) 6 0))) := hD
        refine lv_aload_n hx hb dX7_removeStar_17 rfl (lv_at hl 0 rfl) ?_
        refine va_get (D := D) (ci := 6) (v := .int (iI 0)) (C := RX7) (T := TX7) (N := 19) hx hb hts hinX7 hown hK hP 0 rfl rfl 6 (by decide) hm0 (fun _ h9 => h9) rfl dX7_removeStar_18 ?_
        refine k_if_eq (tgt := 26) hx hb dX7_removeStar_21 (by decide) (by omega) (fun c_4 => ?_) (fun c_4 => ?_)
        · skip
          refine lv_aload_n hx hb dX7_removeStar_26 rfl (lv_at hl 0 rfl) ?_
          refine k_muv (k_runV (As := []) (rest := []) ⟨hx, hb, hml, hown, hts⟩ (c_X7_keep l D cy H.size a (upr R 0 (ups (R 0) 6 0)) (show 0 ≤ (R 0 2) ∧ (R 0 2) ≤ 4 by omega)) gX7_removeStar_X7_keep rfl ⟨rfl, rfl⟩ 0 rfl (by decide +kernel) ⟨Nat.le_of_ble_eq_true rfl, Nat.le_of_ble_eq_true rfl⟩ (GG_ok D cy) hG hS (k_free hD hS hA) hP hD (va_recv hK hP (ci := 6) (q0 := 0) rfl rfl) hl.1 rfl (Nat.le_of_ble_eq_true rfl) ⟨Nat.le_of_ble_eq_true rfl, Nat.le_of_ble_eq_true rfl⟩ dX7_removeStar_27) (k_free hD hS hA) hS (fun R_6 H1 locs1 hR_6 hP1 hD1 hS1 hk1 => ?_)
          have hR_6 : R_6 = (upr (upr (upr R 0 (ups (R 0) 6 0)) 0 (ups ((ups (R 0) 6 0)) 2 (kpN ((R 0 2))))) 2 (kpS ((R 2)) ((R 1)) ((R 0 2)))) := hR_6
          subst hR_6
          have hDn : va_D (va_A (rfW cy a R) sz) (rfW cy a (upr (upr R 0 (ups ((ups (R 0) 6 0)) 2 (kpN ((R 0 2))))) 2 (kpS ((R 2)) ((R 1)) ((R 0 2))))) := k_addr hD rfl
          have hPn : va_P D vwCl (rfW cy a (upr (upr R 0 (ups ((ups (R 0) 6 0)) 2 (kpN ((R 0 2))))) 2 (kpS ((R 2)) ((R 1)) ((R 0 2))))) H1 := hP1
          clear hP hD hS hP1 hD1 hk1
          have hP := hPn
          have hD := hDn
          have hS := hS1
          clear hPn hDn hS1
          generalize H1 = H at hP hS ⊢
          generalize locs1 = locs at hS ⊢
          refine lv_aload_n hx hb dX7_removeStar_30 rfl (lv_at hl 0 rfl) ?_
          refine va_get (D := D) (ci := 6) (v := .ref (a 1)) (C := RX7) (T := TX7) (N := 19) hx hb hts hinX7 hown hK hP 0 rfl rfl 0 (by decide) hm1 (fun _ h9 => h9) rfl dX7_removeStar_31 ?_
          refine k_bipush hx hb dX7_removeStar_34 (by decide +kernel) ?_
          refine lv_dup2_11 hx hb dX7_removeStar_36 rfl rfl ?_
          refine k_iald hx hb hK hP 1 0 (f := R 1) rfl rfl (i := 13) (by omega) dX7_removeStar_37 ?_
          refine k_iconst hx hb dX7_removeStar_38 ?_
          refine k_isub hx hb dX7_removeStar_39 ?_
          refine k_iast hx hb hK hP hD hS 1 0 (f := R 1) rfl rfl (i := 13) (x := (R 1 13) - 1) (by omega) dX7_removeStar_40 (fun H locs hP hD hS => ?_)
          have hP : va_P D vwCl (rfW cy a (upr (upr (upr R 0 (ups ((ups (R 0) 6 0)) 2 (kpN ((R 0 2))))) 1 (ups (R 1) 13 ((R 1 13) - 1))) 2 (kpS ((R 2)) ((R 1)) ((R 0 2))))) H := hP
          have hD : va_D (va_A (rfW cy a R) sz) (rfW cy a (upr (upr (upr R 0 (ups ((ups (R 0) 6 0)) 2 (kpN ((R 0 2))))) 1 (ups (R 1) 13 ((R 1 13) - 1))) 2 (kpS ((R 2)) ((R 1)) ((R 0 2))))) := hD
          refine k_sipush hx hb dX7_removeStar_41 (by decide +kernel) ?_
          refine k_iconst hx hb dX7_removeStar_44 ?_
          refine lv_iload_n hx hb dX7_removeStar_45 rfl (lv_at hl 1 rfl) ?_
          refine k_imul hx hb dX7_removeStar_46 ?_
          refine k_iadd hx hb dX7_removeStar_47 ?_
          refine lv_istore_n (lv' := [(2, .int (iI (458 + (3 * u)))), (0, .ref (a 0)), (1, .int (iI u))]) hx hb dX7_removeStar_48 rfl hl (by decide) rfl (fun ls hl => ?_)
          have loop49 : ∀ (n_7 : Nat) (k : Int) (hi0 : 458 + 3 * u ≤ k) (hi1 : k ≤ 458 + 3 * (R 1 13 - 1)) (hn : 458 + 3 * (R 1 13 - 1) - k < (n_7 : Int)) (H : Heap) (locs : List Loc) (hP : va_P D vwCl (rfW cy a (upr (upr (upr R 0 (ups ((ups (R 0) 6 0)) 2 (kpN ((R 0 2))))) 1 (shf (ups (R 1) 13 (R 1 13 - 1)) (458 + 3 * u) k 3)) 2 (kpS ((R 2)) ((R 1)) ((R 0 2))))) H) (hD : va_D (va_A (rfW cy a R) sz) (rfW cy a (upr (upr (upr R 0 (ups ((ups (R 0) 6 0)) 2 (kpN ((R 0 2))))) 1 (shf (ups (R 1) 13 (R 1 13 - 1)) (458 + 3 * u) k 3)) 2 (kpS ((R 2)) ((R 1)) ((R 0 2)))))) (hS : va_S (va_A (rfW cy a R) sz) s.heap H locs) (ls : Array Slot) (hl : lv_has ls 3 [(2, .int (iI k)), (0, .ref (a 0)), (1, .int (iI u))]), W p l e { frames := 2, cells := 0, slots := 0, locals := 43 } s m ([.ref (a 0), .int (iI u)] : List Value).toArray below meth c H locs 0 0 (MQ below (kQi D (rfW cy a R) sz (fun u9 : Nat → Int → Int => rfW cy a u9) (fun r9 u9 => ((¬ (0 ≤ u ∧ u < R 1 13)) ∧ r9 = 0 ∧ u9 = (upr R 0 (ups (R 0) 6 1))) ∨ ((0 ≤ u ∧ u < R 1 13) ∧ r9 = R 1 13 - 1 ∧ u9 = (upr (upr (upr R 0 (ups (ups (R 0) 6 0) 2 (kpN (R 0 2)))) 1 (tRS (R 1) u)) 2 (kpS (R 2) (R 1) (R 0 2)))))) ([.ref (a 0), .int (iI u)] : List Value).toArray s 0 0 (va_A (rfW cy a R) sz)) (F0 m 49 ls []) := by
            intro n_7
            induction n_7 with
            | zero => intro k hi0 hi1 hn H locs hP hD hS ls hl; exfalso; omega
            | succ n_7 ih49 =>
              intro k hi0 hi1 hn H locs hP hD hS ls hl
              refine lv_iload_n hx hb dX7_removeStar_49 rfl (lv_at hl 0 rfl) ?_
              refine k_sipush hx hb dX7_removeStar_50 (by decide +kernel) ?_
              refine k_iconst hx hb dX7_removeStar_53 ?_
              refine lv_aload_n hx hb dX7_removeStar_54 rfl (lv_at hl 1 rfl) ?_
              refine va_get (D := D) (ci := 6) (v := .ref (a 1)) (C := RX7) (T := TX7) (N := 19) hx hb hts hinX7 hown hK hP 0 rfl rfl 0 (by decide) hm1 (fun _ h9 => h9) rfl dX7_removeStar_55 ?_
              refine k_bipush hx hb dX7_removeStar_58 (by decide +kernel) ?_
              refine k_iald hx hb hK hP 1 0 (f := shf (ups (R 1) 13 (R 1 13 - 1)) (458 + 3 * u) k 3) rfl rfl (i := 13) (by omega) dX7_removeStar_60 ?_
              refine k_eqI (v := (shf (ups (R 1) 13 (R 1 13 - 1)) (458 + 3 * u) k 3) 13) (w := R 1 13 - 1) (by rw [shf_lo _ (by omega), ups_eq]) ?_
              refine k_imul hx hb dX7_removeStar_61 ?_
              refine k_iadd hx hb dX7_removeStar_62 ?_
              refine k_icmp_ge (tgt := 86) hx hb dX7_removeStar_63 (by decide) (by omega) (by omega) (fun c_8 => ?_) (fun c_8 => ?_)
              · skip
                refine lv_aload_n hx hb dX7_removeStar_86 rfl (lv_at hl 1 rfl) ?_
                refine va_get (D := D) (ci := 6) (v := .ref (a 1)) (C := RX7) (T := TX7) (N := 19) hx hb hts hinX7 hown hK hP 0 rfl rfl 0 (by decide) hm1 (fun _ h9 => h9) rfl dX7_removeStar_87 ?_
                refine k_bipush hx hb dX7_removeStar_90 (by decide +kernel) ?_
                refine k_iald hx hb hK hP 1 0 (f := shf (ups (R 1) 13 (R 1 13 - 1)) (458 + 3 * u) k 3) rfl rfl (i := 13) (by omega) dX7_removeStar_92 ?_
                refine k_eqI (v := (shf (ups (R 1) 13 (R 1 13 - 1)) (458 + 3 * u) k 3) 13) (w := R 1 13 - 1) (by rw [shf_lo _ (by omega), ups_eq]) ?_
                exact W.iret (v := iI (R 1 13 - 1)) hx hb hr (fun t9 ht _ => ⟨⟨iI (R 1 13 - 1), (upr (upr (upr R 0 (ups ((ups (R 0) 6 0)) 2 (kpN ((R 0 2))))) 1 (shf (ups (R 1) 13 (R 1 13 - 1)) (458 + 3 * u) k 3)) 2 (kpS ((R 2)) ((R 1)) ((R 0 2)))), rfl, ⟨(R 1 13 - 1), rfl, (by first | exact Or.inl ⟨(by omega), (by first | rfl | omega), (by rw [show (shf (ups (R 1) 13 (R 1 13 - 1)) (458 + 3 * u) k 3) = (R 1) from by have e9 : k = 458 + 3 * (R 1 13 - 1) := (by omega); subst e9; rfl]; exact upr_back)⟩ | exact Or.inr (⟨(by omega), (by first | rfl | omega), (by rw [show (shf (ups (R 1) 13 (R 1 13 - 1)) (458 + 3 * u) k 3) = (tRS (R 1) u) from by have e9 : k = 458 + 3 * (R 1 13 - 1) := (by omega); subst e9; rfl])⟩) : ((¬ (0 ≤ u ∧ u < R 1 13)) ∧ (R 1 13 - 1 : Int) = 0 ∧ (upr (upr (upr R 0 (ups ((ups (R 0) 6 0)) 2 (kpN ((R 0 2))))) 1 (shf (ups (R 1) 13 (R 1 13 - 1)) (458 + 3 * u) k 3)) 2 (kpS ((R 2)) ((R 1)) ((R 0 2)))) = (upr R 0 (ups (R 0) 6 1))) ∨ ((0 ≤ u ∧ u < R 1 13) ∧ (R 1 13 - 1 : Int) = R 1 13 - 1 ∧ (upr (upr (upr R 0 (ups ((ups (R 0) 6 0)) 2 (kpN ((R 0 2))))) 1 (shf (ups (R 1) 13 (R 1 13 - 1)) (458 + 3 * u) k 3)) 2 (kpS ((R 2)) ((R 1)) ((R 0 2)))) = (upr (upr (upr R 0 (ups (ups (R 0) 6 0) 2 (kpN (R 0 2)))) 1 (tRS (R 1) u)) 2 (kpS (R 2) (R 1) (R 0 2)))))⟩, by rw [ht]; exact hP, hD⟩, hS.F ht⟩) hS.2.2 dX7_removeStar_93 hlocks
              · skip
                refine lv_aload_n hx hb dX7_removeStar_66 rfl (lv_at hl 1 rfl) ?_
                refine va_get (D := D) (ci := 6) (v := .ref (a 1)) (C := RX7) (T := TX7) (N := 19) hx hb hts hinX7 hown hK hP 0 rfl rfl 0 (by decide) hm1 (fun _ h9 => h9) rfl dX7_removeStar_67 ?_
                refine lv_iload_n hx hb dX7_removeStar_70 rfl (lv_at hl 0 rfl) ?_
                refine lv_aload_n hx hb dX7_removeStar_71 rfl (lv_at hl 1 rfl) ?_
                refine va_get (D := D) (ci := 6) (v := .ref (a 1)) (C := RX7) (T := TX7) (N := 19) hx hb hts hinX7 hown hK hP 0 rfl rfl 0 (by decide) hm1 (fun _ h9 => h9) rfl dX7_removeStar_72 ?_
                refine lv_iload_n hx hb dX7_removeStar_75 rfl (lv_at hl 0 rfl) ?_
                refine k_iconst hx hb dX7_removeStar_76 ?_
                refine k_iadd hx hb dX7_removeStar_77 ?_
                refine k_iald hx hb hK hP 1 0 (f := shf (ups (R 1) 13 (R 1 13 - 1)) (458 + 3 * u) k 3) rfl rfl (i := k + 3) (by omega) dX7_removeStar_78 ?_
                refine k_iast hx hb hK hP hD hS 1 0 (f := shf (ups (R 1) 13 (R 1 13 - 1)) (458 + 3 * u) k 3) rfl rfl (i := k) (x := (shf (ups (R 1) 13 (R 1 13 - 1)) (458 + 3 * u) k 3) (k + 3)) (by omega) dX7_removeStar_79 (fun H locs hP hD hS => ?_)
                have hP : va_P D vwCl (rfW cy a (upr (upr (upr R 0 (ups ((ups (R 0) 6 0)) 2 (kpN ((R 0 2))))) 1 (ups (shf (ups (R 1) 13 (R 1 13 - 1)) (458 + 3 * u) k 3) k ((shf (ups (R 1) 13 (R 1 13 - 1)) (458 + 3 * u) k 3) (k + 3)))) 2 (kpS ((R 2)) ((R 1)) ((R 0 2))))) H := hP
                have hD : va_D (va_A (rfW cy a R) sz) (rfW cy a (upr (upr (upr R 0 (ups ((ups (R 0) 6 0)) 2 (kpN ((R 0 2))))) 1 (ups (shf (ups (R 1) 13 (R 1 13 - 1)) (458 + 3 * u) k 3) k ((shf (ups (R 1) 13 (R 1 13 - 1)) (458 + 3 * u) k 3) (k + 3)))) 2 (kpS ((R 2)) ((R 1)) ((R 0 2))))) := hD
                refine lv_iinc (v := iI (k + 1)) (lv' := [(2, .int (iI (k + 1))), (0, .ref (a 0)), (1, .int (iI u))]) hx hb dX7_removeStar_80 hl (k := 0) rfl (iI_add _ _) (by decide) rfl (fun ls hl => ?_)
                refine lv_goto (tgt := 49) hx hb dX7_removeStar_83 (by decide) ?_
                exact ih49 (k + 1)  (by omega) (by omega) (by omega) H locs (by rw [show (shf (ups (R 1) 13 (R 1 13 - 1)) (458 + 3 * u) (k + 1) 3) = (ups (shf (ups (R 1) 13 (R 1 13 - 1)) (458 + 3 * u) k 3) k ((shf (ups (R 1) 13 (R 1 13 - 1)) (458 + 3 * u) k 3) (k + 3))) from shf_s _ hi0 (by omega)]; exact hP) (k_addr hD rfl) hS ls (lv_sub hl [0, 1, 2] rfl)
          exact loop49 ((458 + 3 * (R 1 13 - 1) - (458 + 3 * u) : Int) + 1).toNat (458 + 3 * u)  (by omega) (by omega) (by omega) H locs (by rw [show (shf (ups (R 1) 13 (R 1 13 - 1)) (458 + 3 * u) (458 + 3 * u) 3) = (ups (R 1) 13 ((R 1 13) - 1)) from shf_0 _ _ (by omega)]; exact hP) (k_addr hD rfl) hS ls (lv_sub hl [0, 1, 2] rfl)
        · exfalso; omega
    · skip
      refine k_if_eq (tgt := 13) hx hb dX7_removeStar_6 (by decide) (by omega) (fun c_9 => ?_) (fun c_9 => ?_)
      · skip
        refine k_iconst hx hb dX7_removeStar_13 ?_
        refine va_put (D := D) (ci := 6) (v := .int (iI 1)) (ty := .int) (C := RX7) (T := TX7) (N := 19) hx hb hts hinX7 tyX7 tyX7_ok nmX7 hown hK hP hD hS 0 rfl rfl 6 (by decide) hm0 (fun _ h9 => h9) rfl (by decide +kernel) rfl rfl (Nat.le_of_ble_eq_true rfl) dX7_removeStar_14 (fun H locs hP hD hS => ?_)
        have hP : va_P D vwCl (rfW cy a (upr R 0 (ups (R 0) 6 1))) H := hP
        have hD : va_D (va_A (rfW cy a R) sz) (rfW cy a (upr R 0 (ups (R 0) 6 1))) := hD
        refine lv_aload_n hx hb dX7_removeStar_17 rfl (lv_at hl 0 rfl) ?_
        refine va_get (D := D) (ci := 6) (v := .int (iI 1)) (C := RX7) (T := TX7) (N := 19) hx hb hts hinX7 hown hK hP 0 rfl rfl 6 (by decide) hm0 (fun _ h9 => h9) rfl dX7_removeStar_18 ?_
        refine k_if_eq (tgt := 26) hx hb dX7_removeStar_21 (by decide) (by omega) (fun c_10 => ?_) (fun c_10 => ?_)
        · exfalso; omega
        · skip
          refine k_iconst hx hb dX7_removeStar_24 ?_
          exact W.iret (v := iI 0) hx hb hr (fun t9 ht _ => ⟨⟨iI 0, (upr R 0 (ups (R 0) 6 1)), rfl, ⟨0, rfl, (by first | exact Or.inl ⟨(by omega), (by first | rfl | omega), rfl⟩ | exact Or.inr (⟨(by omega), (by first | rfl | omega), (by rw [show (R 1) = (tRS (R 1) u) from by have e9 : k = 458 + 3 * (R 1 13 - 1) := (by omega); subst e9; rfl])⟩) : ((¬ (0 ≤ u ∧ u < R 1 13)) ∧ (0 : Int) = 0 ∧ (upr R 0 (ups (R 0) 6 1)) = (upr R 0 (ups (R 0) 6 1))) ∨ ((0 ≤ u ∧ u < R 1 13) ∧ (0 : Int) = R 1 13 - 1 ∧ (upr R 0 (ups (R 0) 6 1)) = (upr (upr (upr R 0 (ups (ups (R 0) 6 0) 2 (kpN (R 0 2)))) 1 (tRS (R 1) u)) 2 (kpS (R 2) (R 1) (R 0 2)))))⟩, by rw [ht]; exact hP, hD⟩, hS.F ht⟩) hS.2.2 dX7_removeStar_25 hlocks
      · exfalso; omega
  exact hbody s.heap [] hP hS ls hl
set_option maxHeartbeats 4000000 in
set_option maxRecDepth 100000 in
theorem c_X7_removePoint (l : Launch) (D : va_G) (cy : Nat → ClassId) (sz : Nat) (a : Nat → Nat) (R : Nat → Int → Int) (t q : Int) (hI : Inv (R 1)) (hsc : 0 ≤ R 0 2 ∧ R 0 2 ≤ 4) (hrt : -2147483648 ≤ t ∧ t ≤ 2147483647) (hrq : -2147483648 ≤ q ∧ q ≤ 2147483647) : Met l yX7_removePoint wsX7_removePoint { frames := 3, cells := 0, slots := 0, locals := 65 } (mPre (GG D cy) D (rfW cy a R) sz ([.ref (a 0), .int (iI t), .int (iI q)] : List Value)) (kQi D (rfW cy a R) sz (fun u9 : Nat → Int → Int => rfW cy a u9) (fun r9 u9 => ((¬ ((0 ≤ t ∧ t < R 1 12) ∧ 0 ≤ q ∧ q < pts (R 1) t)) ∧ r9 = 0 ∧ u9 = (upr R 0 (ups (R 0) 6 1))) ∨ (((0 ≤ t ∧ t < R 1 12) ∧ 0 ≤ q ∧ q < pts (R 1) t) ∧ r9 = pts (R 1) t - 1 ∧ u9 = (upr (upr (upr R 0 (ups (ups (R 0) 6 0) 2 (kpN (R 0 2)))) 1 (tRP (R 1) t q)) 2 (kpS (R 2) (R 1) (R 0 2)))))) 0 0 (va_A (rfW cy a R) sz) := by
  refine kM_start (cc := cX7_removePoint) (maxL := 4) (ret := (some .int)) (by decide) rfl (Nat.le_of_ble_eq_true rfl) ?_
  intro p e s m below meth c hx hb hr hlocks hml hts hown hsz hA hG hP hD hS hin ls hl
  have hK := hG.1
  have hl : lv_has ls 4 [(0, .ref (a 0)), (1, .int (iI t)), (2, .int (iI q))] := hl
  have hinX7 : ∀ w ∈ u_ws RX7 TX7 19, w ∈ wsX7_removePoint := by decide +kernel
  have hm0 := hts (.fieldLink RX7 31 "ArcPlateModel" "code" "I") (by decide +kernel)
  have hm1 := hts (.fieldLink RX7 7 "ArcPlateModel" "m" "[I") (by decide +kernel)
  have h12 := inv_S12 hI
  have hbody : ∀ (H : Heap) (locs : List Loc) (hP : va_P D vwCl (rfW cy a R) H) (hS : va_S (va_A (rfW cy a R) sz) s.heap H locs) (ls : Array Slot) (hl : lv_has ls 4 [(0, .ref (a 0)), (1, .int (iI t)), (2, .int (iI q))]), W p l e { frames := 3, cells := 0, slots := 0, locals := 65 } s m ([.ref (a 0), .int (iI t), .int (iI q)] : List Value).toArray below meth c H locs 0 0 (MQ below (kQi D (rfW cy a R) sz (fun u9 : Nat → Int → Int => rfW cy a u9) (fun r9 u9 => ((¬ ((0 ≤ t ∧ t < R 1 12) ∧ 0 ≤ q ∧ q < pts (R 1) t)) ∧ r9 = 0 ∧ u9 = (upr R 0 (ups (R 0) 6 1))) ∨ (((0 ≤ t ∧ t < R 1 12) ∧ 0 ≤ q ∧ q < pts (R 1) t) ∧ r9 = pts (R 1) t - 1 ∧ u9 = (upr (upr (upr R 0 (ups (ups (R 0) 6 0) 2 (kpN (R 0 2)))) 1 (tRP (R 1) t q)) 2 (kpS (R 2) (R 1) (R 0 2)))))) ([.ref (a 0), .int (iI t), .int (iI q)] : List Value).toArray s 0 0 (va_A (rfW cy a R) sz)) (F0 m 0 ls []) := by
    intro H locs hP hS ls hl
    refine lv_aload_n hx hb dX7_removePoint_0 rfl (lv_at hl 0 rfl) ?_
    refine lv_aload_n hx hb dX7_removePoint_1 rfl (lv_at hl 0 rfl) ?_
    refine lv_iload_n hx hb dX7_removePoint_2 rfl (lv_at hl 1 rfl) ?_
    refine lv_iload_n hx hb dX7_removePoint_3 rfl (lv_at hl 2 rfl) ?_
    refine k_roV (As := [.int (iI t), .int (iI q)]) (rest := [.ref (a 0)]) ⟨hx, hb, hml, hown, hts⟩ (c_X7_isPoint l D cy a R t q hI (show -2147483648 ≤ t ∧ t ≤ 2147483647 by omega) (show -2147483648 ≤ q ∧ q ≤ 2147483647 by omega)) gX7_removePoint_X7_isPoint rfl ⟨rfl, rfl⟩ 2 rfl (by decide +kernel) ⟨Nat.le_of_ble_eq_true rfl, Nat.le_of_ble_eq_true rfl⟩ (GG_ok D cy) ((GG_ok D cy).2.2.2 _ _ _ _ (fun _ h => h.elim) ((GG_ok D cy).1 _ _ _ _ hS.2.1 hG)) hP (va_recv hK hP (ci := 6) (q0 := 0) rfl rfl) hl.1 rfl (Nat.le_of_ble_eq_true rfl) ⟨Nat.le_of_ble_eq_true rfl, Nat.le_of_ble_eq_true rfl⟩ dX7_removePoint_4 (fun r_1 hr_1 => ?_)
    have hr_1 : (((0 ≤ t ∧ t < R 1 12) ∧ 0 ≤ q ∧ q < pts (R 1) t) ∧ r_1 = 1) ∨ (¬ ((0 ≤ t ∧ t < R 1 12) ∧ 0 ≤ q ∧ q < pts (R 1) t) ∧ r_1 = 0) := hr_1
    rcases hr_1 with ⟨c_2, hr_1⟩ | ⟨c_2, hr_1⟩ <;> subst hr_1
    · skip
      have hp := inv_pts hI c_2.1.1 c_2.1.2
      have hc1 := cel_eq t q
      have hc2 := cel_eq t (pts (R 1) t - 1)
      refine k_if_eq (tgt := 14) hx hb dX7_removePoint_7 (by decide) (by omega) (fun c_3 => ?_) (fun c_3 => ?_)
      · exfalso; omega
      · skip
        refine k_iconst hx hb dX7_removePoint_10 ?_
        refine lv_goto (tgt := 15) hx hb dX7_removePoint_11 (by decide) ?_
        refine va_put (D := D) (ci := 6) (v := .int (iI 0)) (ty := .int) (C := RX7) (T := TX7) (N := 19) hx hb hts hinX7 tyX7 tyX7_ok nmX7 hown hK hP hD hS 0 rfl rfl 6 (by decide) hm0 (fun _ h9 => h9) rfl (by decide +kernel) rfl rfl (Nat.le_of_ble_eq_true rfl) dX7_removePoint_15 (fun H locs hP hD hS => ?_)
        have hP : va_P D vwCl (rfW cy a (upr R 0 (ups (R 0) 6 0))) H := hP
        have hD : va_D (va_A (rfW cy a R) sz) (rfW cy a (upr R 0 (ups (R 0) 6 0))) := hD
        refine lv_aload_n hx hb dX7_removePoint_18 rfl (lv_at hl 0 rfl) ?_
        refine va_get (D := D) (ci := 6) (v := .int (iI 0)) (C := RX7) (T := TX7) (N := 19) hx hb hts hinX7 hown hK hP 0 rfl rfl 6 (by decide) hm0 (fun _ h9 => h9) rfl dX7_removePoint_19 ?_
        refine k_if_eq (tgt := 27) hx hb dX7_removePoint_22 (by decide) (by omega) (fun c_4 => ?_) (fun c_4 => ?_)
        · skip
          refine lv_aload_n hx hb dX7_removePoint_27 rfl (lv_at hl 0 rfl) ?_
          refine k_muv (k_runV (As := []) (rest := []) ⟨hx, hb, hml, hown, hts⟩ (c_X7_keep l D cy H.size a (upr R 0 (ups (R 0) 6 0)) (show 0 ≤ (R 0 2) ∧ (R 0 2) ≤ 4 by omega)) gX7_removePoint_X7_keep rfl ⟨rfl, rfl⟩ 0 rfl (by decide +kernel) ⟨Nat.le_of_ble_eq_true rfl, Nat.le_of_ble_eq_true rfl⟩ (GG_ok D cy) hG hS (k_free hD hS hA) hP hD (va_recv hK hP (ci := 6) (q0 := 0) rfl rfl) hl.1 rfl (Nat.le_of_ble_eq_true rfl) ⟨Nat.le_of_ble_eq_true rfl, Nat.le_of_ble_eq_true rfl⟩ dX7_removePoint_28) (k_free hD hS hA) hS (fun R_6 H1 locs1 hR_6 hP1 hD1 hS1 hk1 => ?_)
          have hR_6 : R_6 = (upr (upr (upr R 0 (ups (R 0) 6 0)) 0 (ups ((ups (R 0) 6 0)) 2 (kpN ((R 0 2))))) 2 (kpS ((R 2)) ((R 1)) ((R 0 2)))) := hR_6
          subst hR_6
          have hDn : va_D (va_A (rfW cy a R) sz) (rfW cy a (upr (upr R 0 (ups ((ups (R 0) 6 0)) 2 (kpN ((R 0 2))))) 2 (kpS ((R 2)) ((R 1)) ((R 0 2))))) := k_addr hD rfl
          have hPn : va_P D vwCl (rfW cy a (upr (upr R 0 (ups ((ups (R 0) 6 0)) 2 (kpN ((R 0 2))))) 2 (kpS ((R 2)) ((R 1)) ((R 0 2))))) H1 := hP1
          clear hP hD hS hP1 hD1 hk1
          have hP := hPn
          have hD := hDn
          have hS := hS1
          clear hPn hDn hS1
          generalize H1 = H at hP hS ⊢
          generalize locs1 = locs at hS ⊢
          refine lv_aload_n hx hb dX7_removePoint_31 rfl (lv_at hl 0 rfl) ?_
          refine va_get (D := D) (ci := 6) (v := .ref (a 1)) (C := RX7) (T := TX7) (N := 19) hx hb hts hinX7 hown hK hP 0 rfl rfl 0 (by decide) hm1 (fun _ h9 => h9) rfl dX7_removePoint_32 ?_
          refine k_bipush hx hb dX7_removePoint_35 (by decide +kernel) ?_
          refine k_bipush hx hb dX7_removePoint_37 (by decide +kernel) ?_
          refine lv_iload_n hx hb dX7_removePoint_39 rfl (lv_at hl 1 rfl) ?_
          refine k_imul hx hb dX7_removePoint_40 ?_
          refine k_iadd hx hb dX7_removePoint_41 ?_
          refine lv_dup2_11 hx hb dX7_removePoint_42 rfl rfl ?_
          refine k_iald hx hb hK hP 1 0 (f := R 1) rfl rfl (i := 14 + (37 * t)) (by omega) dX7_removePoint_43 ?_
          refine k_iconst hx hb dX7_removePoint_44 ?_
          refine k_isub hx hb dX7_removePoint_45 ?_
          refine k_iast hx hb hK hP hD hS 1 0 (f := R 1) rfl rfl (i := 14 + (37 * t)) (x := (R 1 (14 + (37 * t))) - 1) (by omega) dX7_removePoint_46 (fun H locs hP hD hS => ?_)
          have hP : va_P D vwCl (rfW cy a (upr (upr (upr R 0 (ups ((ups (R 0) 6 0)) 2 (kpN ((R 0 2))))) 1 (ups (R 1) (14 + (37 * t)) ((R 1 (14 + (37 * t))) - 1))) 2 (kpS ((R 2)) ((R 1)) ((R 0 2))))) H := hP
          have hD : va_D (va_A (rfW cy a R) sz) (rfW cy a (upr (upr (upr R 0 (ups ((ups (R 0) 6 0)) 2 (kpN ((R 0 2))))) 1 (ups (R 1) (14 + (37 * t)) ((R 1 (14 + (37 * t))) - 1))) 2 (kpS ((R 2)) ((R 1)) ((R 0 2))))) := hD
          refine lv_iload_n hx hb dX7_removePoint_47 rfl (lv_at hl 1 rfl) ?_
          refine lv_iload_n hx hb dX7_removePoint_48 rfl (lv_at hl 2 rfl) ?_
          refine k_roS (As := [.int (iI t), .int (iI q)]) (rest := []) ⟨hx, hb, hml, hown, hts⟩ (c_X7_cellOf l D t q ) gX7_removePoint_X7_cellOf rfl ⟨rfl, rfl⟩ 2 rfl (by decide +kernel) ⟨Nat.le_of_ble_eq_true rfl, Nat.le_of_ble_eq_true rfl⟩ kGT_ok trivial (fun k q h => by simp at h) hl.1 rfl (Nat.le_of_ble_eq_true rfl) ⟨Nat.le_of_ble_eq_true rfl, Nat.le_of_ble_eq_true rfl⟩ dX7_removePoint_49 (fun r_7 hr_7 => ?_)
          have hr_7 : r_7 = cel t q := hr_7
          subst hr_7
          have := cel_eq t q
          refine lv_istore_n (lv' := [(3, .int (iI (cel t q))), (0, .ref (a 0)), (1, .int (iI t)), (2, .int (iI q))]) hx hb dX7_removePoint_52 rfl hl (by decide) rfl (fun ls hl => ?_)
          have loop53 : ∀ (n_8 : Nat) (k : Int) (hi0 : cel t q ≤ k) (hi1 : k ≤ cel t (pts (R 1) t - 1)) (hn : cel t (pts (R 1) t - 1) - k < (n_8 : Int)) (H : Heap) (locs : List Loc) (hP : va_P D vwCl (rfW cy a (upr (upr (upr R 0 (ups ((ups (R 0) 6 0)) 2 (kpN ((R 0 2))))) 1 (shf (ups (R 1) (14 + 37 * t) (R 1 (14 + 37 * t) - 1)) (cel t q) k 3)) 2 (kpS ((R 2)) ((R 1)) ((R 0 2))))) H) (hD : va_D (va_A (rfW cy a R) sz) (rfW cy a (upr (upr (upr R 0 (ups ((ups (R 0) 6 0)) 2 (kpN ((R 0 2))))) 1 (shf (ups (R 1) (14 + 37 * t) (R 1 (14 + 37 * t) - 1)) (cel t q) k 3)) 2 (kpS ((R 2)) ((R 1)) ((R 0 2)))))) (hS : va_S (va_A (rfW cy a R) sz) s.heap H locs) (ls : Array Slot) (hl : lv_has ls 4 [(3, .int (iI k)), (0, .ref (a 0)), (1, .int (iI t)), (2, .int (iI q))]), W p l e { frames := 3, cells := 0, slots := 0, locals := 65 } s m ([.ref (a 0), .int (iI t), .int (iI q)] : List Value).toArray below meth c H locs 0 0 (MQ below (kQi D (rfW cy a R) sz (fun u9 : Nat → Int → Int => rfW cy a u9) (fun r9 u9 => ((¬ ((0 ≤ t ∧ t < R 1 12) ∧ 0 ≤ q ∧ q < pts (R 1) t)) ∧ r9 = 0 ∧ u9 = (upr R 0 (ups (R 0) 6 1))) ∨ (((0 ≤ t ∧ t < R 1 12) ∧ 0 ≤ q ∧ q < pts (R 1) t) ∧ r9 = pts (R 1) t - 1 ∧ u9 = (upr (upr (upr R 0 (ups (ups (R 0) 6 0) 2 (kpN (R 0 2)))) 1 (tRP (R 1) t q)) 2 (kpS (R 2) (R 1) (R 0 2)))))) ([.ref (a 0), .int (iI t), .int (iI q)] : List Value).toArray s 0 0 (va_A (rfW cy a R) sz)) (F0 m 53 ls []) := by
            intro n_8
            induction n_8 with
            | zero => intro k hi0 hi1 hn H locs hP hD hS ls hl; exfalso; omega
            | succ n_8 ih53 =>
              intro k hi0 hi1 hn H locs hP hD hS ls hl
              refine lv_iload_n hx hb dX7_removePoint_53 rfl (lv_at hl 0 rfl) ?_
              refine lv_iload_n hx hb dX7_removePoint_54 rfl (lv_at hl 2 rfl) ?_
              refine lv_aload_n hx hb dX7_removePoint_55 rfl (lv_at hl 1 rfl) ?_
              refine lv_iload_n hx hb dX7_removePoint_56 rfl (lv_at hl 2 rfl) ?_
              refine k_roV (As := [.int (iI t)]) (rest := [.int (iI t), .int (iI k)]) ⟨hx, hb, hml, hown, hts⟩ (c_X7_points l D cy a (upr (upr (upr R 0 (ups ((ups (R 0) 6 0)) 2 (kpN ((R 0 2))))) 1 (shf (ups (R 1) (14 + 37 * t) (R 1 (14 + 37 * t) - 1)) (cel t q) k 3)) 2 (kpS ((R 2)) ((R 1)) ((R 0 2)))) t (show 0 ≤ t by omega) (show t < 12 by omega)) gX7_removePoint_X7_points rfl ⟨rfl, rfl⟩ 1 rfl (by decide +kernel) ⟨Nat.le_of_ble_eq_true rfl, Nat.le_of_ble_eq_true rfl⟩ (GG_ok D cy) ((GG_ok D cy).2.2.2 _ _ _ _ (fun _ h => h.elim) ((GG_ok D cy).1 _ _ _ _ hS.2.1 hG)) hP (va_recv hK hP (ci := 6) (q0 := 0) rfl rfl) hl.1 rfl (Nat.le_of_ble_eq_true rfl) ⟨Nat.le_of_ble_eq_true rfl, Nat.le_of_ble_eq_true rfl⟩ dX7_removePoint_57 (fun r_9 hr_9 => ?_)
              have hr_9 : r_9 = pts ((shf (ups (R 1) (14 + 37 * t) (R 1 (14 + 37 * t) - 1)) (cel t q) k 3)) t := hr_9
              subst hr_9
              refine k_eqI (v := pts ((shf (ups (R 1) (14 + 37 * t) (R 1 (14 + 37 * t) - 1)) (cel t q) k 3)) t) (w := pts (R 1) t - 1) (by unfold pts; rw [shf_lo _ (by have := cel_eq t q; omega), ups_eq]) ?_
              refine k_roS (As := [.int (iI t), .int (iI (pts (R 1) t - 1))]) (rest := [.int (iI k)]) ⟨hx, hb, hml, hown, hts⟩ (c_X7_cellOf l D t (pts (R 1) t - 1) ) gX7_removePoint_X7_cellOf rfl ⟨rfl, rfl⟩ 2 rfl (by decide +kernel) ⟨Nat.le_of_ble_eq_true rfl, Nat.le_of_ble_eq_true rfl⟩ kGT_ok trivial (fun k q h => by simp at h) hl.1 rfl (Nat.le_of_ble_eq_true rfl) ⟨Nat.le_of_ble_eq_true rfl, Nat.le_of_ble_eq_true rfl⟩ dX7_removePoint_60 (fun r_10 hr_10 => ?_)
              have hr_10 : r_10 = cel t (pts (R 1) t - 1) := hr_10
              subst hr_10
              have := cel_eq t (pts (R 1) t - 1)
              refine k_icmp_ge (tgt := 86) hx hb dX7_removePoint_63 (by decide) (by omega) (by omega) (fun c_11 => ?_) (fun c_11 => ?_)
              · skip
                refine lv_aload_n hx hb dX7_removePoint_86 rfl (lv_at hl 1 rfl) ?_
                refine lv_iload_n hx hb dX7_removePoint_87 rfl (lv_at hl 2 rfl) ?_
                refine k_roV (As := [.int (iI t)]) (rest := []) ⟨hx, hb, hml, hown, hts⟩ (c_X7_points l D cy a (upr (upr (upr R 0 (ups ((ups (R 0) 6 0)) 2 (kpN ((R 0 2))))) 1 (shf (ups (R 1) (14 + 37 * t) (R 1 (14 + 37 * t) - 1)) (cel t q) k 3)) 2 (kpS ((R 2)) ((R 1)) ((R 0 2)))) t (show 0 ≤ t by omega) (show t < 12 by omega)) gX7_removePoint_X7_points rfl ⟨rfl, rfl⟩ 1 rfl (by decide +kernel) ⟨Nat.le_of_ble_eq_true rfl, Nat.le_of_ble_eq_true rfl⟩ (GG_ok D cy) ((GG_ok D cy).2.2.2 _ _ _ _ (fun _ h => h.elim) ((GG_ok D cy).1 _ _ _ _ hS.2.1 hG)) hP (va_recv hK hP (ci := 6) (q0 := 0) rfl rfl) hl.1 rfl (Nat.le_of_ble_eq_true rfl) ⟨Nat.le_of_ble_eq_true rfl, Nat.le_of_ble_eq_true rfl⟩ dX7_removePoint_88 (fun r_12 hr_12 => ?_)
                have hr_12 : r_12 = pts ((shf (ups (R 1) (14 + 37 * t) (R 1 (14 + 37 * t) - 1)) (cel t q) k 3)) t := hr_12
                subst hr_12
                refine k_eqI (v := pts ((shf (ups (R 1) (14 + 37 * t) (R 1 (14 + 37 * t) - 1)) (cel t q) k 3)) t) (w := pts (R 1) t - 1) (by unfold pts; rw [shf_lo _ (by have := cel_eq t q; omega), ups_eq]) ?_
                exact W.iret (v := iI (pts (R 1) t - 1)) hx hb hr (fun t9 ht _ => ⟨⟨iI (pts (R 1) t - 1), (upr (upr (upr R 0 (ups ((ups (R 0) 6 0)) 2 (kpN ((R 0 2))))) 1 (shf (ups (R 1) (14 + 37 * t) (R 1 (14 + 37 * t) - 1)) (cel t q) k 3)) 2 (kpS ((R 2)) ((R 1)) ((R 0 2)))), rfl, ⟨(pts (R 1) t - 1), rfl, (by first | exact Or.inl ⟨(by omega), (by first | rfl | omega), (by rw [show (shf (ups (R 1) (14 + 37 * t) (R 1 (14 + 37 * t) - 1)) (cel t q) k 3) = (R 1) from by have e9 : k = cel t (pts (R 1) t - 1) := (by omega); subst e9; rfl]; exact upr_back)⟩ | exact Or.inr (⟨(by omega), (by first | rfl | omega), (by rw [show (shf (ups (R 1) (14 + 37 * t) (R 1 (14 + 37 * t) - 1)) (cel t q) k 3) = (tRP (R 1) t q) from by have e9 : k = cel t (pts (R 1) t - 1) := (by omega); subst e9; rfl])⟩) : ((¬ ((0 ≤ t ∧ t < R 1 12) ∧ 0 ≤ q ∧ q < pts (R 1) t)) ∧ (pts (R 1) t - 1 : Int) = 0 ∧ (upr (upr (upr R 0 (ups ((ups (R 0) 6 0)) 2 (kpN ((R 0 2))))) 1 (shf (ups (R 1) (14 + 37 * t) (R 1 (14 + 37 * t) - 1)) (cel t q) k 3)) 2 (kpS ((R 2)) ((R 1)) ((R 0 2)))) = (upr R 0 (ups (R 0) 6 1))) ∨ (((0 ≤ t ∧ t < R 1 12) ∧ 0 ≤ q ∧ q < pts (R 1) t) ∧ (pts (R 1) t - 1 : Int) = pts (R 1) t - 1 ∧ (upr (upr (upr R 0 (ups ((ups (R 0) 6 0)) 2 (kpN ((R 0 2))))) 1 (shf (ups (R 1) (14 + 37 * t) (R 1 (14 + 37 * t) - 1)) (cel t q) k 3)) 2 (kpS ((R 2)) ((R 1)) ((R 0 2)))) = (upr (upr (upr R 0 (ups (ups (R 0) 6 0) 2 (kpN (R 0 2)))) 1 (tRP (R 1) t q)) 2 (kpS (R 2) (R 1) (R 0 2)))))⟩, by rw [ht]; exact hP, hD⟩, hS.F ht⟩) hS.2.2 dX7_removePoint_91 hlocks
              · skip
                refine lv_aload_n hx hb dX7_removePoint_66 rfl (lv_at hl 1 rfl) ?_
                refine va_get (D := D) (ci := 6) (v := .ref (a 1)) (C := RX7) (T := TX7) (N := 19) hx hb hts hinX7 hown hK hP 0 rfl rfl 0 (by decide) hm1 (fun _ h9 => h9) rfl dX7_removePoint_67 ?_
                refine lv_iload_n hx hb dX7_removePoint_70 rfl (lv_at hl 0 rfl) ?_
                refine lv_aload_n hx hb dX7_removePoint_71 rfl (lv_at hl 1 rfl) ?_
                refine va_get (D := D) (ci := 6) (v := .ref (a 1)) (C := RX7) (T := TX7) (N := 19) hx hb hts hinX7 hown hK hP 0 rfl rfl 0 (by decide) hm1 (fun _ h9 => h9) rfl dX7_removePoint_72 ?_
                refine lv_iload_n hx hb dX7_removePoint_75 rfl (lv_at hl 0 rfl) ?_
                refine k_iconst hx hb dX7_removePoint_76 ?_
                refine k_iadd hx hb dX7_removePoint_77 ?_
                refine k_iald hx hb hK hP 1 0 (f := shf (ups (R 1) (14 + 37 * t) (R 1 (14 + 37 * t) - 1)) (cel t q) k 3) rfl rfl (i := k + 3) (by omega) dX7_removePoint_78 ?_
                refine k_iast hx hb hK hP hD hS 1 0 (f := shf (ups (R 1) (14 + 37 * t) (R 1 (14 + 37 * t) - 1)) (cel t q) k 3) rfl rfl (i := k) (x := (shf (ups (R 1) (14 + 37 * t) (R 1 (14 + 37 * t) - 1)) (cel t q) k 3) (k + 3)) (by omega) dX7_removePoint_79 (fun H locs hP hD hS => ?_)
                have hP : va_P D vwCl (rfW cy a (upr (upr (upr R 0 (ups ((ups (R 0) 6 0)) 2 (kpN ((R 0 2))))) 1 (ups (shf (ups (R 1) (14 + 37 * t) (R 1 (14 + 37 * t) - 1)) (cel t q) k 3) k ((shf (ups (R 1) (14 + 37 * t) (R 1 (14 + 37 * t) - 1)) (cel t q) k 3) (k + 3)))) 2 (kpS ((R 2)) ((R 1)) ((R 0 2))))) H := hP
                have hD : va_D (va_A (rfW cy a R) sz) (rfW cy a (upr (upr (upr R 0 (ups ((ups (R 0) 6 0)) 2 (kpN ((R 0 2))))) 1 (ups (shf (ups (R 1) (14 + 37 * t) (R 1 (14 + 37 * t) - 1)) (cel t q) k 3) k ((shf (ups (R 1) (14 + 37 * t) (R 1 (14 + 37 * t) - 1)) (cel t q) k 3) (k + 3)))) 2 (kpS ((R 2)) ((R 1)) ((R 0 2))))) := hD
                refine lv_iinc (v := iI (k + 1)) (lv' := [(3, .int (iI (k + 1))), (0, .ref (a 0)), (1, .int (iI t)), (2, .int (iI q))]) hx hb dX7_removePoint_80 hl (k := 0) rfl (iI_add _ _) (by decide) rfl (fun ls hl => ?_)
                refine lv_goto (tgt := 53) hx hb dX7_removePoint_83 (by decide) ?_
                exact ih53 (k + 1)  (by omega) (by omega) (by omega) H locs (by rw [show (shf (ups (R 1) (14 + 37 * t) (R 1 (14 + 37 * t) - 1)) (cel t q) (k + 1) 3) = (ups (shf (ups (R 1) (14 + 37 * t) (R 1 (14 + 37 * t) - 1)) (cel t q) k 3) k ((shf (ups (R 1) (14 + 37 * t) (R 1 (14 + 37 * t) - 1)) (cel t q) k 3) (k + 3))) from shf_s _ hi0 (by omega)]; exact hP) (k_addr hD rfl) hS ls (lv_sub hl [0, 1, 2, 3] rfl)
          exact loop53 ((cel t (pts (R 1) t - 1) - (cel t q) : Int) + 1).toNat (cel t q)  (by omega) (by omega) (by omega) H locs (by rw [show (shf (ups (R 1) (14 + 37 * t) (R 1 (14 + 37 * t) - 1)) (cel t q) (cel t q) 3) = (ups (R 1) (14 + (37 * t)) ((R 1 (14 + (37 * t))) - 1)) from shf_0 _ _ (by omega)]; exact hP) (k_addr hD rfl) hS ls (lv_sub hl [0, 1, 2, 3] rfl)
        · exfalso; omega
    · skip
      refine k_if_eq (tgt := 14) hx hb dX7_removePoint_7 (by decide) (by omega) (fun c_13 => ?_) (fun c_13 => ?_)
      · skip
        refine k_iconst hx hb dX7_removePoint_14 ?_
        refine va_put (D := D) (ci := 6) (v := .int (iI 1)) (ty := .int) (C := RX7) (T := TX7) (N := 19) hx hb hts hinX7 tyX7 tyX7_ok nmX7 hown hK hP hD hS 0 rfl rfl 6 (by decide) hm0 (fun _ h9 => h9) rfl (by decide +kernel) rfl rfl (Nat.le_of_ble_eq_true rfl) dX7_removePoint_15 (fun H locs hP hD hS => ?_)
        have hP : va_P D vwCl (rfW cy a (upr R 0 (ups (R 0) 6 1))) H := hP
        have hD : va_D (va_A (rfW cy a R) sz) (rfW cy a (upr R 0 (ups (R 0) 6 1))) := hD
        refine lv_aload_n hx hb dX7_removePoint_18 rfl (lv_at hl 0 rfl) ?_
        refine va_get (D := D) (ci := 6) (v := .int (iI 1)) (C := RX7) (T := TX7) (N := 19) hx hb hts hinX7 hown hK hP 0 rfl rfl 6 (by decide) hm0 (fun _ h9 => h9) rfl dX7_removePoint_19 ?_
        refine k_if_eq (tgt := 27) hx hb dX7_removePoint_22 (by decide) (by omega) (fun c_14 => ?_) (fun c_14 => ?_)
        · exfalso; omega
        · skip
          refine k_iconst hx hb dX7_removePoint_25 ?_
          exact W.iret (v := iI 0) hx hb hr (fun t9 ht _ => ⟨⟨iI 0, (upr R 0 (ups (R 0) 6 1)), rfl, ⟨0, rfl, (by first | exact Or.inl ⟨(by omega), (by first | rfl | omega), rfl⟩ | exact Or.inr (⟨(by omega), (by first | rfl | omega), (by rw [show (R 1) = (tRP (R 1) t q) from by have e9 : k = cel t (pts (R 1) t - 1) := (by omega); subst e9; rfl])⟩) : ((¬ ((0 ≤ t ∧ t < R 1 12) ∧ 0 ≤ q ∧ q < pts (R 1) t)) ∧ (0 : Int) = 0 ∧ (upr R 0 (ups (R 0) 6 1)) = (upr R 0 (ups (R 0) 6 1))) ∨ (((0 ≤ t ∧ t < R 1 12) ∧ 0 ≤ q ∧ q < pts (R 1) t) ∧ (0 : Int) = pts (R 1) t - 1 ∧ (upr R 0 (ups (R 0) 6 1)) = (upr (upr (upr R 0 (ups (ups (R 0) 6 0) 2 (kpN (R 0 2)))) 1 (tRP (R 1) t q)) 2 (kpS (R 2) (R 1) (R 0 2)))))⟩, by rw [ht]; exact hP, hD⟩, hS.F ht⟩) hS.2.2 dX7_removePoint_26 hlocks
      · exfalso; omega
  exact hbody s.heap [] hP hS ls hl
set_option maxHeartbeats 4000000 in
set_option maxRecDepth 100000 in
theorem c_X7_addsPoint (l : Launch) (D : va_G) (cy : Nat → ClassId) (sz : Nat) (a : Nat → Nat) (R : Nat → Int → Int) (t f x y : Int) (hI : Inv (R 1)) (h0 : 0 ≤ t) (h1 : t < R 1 12) (hrf : -2147483648 ≤ f ∧ f ≤ 2147483647) (hp12 : pts (R 1) t < 12) : Met l yX7_addsPoint wsX7_addsPoint { frames := 2, cells := 0, slots := 0, locals := 43 } (mPre (GG D cy) D (rfW cy a R) sz ([.ref (a 0), .int (iI t), .int (iI f), .int (iI x), .int (iI y)] : List Value)) (kQi D (rfW cy a R) sz (fun u9 : Nat → Int → Int => rfW cy a u9) (fun r9 u9 => r9 = posF (R 1) t f ∧ u9 = (upr R 1 (tAP (R 1) t f x y)))) 0 0 (va_A (rfW cy a R) sz) := by
  refine kM_start (cc := cX7_addsPoint) (maxL := 7) (ret := (some .int)) (by decide) rfl (Nat.le_of_ble_eq_true rfl) ?_
  intro p e s m below meth c hx hb hr hlocks hml hts hown hsz hA hG hP hD hS hin ls hl
  have hK := hG.1
  have hl : lv_has ls 7 [(0, .ref (a 0)), (1, .int (iI t)), (2, .int (iI f)), (3, .int (iI x)), (4, .int (iI y))] := hl
  have hinX7 : ∀ w ∈ u_ws RX7 TX7 19, w ∈ wsX7_addsPoint := by decide +kernel
  have hm0 := hts (.fieldLink RX7 7 "ArcPlateModel" "m" "[I") (by decide +kernel)
  have h12 := inv_S12 hI
  have hp := inv_pts hI h0 h1
  have hcp := cel_eq t (pts (R 1) t)
  have hbody : ∀ (H : Heap) (locs : List Loc) (hP : va_P D vwCl (rfW cy a R) H) (hS : va_S (va_A (rfW cy a R) sz) s.heap H locs) (ls : Array Slot) (hl : lv_has ls 7 [(0, .ref (a 0)), (1, .int (iI t)), (2, .int (iI f)), (3, .int (iI x)), (4, .int (iI y))]), W p l e { frames := 2, cells := 0, slots := 0, locals := 43 } s m ([.ref (a 0), .int (iI t), .int (iI f), .int (iI x), .int (iI y)] : List Value).toArray below meth c H locs 0 0 (MQ below (kQi D (rfW cy a R) sz (fun u9 : Nat → Int → Int => rfW cy a u9) (fun r9 u9 => r9 = posF (R 1) t f ∧ u9 = (upr R 1 (tAP (R 1) t f x y)))) ([.ref (a 0), .int (iI t), .int (iI f), .int (iI x), .int (iI y)] : List Value).toArray s 0 0 (va_A (rfW cy a R) sz)) (F0 m 0 ls []) := by
    intro H locs hP hS ls hl
    refine lv_aload_n hx hb dX7_addsPoint_0 rfl (lv_at hl 0 rfl) ?_
    refine lv_iload_n hx hb dX7_addsPoint_1 rfl (lv_at hl 1 rfl) ?_
    refine k_roV (As := [.int (iI t)]) (rest := []) ⟨hx, hb, hml, hown, hts⟩ (c_X7_points l D cy a R t (show 0 ≤ t by omega) (show t < 12 by omega)) gX7_addsPoint_X7_points rfl ⟨rfl, rfl⟩ 1 rfl (by decide +kernel) ⟨Nat.le_of_ble_eq_true rfl, Nat.le_of_ble_eq_true rfl⟩ (GG_ok D cy) ((GG_ok D cy).2.2.2 _ _ _ _ (fun _ h => h.elim) ((GG_ok D cy).1 _ _ _ _ hS.2.1 hG)) hP (va_recv hK hP (ci := 6) (q0 := 0) rfl rfl) hl.1 rfl (Nat.le_of_ble_eq_true rfl) ⟨Nat.le_of_ble_eq_true rfl, Nat.le_of_ble_eq_true rfl⟩ dX7_addsPoint_2 (fun r_1 hr_1 => ?_)
    have hr_1 : r_1 = pts (R 1) t := hr_1
    subst hr_1
    refine lv_istore (lv' := [(5, .int (iI (pts (R 1) t))), (0, .ref (a 0)), (1, .int (iI t)), (2, .int (iI f)), (3, .int (iI x)), (4, .int (iI y))]) hx hb dX7_addsPoint_5 hl (by decide) rfl (fun ls hl => ?_)
    have loop7 : ∀ (n_2 : Nat) (q8 : Int) (hi0 : 0 ≤ q8) (hi1 : q8 ≤ pts (R 1) t) (hi2 : posI (R 1) t f q8.toNat = posF (R 1) t f) (hn : q8 < (n_2 : Int)) (H : Heap) (locs : List Loc) (hP : va_P D vwCl (rfW cy a (upr R 1 (shb (R 1) (cel t q8 + 3) (cel t (pts (R 1) t) + 3) 3))) H) (hD : va_D (va_A (rfW cy a R) sz) (rfW cy a (upr R 1 (shb (R 1) (cel t q8 + 3) (cel t (pts (R 1) t) + 3) 3)))) (hS : va_S (va_A (rfW cy a R) sz) s.heap H locs) (ls : Array Slot) (hl : lv_has ls 7 [(5, .int (iI q8)), (0, .ref (a 0)), (1, .int (iI t)), (2, .int (iI f)), (3, .int (iI x)), (4, .int (iI y))]), W p l e { frames := 2, cells := 0, slots := 0, locals := 43 } s m ([.ref (a 0), .int (iI t), .int (iI f), .int (iI x), .int (iI y)] : List Value).toArray below meth c H locs 0 0 (MQ below (kQi D (rfW cy a R) sz (fun u9 : Nat → Int → Int => rfW cy a u9) (fun r9 u9 => r9 = posF (R 1) t f ∧ u9 = (upr R 1 (tAP (R 1) t f x y)))) ([.ref (a 0), .int (iI t), .int (iI f), .int (iI x), .int (iI y)] : List Value).toArray s 0 0 (va_A (rfW cy a R) sz)) (F0 m 7 ls []) := by
      intro n_2
      induction n_2 with
      | zero => intro q8 hi0 hi1 hi2 hn H locs hP hD hS ls hl; exfalso; omega
      | succ n_2 ih7 =>
        intro q8 hi0 hi1 hi2 hn H locs hP hD hS ls hl
        have hc1 := cel_eq t q8
        have hc2 := cel_eq t (q8 - 1)
        refine lv_iload hx hb dX7_addsPoint_7 (lv_at hl 0 rfl) ?_
        refine k_if_le (tgt := 76) hx hb dX7_addsPoint_9 (by decide) (by omega) (fun c_3 => ?_) (fun c_3 => ?_)
        · skip
          have e9 : posF (R 1) t f = q8 := by rw [← hi2]; exact posI_zero _ _ _ (by omega)
          refine lv_aload_n hx hb dX7_addsPoint_76 rfl (lv_at hl 1 rfl) ?_
          refine va_get (D := D) (ci := 6) (v := .ref (a 1)) (C := RX7) (T := TX7) (N := 19) hx hb hts hinX7 hown hK hP 0 rfl rfl 0 (by decide) hm0 (fun _ h9 => h9) rfl dX7_addsPoint_77 ?_
          refine lv_iload_n hx hb dX7_addsPoint_80 rfl (lv_at hl 2 rfl) ?_
          refine lv_iload hx hb dX7_addsPoint_81 (lv_at hl 0 rfl) ?_
          refine k_roS (As := [.int (iI t), .int (iI q8)]) (rest := [.ref (a 1)]) ⟨hx, hb, hml, hown, hts⟩ (c_X7_cellOf l D t q8 ) gX7_addsPoint_X7_cellOf rfl ⟨rfl, rfl⟩ 2 rfl (by decide +kernel) ⟨Nat.le_of_ble_eq_true rfl, Nat.le_of_ble_eq_true rfl⟩ kGT_ok trivial (fun k q h => by simp at h) hl.1 rfl (Nat.le_of_ble_eq_true rfl) ⟨Nat.le_of_ble_eq_true rfl, Nat.le_of_ble_eq_true rfl⟩ dX7_addsPoint_83 (fun r_4 hr_4 => ?_)
          have hr_4 : r_4 = cel t q8 := hr_4
          subst hr_4
          have := cel_eq t q8
          refine lv_iload_n hx hb dX7_addsPoint_86 rfl (lv_at hl 3 rfl) ?_
          refine k_iast hx hb hK hP hD hS 1 0 (f := shb (R 1) (cel t q8 + 3) (cel t (pts (R 1) t) + 3) 3) rfl rfl (i := cel t q8) (x := f) (by omega) dX7_addsPoint_87 (fun H locs hP hD hS => ?_)
          have hP : va_P D vwCl (rfW cy a (upr R 1 (ups (shb (R 1) (cel t q8 + 3) (cel t (pts (R 1) t) + 3) 3) (cel t q8) f))) H := hP
          have hD : va_D (va_A (rfW cy a R) sz) (rfW cy a (upr R 1 (ups (shb (R 1) (cel t q8 + 3) (cel t (pts (R 1) t) + 3) 3) (cel t q8) f))) := hD
          refine lv_aload_n hx hb dX7_addsPoint_88 rfl (lv_at hl 1 rfl) ?_
          refine va_get (D := D) (ci := 6) (v := .ref (a 1)) (C := RX7) (T := TX7) (N := 19) hx hb hts hinX7 hown hK hP 0 rfl rfl 0 (by decide) hm0 (fun _ h9 => h9) rfl dX7_addsPoint_89 ?_
          refine lv_iload_n hx hb dX7_addsPoint_92 rfl (lv_at hl 2 rfl) ?_
          refine lv_iload hx hb dX7_addsPoint_93 (lv_at hl 0 rfl) ?_
          refine k_roS (As := [.int (iI t), .int (iI q8)]) (rest := [.ref (a 1)]) ⟨hx, hb, hml, hown, hts⟩ (c_X7_cellOf l D t q8 ) gX7_addsPoint_X7_cellOf rfl ⟨rfl, rfl⟩ 2 rfl (by decide +kernel) ⟨Nat.le_of_ble_eq_true rfl, Nat.le_of_ble_eq_true rfl⟩ kGT_ok trivial (fun k q h => by simp at h) hl.1 rfl (Nat.le_of_ble_eq_true rfl) ⟨Nat.le_of_ble_eq_true rfl, Nat.le_of_ble_eq_true rfl⟩ dX7_addsPoint_95 (fun r_5 hr_5 => ?_)
          have hr_5 : r_5 = cel t q8 := hr_5
          subst hr_5
          have := cel_eq t q8
          refine k_iconst hx hb dX7_addsPoint_98 ?_
          refine k_iadd hx hb dX7_addsPoint_99 ?_
          refine lv_iload_n hx hb dX7_addsPoint_100 rfl (lv_at hl 4 rfl) ?_
          refine k_iast hx hb hK hP hD hS 1 0 (f := ups (shb (R 1) (cel t q8 + 3) (cel t (pts (R 1) t) + 3) 3) (cel t q8) f) rfl rfl (i := (cel t q8) + 1) (x := x) (by omega) dX7_addsPoint_101 (fun H locs hP hD hS => ?_)
          have hP : va_P D vwCl (rfW cy a (upr R 1 (ups (ups (shb (R 1) (cel t q8 + 3) (cel t (pts (R 1) t) + 3) 3) (cel t q8) f) ((cel t q8) + 1) x))) H := hP
          have hD : va_D (va_A (rfW cy a R) sz) (rfW cy a (upr R 1 (ups (ups (shb (R 1) (cel t q8 + 3) (cel t (pts (R 1) t) + 3) 3) (cel t q8) f) ((cel t q8) + 1) x))) := hD
          refine lv_aload_n hx hb dX7_addsPoint_102 rfl (lv_at hl 1 rfl) ?_
          refine va_get (D := D) (ci := 6) (v := .ref (a 1)) (C := RX7) (T := TX7) (N := 19) hx hb hts hinX7 hown hK hP 0 rfl rfl 0 (by decide) hm0 (fun _ h9 => h9) rfl dX7_addsPoint_103 ?_
          refine lv_iload_n hx hb dX7_addsPoint_106 rfl (lv_at hl 2 rfl) ?_
          refine lv_iload hx hb dX7_addsPoint_107 (lv_at hl 0 rfl) ?_
          refine k_roS (As := [.int (iI t), .int (iI q8)]) (rest := [.ref (a 1)]) ⟨hx, hb, hml, hown, hts⟩ (c_X7_cellOf l D t q8 ) gX7_addsPoint_X7_cellOf rfl ⟨rfl, rfl⟩ 2 rfl (by decide +kernel) ⟨Nat.le_of_ble_eq_true rfl, Nat.le_of_ble_eq_true rfl⟩ kGT_ok trivial (fun k q h => by simp at h) hl.1 rfl (Nat.le_of_ble_eq_true rfl) ⟨Nat.le_of_ble_eq_true rfl, Nat.le_of_ble_eq_true rfl⟩ dX7_addsPoint_109 (fun r_6 hr_6 => ?_)
          have hr_6 : r_6 = cel t q8 := hr_6
          subst hr_6
          have := cel_eq t q8
          refine k_iconst hx hb dX7_addsPoint_112 ?_
          refine k_iadd hx hb dX7_addsPoint_113 ?_
          refine lv_iload hx hb dX7_addsPoint_114 (lv_at hl 5 rfl) ?_
          refine k_iast hx hb hK hP hD hS 1 0 (f := ups (ups (shb (R 1) (cel t q8 + 3) (cel t (pts (R 1) t) + 3) 3) (cel t q8) f) ((cel t q8) + 1) x) rfl rfl (i := (cel t q8) + 2) (x := y) (by omega) dX7_addsPoint_116 (fun H locs hP hD hS => ?_)
          have hP : va_P D vwCl (rfW cy a (upr R 1 (ups (ups (ups (shb (R 1) (cel t q8 + 3) (cel t (pts (R 1) t) + 3) 3) (cel t q8) f) ((cel t q8) + 1) x) ((cel t q8) + 2) y))) H := hP
          have hD : va_D (va_A (rfW cy a R) sz) (rfW cy a (upr R 1 (ups (ups (ups (shb (R 1) (cel t q8 + 3) (cel t (pts (R 1) t) + 3) 3) (cel t q8) f) ((cel t q8) + 1) x) ((cel t q8) + 2) y))) := hD
          refine lv_aload_n hx hb dX7_addsPoint_117 rfl (lv_at hl 1 rfl) ?_
          refine va_get (D := D) (ci := 6) (v := .ref (a 1)) (C := RX7) (T := TX7) (N := 19) hx hb hts hinX7 hown hK hP 0 rfl rfl 0 (by decide) hm0 (fun _ h9 => h9) rfl dX7_addsPoint_118 ?_
          refine k_bipush hx hb dX7_addsPoint_121 (by decide +kernel) ?_
          refine k_bipush hx hb dX7_addsPoint_123 (by decide +kernel) ?_
          refine lv_iload_n hx hb dX7_addsPoint_125 rfl (lv_at hl 2 rfl) ?_
          refine k_imul hx hb dX7_addsPoint_126 ?_
          refine k_iadd hx hb dX7_addsPoint_127 ?_
          refine lv_dup2_11 hx hb dX7_addsPoint_128 rfl rfl ?_
          refine k_iald hx hb hK hP 1 0 (f := ups (ups (ups (shb (R 1) (cel t q8 + 3) (cel t (pts (R 1) t) + 3) 3) (cel t q8) f) ((cel t q8) + 1) x) ((cel t q8) + 2) y) rfl rfl (i := 14 + (37 * t)) (by omega) dX7_addsPoint_129 ?_
          refine k_eqI (v := (ups (ups (ups (shb (R 1) (cel t q8 + 3) (cel t (pts (R 1) t) + 3) 3) (cel t q8) f) ((cel t q8) + 1) x) ((cel t q8) + 2) y) (14 + (37 * t))) (w := pts (R 1) t) (by rw [ups_ne _ _ (by omega), ups_ne _ _ (by omega), ups_ne _ _ (by omega)]; exact shb_out _ (by omega)) ?_
          refine k_iconst hx hb dX7_addsPoint_130 ?_
          refine k_iadd hx hb dX7_addsPoint_131 ?_
          refine k_iast hx hb hK hP hD hS 1 0 (f := ups (ups (ups (shb (R 1) (cel t q8 + 3) (cel t (pts (R 1) t) + 3) 3) (cel t q8) f) ((cel t q8) + 1) x) ((cel t q8) + 2) y) rfl rfl (i := 14 + (37 * t)) (x := (pts (R 1) t) + 1) (by omega) dX7_addsPoint_132 (fun H locs hP hD hS => ?_)
          have hP : va_P D vwCl (rfW cy a (upr R 1 (ups (ups (ups (ups (shb (R 1) (cel t q8 + 3) (cel t (pts (R 1) t) + 3) 3) (cel t q8) f) ((cel t q8) + 1) x) ((cel t q8) + 2) y) (14 + (37 * t)) ((pts (R 1) t) + 1)))) H := hP
          have hD : va_D (va_A (rfW cy a R) sz) (rfW cy a (upr R 1 (ups (ups (ups (ups (shb (R 1) (cel t q8 + 3) (cel t (pts (R 1) t) + 3) 3) (cel t q8) f) ((cel t q8) + 1) x) ((cel t q8) + 2) y) (14 + (37 * t)) ((pts (R 1) t) + 1)))) := hD
          refine lv_iload hx hb dX7_addsPoint_133 (lv_at hl 0 rfl) ?_
          exact W.iret (v := iI q8) hx hb hr (fun t9 ht _ => ⟨⟨iI q8, (upr R 1 (ups (ups (ups (ups (shb (R 1) (cel t q8 + 3) (cel t (pts (R 1) t) + 3) 3) (cel t q8) f) ((cel t q8) + 1) x) ((cel t q8) + 2) y) (14 + (37 * t)) ((pts (R 1) t) + 1))), rfl, ⟨q8, rfl, (⟨e9.symm, (by rw [show (ups (ups (ups (ups (shb (R 1) (cel t q8 + 3) (cel t (pts (R 1) t) + 3) 3) (cel t q8) f) ((cel t q8) + 1) x) ((cel t q8) + 2) y) (14 + (37 * t)) ((pts (R 1) t) + 1)) = (tAP (R 1) t f x y) from by unfold tAP; rw [e9]])⟩ : (q8 : Int) = posF (R 1) t f ∧ (upr R 1 (ups (ups (ups (ups (shb (R 1) (cel t q8 + 3) (cel t (pts (R 1) t) + 3) 3) (cel t q8) f) ((cel t q8) + 1) x) ((cel t q8) + 2) y) (14 + (37 * t)) ((pts (R 1) t) + 1))) = (upr R 1 (tAP (R 1) t f x y)))⟩, by rw [ht]; exact hP, hD⟩, hS.F ht⟩) hS.2.2 dX7_addsPoint_135 hlocks
        · skip
          refine lv_aload_n hx hb dX7_addsPoint_12 rfl (lv_at hl 1 rfl) ?_
          refine lv_iload_n hx hb dX7_addsPoint_13 rfl (lv_at hl 2 rfl) ?_
          refine lv_iload hx hb dX7_addsPoint_14 (lv_at hl 0 rfl) ?_
          refine k_iconst hx hb dX7_addsPoint_16 ?_
          refine k_isub hx hb dX7_addsPoint_17 ?_
          refine k_roV (As := [.int (iI t), .int (iI (q8 - 1))]) (rest := []) ⟨hx, hb, hml, hown, hts⟩ (c_X7_frameOf l D cy a (upr R 1 (shb (R 1) (cel t q8 + 3) (cel t (pts (R 1) t) + 3) 3)) t (q8 - 1) (show 0 ≤ t by omega) (show t < 12 by omega) (show 0 ≤ (q8 - 1) by omega) (show (q8 - 1) < 12 by omega)) gX7_addsPoint_X7_frameOf rfl ⟨rfl, rfl⟩ 2 rfl (by decide +kernel) ⟨Nat.le_of_ble_eq_true rfl, Nat.le_of_ble_eq_true rfl⟩ (GG_ok D cy) ((GG_ok D cy).2.2.2 _ _ _ _ (fun _ h => h.elim) ((GG_ok D cy).1 _ _ _ _ hS.2.1 hG)) hP (va_recv hK hP (ci := 6) (q0 := 0) rfl rfl) hl.1 rfl (Nat.le_of_ble_eq_true rfl) ⟨Nat.le_of_ble_eq_true rfl, Nat.le_of_ble_eq_true rfl⟩ dX7_addsPoint_18 (fun r_7 hr_7 => ?_)
          have hr_7 : r_7 = frm ((shb (R 1) (cel t q8 + 3) (cel t (pts (R 1) t) + 3) 3)) t (q8 - 1) := hr_7
          subst hr_7
          refine k_eqI (v := frm ((shb (R 1) (cel t q8 + 3) (cel t (pts (R 1) t) + 3) 3)) t (q8 - 1)) (w := frm (R 1) t (q8 - 1)) (by unfold frm; exact shb_out _ (by omega)) ?_
          have hff := inv_frm hI h0 h1 (p := q8 - 1) (by omega) (by omega)
          refine lv_iload_n hx hb dX7_addsPoint_21 rfl (lv_at hl 3 rfl) ?_
          refine k_icmp_le (tgt := 76) hx hb dX7_addsPoint_22 (by decide) (by omega) (by omega) (fun c_8 => ?_) (fun c_8 => ?_)
          · skip
            have e9 : posF (R 1) t f = q8 := by rw [← hi2]; exact posI_stop (by omega) (by omega)
            refine lv_aload_n hx hb dX7_addsPoint_76 rfl (lv_at hl 1 rfl) ?_
            refine va_get (D := D) (ci := 6) (v := .ref (a 1)) (C := RX7) (T := TX7) (N := 19) hx hb hts hinX7 hown hK hP 0 rfl rfl 0 (by decide) hm0 (fun _ h9 => h9) rfl dX7_addsPoint_77 ?_
            refine lv_iload_n hx hb dX7_addsPoint_80 rfl (lv_at hl 2 rfl) ?_
            refine lv_iload hx hb dX7_addsPoint_81 (lv_at hl 0 rfl) ?_
            refine k_roS (As := [.int (iI t), .int (iI q8)]) (rest := [.ref (a 1)]) ⟨hx, hb, hml, hown, hts⟩ (c_X7_cellOf l D t q8 ) gX7_addsPoint_X7_cellOf rfl ⟨rfl, rfl⟩ 2 rfl (by decide +kernel) ⟨Nat.le_of_ble_eq_true rfl, Nat.le_of_ble_eq_true rfl⟩ kGT_ok trivial (fun k q h => by simp at h) hl.1 rfl (Nat.le_of_ble_eq_true rfl) ⟨Nat.le_of_ble_eq_true rfl, Nat.le_of_ble_eq_true rfl⟩ dX7_addsPoint_83 (fun r_9 hr_9 => ?_)
            have hr_9 : r_9 = cel t q8 := hr_9
            subst hr_9
            have := cel_eq t q8
            refine lv_iload_n hx hb dX7_addsPoint_86 rfl (lv_at hl 3 rfl) ?_
            refine k_iast hx hb hK hP hD hS 1 0 (f := shb (R 1) (cel t q8 + 3) (cel t (pts (R 1) t) + 3) 3) rfl rfl (i := cel t q8) (x := f) (by omega) dX7_addsPoint_87 (fun H locs hP hD hS => ?_)
            have hP : va_P D vwCl (rfW cy a (upr R 1 (ups (shb (R 1) (cel t q8 + 3) (cel t (pts (R 1) t) + 3) 3) (cel t q8) f))) H := hP
            have hD : va_D (va_A (rfW cy a R) sz) (rfW cy a (upr R 1 (ups (shb (R 1) (cel t q8 + 3) (cel t (pts (R 1) t) + 3) 3) (cel t q8) f))) := hD
            refine lv_aload_n hx hb dX7_addsPoint_88 rfl (lv_at hl 1 rfl) ?_
            refine va_get (D := D) (ci := 6) (v := .ref (a 1)) (C := RX7) (T := TX7) (N := 19) hx hb hts hinX7 hown hK hP 0 rfl rfl 0 (by decide) hm0 (fun _ h9 => h9) rfl dX7_addsPoint_89 ?_
            refine lv_iload_n hx hb dX7_addsPoint_92 rfl (lv_at hl 2 rfl) ?_
            refine lv_iload hx hb dX7_addsPoint_93 (lv_at hl 0 rfl) ?_
            refine k_roS (As := [.int (iI t), .int (iI q8)]) (rest := [.ref (a 1)]) ⟨hx, hb, hml, hown, hts⟩ (c_X7_cellOf l D t q8 ) gX7_addsPoint_X7_cellOf rfl ⟨rfl, rfl⟩ 2 rfl (by decide +kernel) ⟨Nat.le_of_ble_eq_true rfl, Nat.le_of_ble_eq_true rfl⟩ kGT_ok trivial (fun k q h => by simp at h) hl.1 rfl (Nat.le_of_ble_eq_true rfl) ⟨Nat.le_of_ble_eq_true rfl, Nat.le_of_ble_eq_true rfl⟩ dX7_addsPoint_95 (fun r_10 hr_10 => ?_)
            have hr_10 : r_10 = cel t q8 := hr_10
            subst hr_10
            have := cel_eq t q8
            refine k_iconst hx hb dX7_addsPoint_98 ?_
            refine k_iadd hx hb dX7_addsPoint_99 ?_
            refine lv_iload_n hx hb dX7_addsPoint_100 rfl (lv_at hl 4 rfl) ?_
            refine k_iast hx hb hK hP hD hS 1 0 (f := ups (shb (R 1) (cel t q8 + 3) (cel t (pts (R 1) t) + 3) 3) (cel t q8) f) rfl rfl (i := (cel t q8) + 1) (x := x) (by omega) dX7_addsPoint_101 (fun H locs hP hD hS => ?_)
            have hP : va_P D vwCl (rfW cy a (upr R 1 (ups (ups (shb (R 1) (cel t q8 + 3) (cel t (pts (R 1) t) + 3) 3) (cel t q8) f) ((cel t q8) + 1) x))) H := hP
            have hD : va_D (va_A (rfW cy a R) sz) (rfW cy a (upr R 1 (ups (ups (shb (R 1) (cel t q8 + 3) (cel t (pts (R 1) t) + 3) 3) (cel t q8) f) ((cel t q8) + 1) x))) := hD
            refine lv_aload_n hx hb dX7_addsPoint_102 rfl (lv_at hl 1 rfl) ?_
            refine va_get (D := D) (ci := 6) (v := .ref (a 1)) (C := RX7) (T := TX7) (N := 19) hx hb hts hinX7 hown hK hP 0 rfl rfl 0 (by decide) hm0 (fun _ h9 => h9) rfl dX7_addsPoint_103 ?_
            refine lv_iload_n hx hb dX7_addsPoint_106 rfl (lv_at hl 2 rfl) ?_
            refine lv_iload hx hb dX7_addsPoint_107 (lv_at hl 0 rfl) ?_
            refine k_roS (As := [.int (iI t), .int (iI q8)]) (rest := [.ref (a 1)]) ⟨hx, hb, hml, hown, hts⟩ (c_X7_cellOf l D t q8 ) gX7_addsPoint_X7_cellOf rfl ⟨rfl, rfl⟩ 2 rfl (by decide +kernel) ⟨Nat.le_of_ble_eq_true rfl, Nat.le_of_ble_eq_true rfl⟩ kGT_ok trivial (fun k q h => by simp at h) hl.1 rfl (Nat.le_of_ble_eq_true rfl) ⟨Nat.le_of_ble_eq_true rfl, Nat.le_of_ble_eq_true rfl⟩ dX7_addsPoint_109 (fun r_11 hr_11 => ?_)
            have hr_11 : r_11 = cel t q8 := hr_11
            subst hr_11
            have := cel_eq t q8
            refine k_iconst hx hb dX7_addsPoint_112 ?_
            refine k_iadd hx hb dX7_addsPoint_113 ?_
            refine lv_iload hx hb dX7_addsPoint_114 (lv_at hl 5 rfl) ?_
            refine k_iast hx hb hK hP hD hS 1 0 (f := ups (ups (shb (R 1) (cel t q8 + 3) (cel t (pts (R 1) t) + 3) 3) (cel t q8) f) ((cel t q8) + 1) x) rfl rfl (i := (cel t q8) + 2) (x := y) (by omega) dX7_addsPoint_116 (fun H locs hP hD hS => ?_)
            have hP : va_P D vwCl (rfW cy a (upr R 1 (ups (ups (ups (shb (R 1) (cel t q8 + 3) (cel t (pts (R 1) t) + 3) 3) (cel t q8) f) ((cel t q8) + 1) x) ((cel t q8) + 2) y))) H := hP
            have hD : va_D (va_A (rfW cy a R) sz) (rfW cy a (upr R 1 (ups (ups (ups (shb (R 1) (cel t q8 + 3) (cel t (pts (R 1) t) + 3) 3) (cel t q8) f) ((cel t q8) + 1) x) ((cel t q8) + 2) y))) := hD
            refine lv_aload_n hx hb dX7_addsPoint_117 rfl (lv_at hl 1 rfl) ?_
            refine va_get (D := D) (ci := 6) (v := .ref (a 1)) (C := RX7) (T := TX7) (N := 19) hx hb hts hinX7 hown hK hP 0 rfl rfl 0 (by decide) hm0 (fun _ h9 => h9) rfl dX7_addsPoint_118 ?_
            refine k_bipush hx hb dX7_addsPoint_121 (by decide +kernel) ?_
            refine k_bipush hx hb dX7_addsPoint_123 (by decide +kernel) ?_
            refine lv_iload_n hx hb dX7_addsPoint_125 rfl (lv_at hl 2 rfl) ?_
            refine k_imul hx hb dX7_addsPoint_126 ?_
            refine k_iadd hx hb dX7_addsPoint_127 ?_
            refine lv_dup2_11 hx hb dX7_addsPoint_128 rfl rfl ?_
            refine k_iald hx hb hK hP 1 0 (f := ups (ups (ups (shb (R 1) (cel t q8 + 3) (cel t (pts (R 1) t) + 3) 3) (cel t q8) f) ((cel t q8) + 1) x) ((cel t q8) + 2) y) rfl rfl (i := 14 + (37 * t)) (by omega) dX7_addsPoint_129 ?_
            refine k_eqI (v := (ups (ups (ups (shb (R 1) (cel t q8 + 3) (cel t (pts (R 1) t) + 3) 3) (cel t q8) f) ((cel t q8) + 1) x) ((cel t q8) + 2) y) (14 + (37 * t))) (w := pts (R 1) t) (by rw [ups_ne _ _ (by omega), ups_ne _ _ (by omega), ups_ne _ _ (by omega)]; exact shb_out _ (by omega)) ?_
            refine k_iconst hx hb dX7_addsPoint_130 ?_
            refine k_iadd hx hb dX7_addsPoint_131 ?_
            refine k_iast hx hb hK hP hD hS 1 0 (f := ups (ups (ups (shb (R 1) (cel t q8 + 3) (cel t (pts (R 1) t) + 3) 3) (cel t q8) f) ((cel t q8) + 1) x) ((cel t q8) + 2) y) rfl rfl (i := 14 + (37 * t)) (x := (pts (R 1) t) + 1) (by omega) dX7_addsPoint_132 (fun H locs hP hD hS => ?_)
            have hP : va_P D vwCl (rfW cy a (upr R 1 (ups (ups (ups (ups (shb (R 1) (cel t q8 + 3) (cel t (pts (R 1) t) + 3) 3) (cel t q8) f) ((cel t q8) + 1) x) ((cel t q8) + 2) y) (14 + (37 * t)) ((pts (R 1) t) + 1)))) H := hP
            have hD : va_D (va_A (rfW cy a R) sz) (rfW cy a (upr R 1 (ups (ups (ups (ups (shb (R 1) (cel t q8 + 3) (cel t (pts (R 1) t) + 3) 3) (cel t q8) f) ((cel t q8) + 1) x) ((cel t q8) + 2) y) (14 + (37 * t)) ((pts (R 1) t) + 1)))) := hD
            refine lv_iload hx hb dX7_addsPoint_133 (lv_at hl 0 rfl) ?_
            exact W.iret (v := iI q8) hx hb hr (fun t9 ht _ => ⟨⟨iI q8, (upr R 1 (ups (ups (ups (ups (shb (R 1) (cel t q8 + 3) (cel t (pts (R 1) t) + 3) 3) (cel t q8) f) ((cel t q8) + 1) x) ((cel t q8) + 2) y) (14 + (37 * t)) ((pts (R 1) t) + 1))), rfl, ⟨q8, rfl, (⟨e9.symm, (by rw [show (ups (ups (ups (ups (shb (R 1) (cel t q8 + 3) (cel t (pts (R 1) t) + 3) 3) (cel t q8) f) ((cel t q8) + 1) x) ((cel t q8) + 2) y) (14 + (37 * t)) ((pts (R 1) t) + 1)) = (tAP (R 1) t f x y) from by unfold tAP; rw [e9]])⟩ : (q8 : Int) = posF (R 1) t f ∧ (upr R 1 (ups (ups (ups (ups (shb (R 1) (cel t q8 + 3) (cel t (pts (R 1) t) + 3) 3) (cel t q8) f) ((cel t q8) + 1) x) ((cel t q8) + 2) y) (14 + (37 * t)) ((pts (R 1) t) + 1))) = (upr R 1 (tAP (R 1) t f x y)))⟩, by rw [ht]; exact hP, hD⟩, hS.F ht⟩) hS.2.2 dX7_addsPoint_135 hlocks
          · skip
            refine k_iconst hx hb dX7_addsPoint_25 ?_
            refine lv_istore (lv' := [(6, .int (iI 0)), (5, .int (iI q8)), (0, .ref (a 0)), (1, .int (iI t)), (2, .int (iI f)), (3, .int (iI x)), (4, .int (iI y))]) hx hb dX7_addsPoint_26 hl (by decide) rfl (fun ls hl => ?_)
            refine lv_iload hx hb dX7_addsPoint_28 (lv_at hl 0 rfl) ?_
            refine k_iconst hx hb dX7_addsPoint_30 ?_
            refine k_icmp_ge (tgt := 70) hx hb dX7_addsPoint_31 (by decide) (by omega) (by omega) (fun c_12 => ?_) (fun c_12 => ?_)
            · exfalso; omega
            · skip
              refine lv_aload_n hx hb dX7_addsPoint_34 rfl (lv_at hl 2 rfl) ?_
              refine va_get (D := D) (ci := 6) (v := .ref (a 1)) (C := RX7) (T := TX7) (N := 19) hx hb hts hinX7 hown hK hP 0 rfl rfl 0 (by decide) hm0 (fun _ h9 => h9) rfl dX7_addsPoint_35 ?_
              refine lv_iload_n hx hb dX7_addsPoint_38 rfl (lv_at hl 3 rfl) ?_
              refine lv_iload hx hb dX7_addsPoint_39 (lv_at hl 1 rfl) ?_
              refine k_roS (As := [.int (iI t), .int (iI q8)]) (rest := [.ref (a 1)]) ⟨hx, hb, hml, hown, hts⟩ (c_X7_cellOf l D t q8 ) gX7_addsPoint_X7_cellOf rfl ⟨rfl, rfl⟩ 2 rfl (by decide +kernel) ⟨Nat.le_of_ble_eq_true rfl, Nat.le_of_ble_eq_true rfl⟩ kGT_ok trivial (fun k q h => by simp at h) hl.1 rfl (Nat.le_of_ble_eq_true rfl) ⟨Nat.le_of_ble_eq_true rfl, Nat.le_of_ble_eq_true rfl⟩ dX7_addsPoint_41 (fun r_13 hr_13 => ?_)
              have hr_13 : r_13 = cel t q8 := hr_13
              subst hr_13
              have := cel_eq t q8
              refine lv_iload hx hb dX7_addsPoint_44 (lv_at hl 0 rfl) ?_
              refine k_iadd hx hb dX7_addsPoint_46 ?_
              refine lv_aload_n hx hb dX7_addsPoint_47 rfl (lv_at hl 2 rfl) ?_
              refine va_get (D := D) (ci := 6) (v := .ref (a 1)) (C := RX7) (T := TX7) (N := 19) hx hb hts hinX7 hown hK hP 0 rfl rfl 0 (by decide) hm0 (fun _ h9 => h9) rfl dX7_addsPoint_48 ?_
              refine lv_iload_n hx hb dX7_addsPoint_51 rfl (lv_at hl 3 rfl) ?_
              refine lv_iload hx hb dX7_addsPoint_52 (lv_at hl 1 rfl) ?_
              refine k_iconst hx hb dX7_addsPoint_54 ?_
              refine k_isub hx hb dX7_addsPoint_55 ?_
              refine k_roS (As := [.int (iI t), .int (iI (q8 - 1))]) (rest := [.ref (a 1), .int (iI ((cel t q8) + 0)), .ref (a 1)]) ⟨hx, hb, hml, hown, hts⟩ (c_X7_cellOf l D t (q8 - 1) ) gX7_addsPoint_X7_cellOf rfl ⟨rfl, rfl⟩ 2 rfl (by decide +kernel) ⟨Nat.le_of_ble_eq_true rfl, Nat.le_of_ble_eq_true rfl⟩ kGT_ok trivial (fun k q h => by simp at h) hl.1 rfl (Nat.le_of_ble_eq_true rfl) ⟨Nat.le_of_ble_eq_true rfl, Nat.le_of_ble_eq_true rfl⟩ dX7_addsPoint_56 (fun r_14 hr_14 => ?_)
              have hr_14 : r_14 = cel t (q8 - 1) := hr_14
              subst hr_14
              have := cel_eq t (q8 - 1)
              refine lv_iload hx hb dX7_addsPoint_59 (lv_at hl 0 rfl) ?_
              refine k_iadd hx hb dX7_addsPoint_61 ?_
              refine k_iald hx hb hK hP 1 0 (f := shb (R 1) (cel t q8 + 3) (cel t (pts (R 1) t) + 3) 3) rfl rfl (i := (cel t (q8 - 1)) + 0) (by omega) dX7_addsPoint_62 ?_
              refine k_iast hx hb hK hP hD hS 1 0 (f := shb (R 1) (cel t q8 + 3) (cel t (pts (R 1) t) + 3) 3) rfl rfl (i := (cel t q8) + 0) (x := (shb (R 1) (cel t q8 + 3) (cel t (pts (R 1) t) + 3) 3) ((cel t (q8 - 1)) + 0)) (by omega) dX7_addsPoint_63 (fun H locs hP hD hS => ?_)
              have hP : va_P D vwCl (rfW cy a (upr R 1 (ups (shb (R 1) (cel t q8 + 3) (cel t (pts (R 1) t) + 3) 3) ((cel t q8) + 0) ((shb (R 1) (cel t q8 + 3) (cel t (pts (R 1) t) + 3) 3) ((cel t (q8 - 1)) + 0))))) H := hP
              have hD : va_D (va_A (rfW cy a R) sz) (rfW cy a (upr R 1 (ups (shb (R 1) (cel t q8 + 3) (cel t (pts (R 1) t) + 3) 3) ((cel t q8) + 0) ((shb (R 1) (cel t q8 + 3) (cel t (pts (R 1) t) + 3) 3) ((cel t (q8 - 1)) + 0))))) := hD
              refine lv_iinc (v := iI 1) (lv' := [(6, .int (iI 1)), (5, .int (iI q8)), (0, .ref (a 0)), (1, .int (iI t)), (2, .int (iI f)), (3, .int (iI x)), (4, .int (iI y))]) hx hb dX7_addsPoint_64 hl (k := 0) rfl (show iI 0 + iI 1 = iI 1 from iI_add _ _) (by decide) rfl (fun ls hl => ?_)
              refine lv_goto (tgt := 28) hx hb dX7_addsPoint_67 (by decide) ?_
              refine lv_iload hx hb dX7_addsPoint_28 (lv_at hl 0 rfl) ?_
              refine k_iconst hx hb dX7_addsPoint_30 ?_
              refine k_icmp_ge (tgt := 70) hx hb dX7_addsPoint_31 (by decide) (by omega) (by omega) (fun c_15 => ?_) (fun c_15 => ?_)
              · exfalso; omega
              · skip
                refine lv_aload_n hx hb dX7_addsPoint_34 rfl (lv_at hl 2 rfl) ?_
                refine va_get (D := D) (ci := 6) (v := .ref (a 1)) (C := RX7) (T := TX7) (N := 19) hx hb hts hinX7 hown hK hP 0 rfl rfl 0 (by decide) hm0 (fun _ h9 => h9) rfl dX7_addsPoint_35 ?_
                refine lv_iload_n hx hb dX7_addsPoint_38 rfl (lv_at hl 3 rfl) ?_
                refine lv_iload hx hb dX7_addsPoint_39 (lv_at hl 1 rfl) ?_
                refine k_roS (As := [.int (iI t), .int (iI q8)]) (rest := [.ref (a 1)]) ⟨hx, hb, hml, hown, hts⟩ (c_X7_cellOf l D t q8 ) gX7_addsPoint_X7_cellOf rfl ⟨rfl, rfl⟩ 2 rfl (by decide +kernel) ⟨Nat.le_of_ble_eq_true rfl, Nat.le_of_ble_eq_true rfl⟩ kGT_ok trivial (fun k q h => by simp at h) hl.1 rfl (Nat.le_of_ble_eq_true rfl) ⟨Nat.le_of_ble_eq_true rfl, Nat.le_of_ble_eq_true rfl⟩ dX7_addsPoint_41 (fun r_16 hr_16 => ?_)
                have hr_16 : r_16 = cel t q8 := hr_16
                subst hr_16
                have := cel_eq t q8
                refine lv_iload hx hb dX7_addsPoint_44 (lv_at hl 0 rfl) ?_
                refine k_iadd hx hb dX7_addsPoint_46 ?_
                refine lv_aload_n hx hb dX7_addsPoint_47 rfl (lv_at hl 2 rfl) ?_
                refine va_get (D := D) (ci := 6) (v := .ref (a 1)) (C := RX7) (T := TX7) (N := 19) hx hb hts hinX7 hown hK hP 0 rfl rfl 0 (by decide) hm0 (fun _ h9 => h9) rfl dX7_addsPoint_48 ?_
                refine lv_iload_n hx hb dX7_addsPoint_51 rfl (lv_at hl 3 rfl) ?_
                refine lv_iload hx hb dX7_addsPoint_52 (lv_at hl 1 rfl) ?_
                refine k_iconst hx hb dX7_addsPoint_54 ?_
                refine k_isub hx hb dX7_addsPoint_55 ?_
                refine k_roS (As := [.int (iI t), .int (iI (q8 - 1))]) (rest := [.ref (a 1), .int (iI ((cel t q8) + 1)), .ref (a 1)]) ⟨hx, hb, hml, hown, hts⟩ (c_X7_cellOf l D t (q8 - 1) ) gX7_addsPoint_X7_cellOf rfl ⟨rfl, rfl⟩ 2 rfl (by decide +kernel) ⟨Nat.le_of_ble_eq_true rfl, Nat.le_of_ble_eq_true rfl⟩ kGT_ok trivial (fun k q h => by simp at h) hl.1 rfl (Nat.le_of_ble_eq_true rfl) ⟨Nat.le_of_ble_eq_true rfl, Nat.le_of_ble_eq_true rfl⟩ dX7_addsPoint_56 (fun r_17 hr_17 => ?_)
                have hr_17 : r_17 = cel t (q8 - 1) := hr_17
                subst hr_17
                have := cel_eq t (q8 - 1)
                refine lv_iload hx hb dX7_addsPoint_59 (lv_at hl 0 rfl) ?_
                refine k_iadd hx hb dX7_addsPoint_61 ?_
                refine k_iald hx hb hK hP 1 0 (f := ups (shb (R 1) (cel t q8 + 3) (cel t (pts (R 1) t) + 3) 3) ((cel t q8) + 0) ((shb (R 1) (cel t q8 + 3) (cel t (pts (R 1) t) + 3) 3) ((cel t (q8 - 1)) + 0))) rfl rfl (i := (cel t (q8 - 1)) + 1) (by omega) dX7_addsPoint_62 ?_
                refine k_iast hx hb hK hP hD hS 1 0 (f := ups (shb (R 1) (cel t q8 + 3) (cel t (pts (R 1) t) + 3) 3) ((cel t q8) + 0) ((shb (R 1) (cel t q8 + 3) (cel t (pts (R 1) t) + 3) 3) ((cel t (q8 - 1)) + 0))) rfl rfl (i := (cel t q8) + 1) (x := (ups (shb (R 1) (cel t q8 + 3) (cel t (pts (R 1) t) + 3) 3) ((cel t q8) + 0) ((shb (R 1) (cel t q8 + 3) (cel t (pts (R 1) t) + 3) 3) ((cel t (q8 - 1)) + 0))) ((cel t (q8 - 1)) + 1)) (by omega) dX7_addsPoint_63 (fun H locs hP hD hS => ?_)
                have hP : va_P D vwCl (rfW cy a (upr R 1 (ups (ups (shb (R 1) (cel t q8 + 3) (cel t (pts (R 1) t) + 3) 3) ((cel t q8) + 0) ((shb (R 1) (cel t q8 + 3) (cel t (pts (R 1) t) + 3) 3) ((cel t (q8 - 1)) + 0))) ((cel t q8) + 1) ((ups (shb (R 1) (cel t q8 + 3) (cel t (pts (R 1) t) + 3) 3) ((cel t q8) + 0) ((shb (R 1) (cel t q8 + 3) (cel t (pts (R 1) t) + 3) 3) ((cel t (q8 - 1)) + 0))) ((cel t (q8 - 1)) + 1))))) H := hP
                have hD : va_D (va_A (rfW cy a R) sz) (rfW cy a (upr R 1 (ups (ups (shb (R 1) (cel t q8 + 3) (cel t (pts (R 1) t) + 3) 3) ((cel t q8) + 0) ((shb (R 1) (cel t q8 + 3) (cel t (pts (R 1) t) + 3) 3) ((cel t (q8 - 1)) + 0))) ((cel t q8) + 1) ((ups (shb (R 1) (cel t q8 + 3) (cel t (pts (R 1) t) + 3) 3) ((cel t q8) + 0) ((shb (R 1) (cel t q8 + 3) (cel t (pts (R 1) t) + 3) 3) ((cel t (q8 - 1)) + 0))) ((cel t (q8 - 1)) + 1))))) := hD
                refine lv_iinc (v := iI 2) (lv' := [(6, .int (iI 2)), (5, .int (iI q8)), (0, .ref (a 0)), (1, .int (iI t)), (2, .int (iI f)), (3, .int (iI x)), (4, .int (iI y))]) hx hb dX7_addsPoint_64 hl (k := 0) rfl (show iI 1 + iI 1 = iI 2 from iI_add _ _) (by decide) rfl (fun ls hl => ?_)
                refine lv_goto (tgt := 28) hx hb dX7_addsPoint_67 (by decide) ?_
                refine lv_iload hx hb dX7_addsPoint_28 (lv_at hl 0 rfl) ?_
                refine k_iconst hx hb dX7_addsPoint_30 ?_
                refine k_icmp_ge (tgt := 70) hx hb dX7_addsPoint_31 (by decide) (by omega) (by omega) (fun c_18 => ?_) (fun c_18 => ?_)
                · exfalso; omega
                · skip
                  refine lv_aload_n hx hb dX7_addsPoint_34 rfl (lv_at hl 2 rfl) ?_
                  refine va_get (D := D) (ci := 6) (v := .ref (a 1)) (C := RX7) (T := TX7) (N := 19) hx hb hts hinX7 hown hK hP 0 rfl rfl 0 (by decide) hm0 (fun _ h9 => h9) rfl dX7_addsPoint_35 ?_
                  refine lv_iload_n hx hb dX7_addsPoint_38 rfl (lv_at hl 3 rfl) ?_
                  refine lv_iload hx hb dX7_addsPoint_39 (lv_at hl 1 rfl) ?_
                  refine k_roS (As := [.int (iI t), .int (iI q8)]) (rest := [.ref (a 1)]) ⟨hx, hb, hml, hown, hts⟩ (c_X7_cellOf l D t q8 ) gX7_addsPoint_X7_cellOf rfl ⟨rfl, rfl⟩ 2 rfl (by decide +kernel) ⟨Nat.le_of_ble_eq_true rfl, Nat.le_of_ble_eq_true rfl⟩ kGT_ok trivial (fun k q h => by simp at h) hl.1 rfl (Nat.le_of_ble_eq_true rfl) ⟨Nat.le_of_ble_eq_true rfl, Nat.le_of_ble_eq_true rfl⟩ dX7_addsPoint_41 (fun r_19 hr_19 => ?_)
                  have hr_19 : r_19 = cel t q8 := hr_19
                  subst hr_19
                  have := cel_eq t q8
                  refine lv_iload hx hb dX7_addsPoint_44 (lv_at hl 0 rfl) ?_
                  refine k_iadd hx hb dX7_addsPoint_46 ?_
                  refine lv_aload_n hx hb dX7_addsPoint_47 rfl (lv_at hl 2 rfl) ?_
                  refine va_get (D := D) (ci := 6) (v := .ref (a 1)) (C := RX7) (T := TX7) (N := 19) hx hb hts hinX7 hown hK hP 0 rfl rfl 0 (by decide) hm0 (fun _ h9 => h9) rfl dX7_addsPoint_48 ?_
                  refine lv_iload_n hx hb dX7_addsPoint_51 rfl (lv_at hl 3 rfl) ?_
                  refine lv_iload hx hb dX7_addsPoint_52 (lv_at hl 1 rfl) ?_
                  refine k_iconst hx hb dX7_addsPoint_54 ?_
                  refine k_isub hx hb dX7_addsPoint_55 ?_
                  refine k_roS (As := [.int (iI t), .int (iI (q8 - 1))]) (rest := [.ref (a 1), .int (iI ((cel t q8) + 2)), .ref (a 1)]) ⟨hx, hb, hml, hown, hts⟩ (c_X7_cellOf l D t (q8 - 1) ) gX7_addsPoint_X7_cellOf rfl ⟨rfl, rfl⟩ 2 rfl (by decide +kernel) ⟨Nat.le_of_ble_eq_true rfl, Nat.le_of_ble_eq_true rfl⟩ kGT_ok trivial (fun k q h => by simp at h) hl.1 rfl (Nat.le_of_ble_eq_true rfl) ⟨Nat.le_of_ble_eq_true rfl, Nat.le_of_ble_eq_true rfl⟩ dX7_addsPoint_56 (fun r_20 hr_20 => ?_)
                  have hr_20 : r_20 = cel t (q8 - 1) := hr_20
                  subst hr_20
                  have := cel_eq t (q8 - 1)
                  refine lv_iload hx hb dX7_addsPoint_59 (lv_at hl 0 rfl) ?_
                  refine k_iadd hx hb dX7_addsPoint_61 ?_
                  refine k_iald hx hb hK hP 1 0 (f := ups (ups (shb (R 1) (cel t q8 + 3) (cel t (pts (R 1) t) + 3) 3) ((cel t q8) + 0) ((shb (R 1) (cel t q8 + 3) (cel t (pts (R 1) t) + 3) 3) ((cel t (q8 - 1)) + 0))) ((cel t q8) + 1) ((ups (shb (R 1) (cel t q8 + 3) (cel t (pts (R 1) t) + 3) 3) ((cel t q8) + 0) ((shb (R 1) (cel t q8 + 3) (cel t (pts (R 1) t) + 3) 3) ((cel t (q8 - 1)) + 0))) ((cel t (q8 - 1)) + 1))) rfl rfl (i := (cel t (q8 - 1)) + 2) (by omega) dX7_addsPoint_62 ?_
                  refine k_iast hx hb hK hP hD hS 1 0 (f := ups (ups (shb (R 1) (cel t q8 + 3) (cel t (pts (R 1) t) + 3) 3) ((cel t q8) + 0) ((shb (R 1) (cel t q8 + 3) (cel t (pts (R 1) t) + 3) 3) ((cel t (q8 - 1)) + 0))) ((cel t q8) + 1) ((ups (shb (R 1) (cel t q8 + 3) (cel t (pts (R 1) t) + 3) 3) ((cel t q8) + 0) ((shb (R 1) (cel t q8 + 3) (cel t (pts (R 1) t) + 3) 3) ((cel t (q8 - 1)) + 0))) ((cel t (q8 - 1)) + 1))) rfl rfl (i := (cel t q8) + 2) (x := (ups (ups (shb (R 1) (cel t q8 + 3) (cel t (pts (R 1) t) + 3) 3) ((cel t q8) + 0) ((shb (R 1) (cel t q8 + 3) (cel t (pts (R 1) t) + 3) 3) ((cel t (q8 - 1)) + 0))) ((cel t q8) + 1) ((ups (shb (R 1) (cel t q8 + 3) (cel t (pts (R 1) t) + 3) 3) ((cel t q8) + 0) ((shb (R 1) (cel t q8 + 3) (cel t (pts (R 1) t) + 3) 3) ((cel t (q8 - 1)) + 0))) ((cel t (q8 - 1)) + 1))) ((cel t (q8 - 1)) + 2)) (by omega) dX7_addsPoint_63 (fun H locs hP hD hS => ?_)
                  have hP : va_P D vwCl (rfW cy a (upr R 1 (ups (ups (ups (shb (R 1) (cel t q8 + 3) (cel t (pts (R 1) t) + 3) 3) ((cel t q8) + 0) ((shb (R 1) (cel t q8 + 3) (cel t (pts (R 1) t) + 3) 3) ((cel t (q8 - 1)) + 0))) ((cel t q8) + 1) ((ups (shb (R 1) (cel t q8 + 3) (cel t (pts (R 1) t) + 3) 3) ((cel t q8) + 0) ((shb (R 1) (cel t q8 + 3) (cel t (pts (R 1) t) + 3) 3) ((cel t (q8 - 1)) + 0))) ((cel t (q8 - 1)) + 1))) ((cel t q8) + 2) ((ups (ups (shb (R 1) (cel t q8 + 3) (cel t (pts (R 1) t) + 3) 3) ((cel t q8) + 0) ((shb (R 1) (cel t q8 + 3) (cel t (pts (R 1) t) + 3) 3) ((cel t (q8 - 1)) + 0))) ((cel t q8) + 1) ((ups (shb (R 1) (cel t q8 + 3) (cel t (pts (R 1) t) + 3) 3) ((cel t q8) + 0) ((shb (R 1) (cel t q8 + 3) (cel t (pts (R 1) t) + 3) 3) ((cel t (q8 - 1)) + 0))) ((cel t (q8 - 1)) + 1))) ((cel t (q8 - 1)) + 2))))) H := hP
                  have hD : va_D (va_A (rfW cy a R) sz) (rfW cy a (upr R 1 (ups (ups (ups (shb (R 1) (cel t q8 + 3) (cel t (pts (R 1) t) + 3) 3) ((cel t q8) + 0) ((shb (R 1) (cel t q8 + 3) (cel t (pts (R 1) t) + 3) 3) ((cel t (q8 - 1)) + 0))) ((cel t q8) + 1) ((ups (shb (R 1) (cel t q8 + 3) (cel t (pts (R 1) t) + 3) 3) ((cel t q8) + 0) ((shb (R 1) (cel t q8 + 3) (cel t (pts (R 1) t) + 3) 3) ((cel t (q8 - 1)) + 0))) ((cel t (q8 - 1)) + 1))) ((cel t q8) + 2) ((ups (ups (shb (R 1) (cel t q8 + 3) (cel t (pts (R 1) t) + 3) 3) ((cel t q8) + 0) ((shb (R 1) (cel t q8 + 3) (cel t (pts (R 1) t) + 3) 3) ((cel t (q8 - 1)) + 0))) ((cel t q8) + 1) ((ups (shb (R 1) (cel t q8 + 3) (cel t (pts (R 1) t) + 3) 3) ((cel t q8) + 0) ((shb (R 1) (cel t q8 + 3) (cel t (pts (R 1) t) + 3) 3) ((cel t (q8 - 1)) + 0))) ((cel t (q8 - 1)) + 1))) ((cel t (q8 - 1)) + 2))))) := hD
                  refine lv_iinc (v := iI 3) (lv' := [(6, .int (iI 3)), (5, .int (iI q8)), (0, .ref (a 0)), (1, .int (iI t)), (2, .int (iI f)), (3, .int (iI x)), (4, .int (iI y))]) hx hb dX7_addsPoint_64 hl (k := 0) rfl (show iI 2 + iI 1 = iI 3 from iI_add _ _) (by decide) rfl (fun ls hl => ?_)
                  refine lv_goto (tgt := 28) hx hb dX7_addsPoint_67 (by decide) ?_
                  refine lv_iload hx hb dX7_addsPoint_28 (lv_at hl 0 rfl) ?_
                  refine k_iconst hx hb dX7_addsPoint_30 ?_
                  refine k_icmp_ge (tgt := 70) hx hb dX7_addsPoint_31 (by decide) (by omega) (by omega) (fun c_21 => ?_) (fun c_21 => ?_)
                  · skip
                    refine lv_iinc (v := iI (q8 + (-1))) (lv' := [(5, .int (iI (q8 + (-1)))), (6, .int (iI 3)), (0, .ref (a 0)), (1, .int (iI t)), (2, .int (iI f)), (3, .int (iI x)), (4, .int (iI y))]) hx hb dX7_addsPoint_70 hl (k := 1) rfl (iI_add _ _) (by decide) rfl (fun ls hl => ?_)
                    refine lv_goto (tgt := 7) hx hb dX7_addsPoint_73 (by decide) ?_
                    exact ih7 (q8 + (-1))  (by omega) (by omega) (by rw [← hi2]; exact (posI_step (by assumption) (by assumption)).symm) (by omega) H locs (by rw [show (shb (R 1) (cel t (q8 + (-1)) + 3) (cel t (pts (R 1) t) + 3) 3) = (ups (ups (ups (shb (R 1) (cel t q8 + 3) (cel t (pts (R 1) t) + 3) 3) ((cel t q8) + 0) ((shb (R 1) (cel t q8 + 3) (cel t (pts (R 1) t) + 3) 3) ((cel t (q8 - 1)) + 0))) ((cel t q8) + 1) ((ups (shb (R 1) (cel t q8 + 3) (cel t (pts (R 1) t) + 3) 3) ((cel t q8) + 0) ((shb (R 1) (cel t q8 + 3) (cel t (pts (R 1) t) + 3) 3) ((cel t (q8 - 1)) + 0))) ((cel t (q8 - 1)) + 1))) ((cel t q8) + 2) ((ups (ups (shb (R 1) (cel t q8 + 3) (cel t (pts (R 1) t) + 3) 3) ((cel t q8) + 0) ((shb (R 1) (cel t q8 + 3) (cel t (pts (R 1) t) + 3) 3) ((cel t (q8 - 1)) + 0))) ((cel t q8) + 1) ((ups (shb (R 1) (cel t q8 + 3) (cel t (pts (R 1) t) + 3) 3) ((cel t q8) + 0) ((shb (R 1) (cel t q8 + 3) (cel t (pts (R 1) t) + 3) 3) ((cel t (q8 - 1)) + 0))) ((cel t (q8 - 1)) + 1))) ((cel t (q8 - 1)) + 2))) from by show shb (R 1) (cel t (q8 - 1) + 3) _ 3 = _; rw [show cel t (q8 - 1) + 3 = cel t q8 by omega]; exact shb_s3 (R 1) (by omega) (by omega)]; exact hP) (k_addr hD rfl) hS ls (lv_sub hl [0, 2, 3, 4, 5, 6] rfl)
                  · exfalso; omega
    exact loop7 (((pts (R 1) t) : Int) + 1).toNat (pts (R 1) t)  (by omega) (by omega) (rfl) (by omega) H locs (by rw [show (shb (R 1) (cel t (pts (R 1) t) + 3) (cel t (pts (R 1) t) + 3) 3) = (R 1) from (shb_0 _ _ (by omega)).symm.symm]; exact hP) (k_addr hD rfl) hS ls (lv_sub hl [0, 1, 2, 3, 4, 5] rfl)
  exact hbody s.heap [] hP hS ls hl
set_option maxHeartbeats 4000000 in
set_option maxRecDepth 100000 in
theorem c_X7_addPoint (l : Launch) (D : va_G) (cy : Nat → ClassId) (sz : Nat) (a : Nat → Nat) (R : Nat → Int → Int) (t f x y : Int) (hI : Inv (R 1)) (hsc : 0 ≤ R 0 2 ∧ R 0 2 ≤ 4) (hrt : -2147483648 ≤ t ∧ t ≤ 2147483647) (hrf : -2147483648 ≤ f ∧ f ≤ 2147483647) (hrx : -2147483648 ≤ x ∧ x ≤ 2147483647) (hry : -2147483648 ≤ y ∧ y ≤ 2147483647) : Met l yX7_addPoint wsX7_addPoint { frames := 4, cells := 0, slots := 0, locals := 91 } (mPre (GG D cy) D (rfW cy a R) sz ([.ref (a 0), .int (iI t), .int (iI f), .int (iI x), .int (iI y)] : List Value)) (kQi D (rfW cy a R) sz (fun u9 : Nat → Int → Int => rfW cy a u9) (fun r9 u9 => ((¬ (0 ≤ t ∧ t < R 1 12)) ∧ r9 = 0 ∧ u9 = (upr R 0 (ups (R 0) 6 1))) ∨ (((0 ≤ t ∧ t < R 1 12) ∧ ¬ pointOK f x y) ∧ r9 = 0 ∧ u9 = (upr R 0 (ups (R 0) 6 2))) ∨ ((((0 ≤ t ∧ t < R 1 12) ∧ pointOK f x y) ∧ (pts (R 1) t = 12 ∨ hasF (R 1) t f)) ∧ r9 = 0 ∧ u9 = (upr R 0 (ups (R 0) 6 3))) ∨ ((((0 ≤ t ∧ t < R 1 12) ∧ pointOK f x y) ∧ (pts (R 1) t < 12 ∧ ¬ hasF (R 1) t f)) ∧ r9 = posF (R 1) t f ∧ u9 = (upr (upr (upr R 0 (ups (ups (R 0) 6 0) 2 (kpN (R 0 2)))) 1 (tAP (R 1) t f x y)) 2 (kpS (R 2) (R 1) (R 0 2)))))) 0 0 (va_A (rfW cy a R) sz) := by
  refine kM_start (cc := cX7_addPoint) (maxL := 5) (ret := (some .int)) (by decide) rfl (Nat.le_of_ble_eq_true rfl) ?_
  intro p e s m below meth c hx hb hr hlocks hml hts hown hsz hA hG hP hD hS hin ls hl
  have hK := hG.1
  have hl : lv_has ls 5 [(0, .ref (a 0)), (1, .int (iI t)), (2, .int (iI f)), (3, .int (iI x)), (4, .int (iI y))] := hl
  have hinX7 : ∀ w ∈ u_ws RX7 TX7 19, w ∈ wsX7_addPoint := by decide +kernel
  have hm0 := hts (.fieldLink RX7 31 "ArcPlateModel" "code" "I") (by decide +kernel)
  have hbody : ∀ (H : Heap) (locs : List Loc) (hP : va_P D vwCl (rfW cy a R) H) (hS : va_S (va_A (rfW cy a R) sz) s.heap H locs) (ls : Array Slot) (hl : lv_has ls 5 [(0, .ref (a 0)), (1, .int (iI t)), (2, .int (iI f)), (3, .int (iI x)), (4, .int (iI y))]), W p l e { frames := 4, cells := 0, slots := 0, locals := 91 } s m ([.ref (a 0), .int (iI t), .int (iI f), .int (iI x), .int (iI y)] : List Value).toArray below meth c H locs 0 0 (MQ below (kQi D (rfW cy a R) sz (fun u9 : Nat → Int → Int => rfW cy a u9) (fun r9 u9 => ((¬ (0 ≤ t ∧ t < R 1 12)) ∧ r9 = 0 ∧ u9 = (upr R 0 (ups (R 0) 6 1))) ∨ (((0 ≤ t ∧ t < R 1 12) ∧ ¬ pointOK f x y) ∧ r9 = 0 ∧ u9 = (upr R 0 (ups (R 0) 6 2))) ∨ ((((0 ≤ t ∧ t < R 1 12) ∧ pointOK f x y) ∧ (pts (R 1) t = 12 ∨ hasF (R 1) t f)) ∧ r9 = 0 ∧ u9 = (upr R 0 (ups (R 0) 6 3))) ∨ ((((0 ≤ t ∧ t < R 1 12) ∧ pointOK f x y) ∧ (pts (R 1) t < 12 ∧ ¬ hasF (R 1) t f)) ∧ r9 = posF (R 1) t f ∧ u9 = (upr (upr (upr R 0 (ups (ups (R 0) 6 0) 2 (kpN (R 0 2)))) 1 (tAP (R 1) t f x y)) 2 (kpS (R 2) (R 1) (R 0 2)))))) ([.ref (a 0), .int (iI t), .int (iI f), .int (iI x), .int (iI y)] : List Value).toArray s 0 0 (va_A (rfW cy a R) sz)) (F0 m 0 ls []) := by
    intro H locs hP hS ls hl
    refine lv_aload_n hx hb dX7_addPoint_0 rfl (lv_at hl 0 rfl) ?_
    refine lv_aload_n hx hb dX7_addPoint_1 rfl (lv_at hl 0 rfl) ?_
    refine lv_iload_n hx hb dX7_addPoint_2 rfl (lv_at hl 1 rfl) ?_
    refine lv_iload_n hx hb dX7_addPoint_3 rfl (lv_at hl 2 rfl) ?_
    refine lv_iload_n hx hb dX7_addPoint_4 rfl (lv_at hl 3 rfl) ?_
    refine lv_iload hx hb dX7_addPoint_5 (lv_at hl 4 rfl) ?_
    refine k_roV (As := [.int (iI t), .int (iI f), .int (iI x), .int (iI y)]) (rest := [.ref (a 0)]) ⟨hx, hb, hml, hown, hts⟩ (c_X7_notPoint l D cy a R t f x y hI (show -2147483648 ≤ t ∧ t ≤ 2147483647 by omega) (show -2147483648 ≤ f ∧ f ≤ 2147483647 by omega) (show -2147483648 ≤ x ∧ x ≤ 2147483647 by omega) (show -2147483648 ≤ y ∧ y ≤ 2147483647 by omega)) gX7_addPoint_X7_notPoint rfl ⟨rfl, rfl⟩ 4 rfl (by decide +kernel) ⟨Nat.le_of_ble_eq_true rfl, Nat.le_of_ble_eq_true rfl⟩ (GG_ok D cy) ((GG_ok D cy).2.2.2 _ _ _ _ (fun _ h => h.elim) ((GG_ok D cy).1 _ _ _ _ hS.2.1 hG)) hP (va_recv hK hP (ci := 6) (q0 := 0) rfl rfl) hl.1 rfl (Nat.le_of_ble_eq_true rfl) ⟨Nat.le_of_ble_eq_true rfl, Nat.le_of_ble_eq_true rfl⟩ dX7_addPoint_7 (fun r_1 hr_1 => ?_)
    have hr_1 : ((¬ (0 ≤ t ∧ t < R 1 12)) ∧ r_1 = 1) ∨ (((0 ≤ t ∧ t < R 1 12) ∧ ¬ pointOK f x y) ∧ r_1 = 2) ∨ ((((0 ≤ t ∧ t < R 1 12) ∧ pointOK f x y) ∧ (pts (R 1) t = 12 ∨ hasF (R 1) t f)) ∧ r_1 = 3) ∨ ((((0 ≤ t ∧ t < R 1 12) ∧ pointOK f x y) ∧ (pts (R 1) t < 12 ∧ ¬ hasF (R 1) t f)) ∧ r_1 = 0) := hr_1
    rcases hr_1 with ⟨c_2, hr_1⟩ | ⟨c_2, hr_1⟩ | ⟨c_2, hr_1⟩ | ⟨c_2, hr_1⟩ <;> subst hr_1
    · skip
      refine va_put (D := D) (ci := 6) (v := .int (iI 1)) (ty := .int) (C := RX7) (T := TX7) (N := 19) hx hb hts hinX7 tyX7 tyX7_ok nmX7 hown hK hP hD hS 0 rfl rfl 6 (by decide) hm0 (fun _ h9 => h9) rfl (by decide +kernel) rfl rfl (Nat.le_of_ble_eq_true rfl) dX7_addPoint_10 (fun H locs hP hD hS => ?_)
      have hP : va_P D vwCl (rfW cy a (upr R 0 (ups (R 0) 6 1))) H := hP
      have hD : va_D (va_A (rfW cy a R) sz) (rfW cy a (upr R 0 (ups (R 0) 6 1))) := hD
      refine lv_aload_n hx hb dX7_addPoint_13 rfl (lv_at hl 0 rfl) ?_
      refine va_get (D := D) (ci := 6) (v := .int (iI 1)) (C := RX7) (T := TX7) (N := 19) hx hb hts hinX7 hown hK hP 0 rfl rfl 6 (by decide) hm0 (fun _ h9 => h9) rfl dX7_addPoint_14 ?_
      refine k_if_eq (tgt := 22) hx hb dX7_addPoint_17 (by decide) (by omega) (fun c_3 => ?_) (fun c_3 => ?_)
      · exfalso; omega
      · skip
        refine k_iconst hx hb dX7_addPoint_20 ?_
        exact W.iret (v := iI 0) hx hb hr (fun t9 ht _ => ⟨⟨iI 0, (upr R 0 (ups (R 0) 6 1)), rfl, ⟨0, rfl, (by first | exact Or.inl ⟨(by assumption), (by first | rfl | omega), rfl⟩ | exact Or.inr (Or.inl ⟨(by assumption), (by first | rfl | omega), rfl⟩) | exact Or.inr (Or.inr (Or.inl ⟨(by assumption), (by first | rfl | omega), rfl⟩)) | exact Or.inr (Or.inr (Or.inr (⟨(by assumption), (by first | rfl | omega), rfl⟩))) : ((¬ (0 ≤ t ∧ t < R 1 12)) ∧ (0 : Int) = 0 ∧ (upr R 0 (ups (R 0) 6 1)) = (upr R 0 (ups (R 0) 6 1))) ∨ (((0 ≤ t ∧ t < R 1 12) ∧ ¬ pointOK f x y) ∧ (0 : Int) = 0 ∧ (upr R 0 (ups (R 0) 6 1)) = (upr R 0 (ups (R 0) 6 2))) ∨ ((((0 ≤ t ∧ t < R 1 12) ∧ pointOK f x y) ∧ (pts (R 1) t = 12 ∨ hasF (R 1) t f)) ∧ (0 : Int) = 0 ∧ (upr R 0 (ups (R 0) 6 1)) = (upr R 0 (ups (R 0) 6 3))) ∨ ((((0 ≤ t ∧ t < R 1 12) ∧ pointOK f x y) ∧ (pts (R 1) t < 12 ∧ ¬ hasF (R 1) t f)) ∧ (0 : Int) = posF (R 1) t f ∧ (upr R 0 (ups (R 0) 6 1)) = (upr (upr (upr R 0 (ups (ups (R 0) 6 0) 2 (kpN (R 0 2)))) 1 (tAP (R 1) t f x y)) 2 (kpS (R 2) (R 1) (R 0 2)))))⟩, by rw [ht]; exact hP, hD⟩, hS.F ht⟩) hS.2.2 dX7_addPoint_21 hlocks
    · skip
      refine va_put (D := D) (ci := 6) (v := .int (iI 2)) (ty := .int) (C := RX7) (T := TX7) (N := 19) hx hb hts hinX7 tyX7 tyX7_ok nmX7 hown hK hP hD hS 0 rfl rfl 6 (by decide) hm0 (fun _ h9 => h9) rfl (by decide +kernel) rfl rfl (Nat.le_of_ble_eq_true rfl) dX7_addPoint_10 (fun H locs hP hD hS => ?_)
      have hP : va_P D vwCl (rfW cy a (upr R 0 (ups (R 0) 6 2))) H := hP
      have hD : va_D (va_A (rfW cy a R) sz) (rfW cy a (upr R 0 (ups (R 0) 6 2))) := hD
      refine lv_aload_n hx hb dX7_addPoint_13 rfl (lv_at hl 0 rfl) ?_
      refine va_get (D := D) (ci := 6) (v := .int (iI 2)) (C := RX7) (T := TX7) (N := 19) hx hb hts hinX7 hown hK hP 0 rfl rfl 6 (by decide) hm0 (fun _ h9 => h9) rfl dX7_addPoint_14 ?_
      refine k_if_eq (tgt := 22) hx hb dX7_addPoint_17 (by decide) (by omega) (fun c_4 => ?_) (fun c_4 => ?_)
      · exfalso; omega
      · skip
        refine k_iconst hx hb dX7_addPoint_20 ?_
        exact W.iret (v := iI 0) hx hb hr (fun t9 ht _ => ⟨⟨iI 0, (upr R 0 (ups (R 0) 6 2)), rfl, ⟨0, rfl, (by first | exact Or.inl ⟨(by assumption), (by first | rfl | omega), rfl⟩ | exact Or.inr (Or.inl ⟨(by assumption), (by first | rfl | omega), rfl⟩) | exact Or.inr (Or.inr (Or.inl ⟨(by assumption), (by first | rfl | omega), rfl⟩)) | exact Or.inr (Or.inr (Or.inr (⟨(by assumption), (by first | rfl | omega), rfl⟩))) : ((¬ (0 ≤ t ∧ t < R 1 12)) ∧ (0 : Int) = 0 ∧ (upr R 0 (ups (R 0) 6 2)) = (upr R 0 (ups (R 0) 6 1))) ∨ (((0 ≤ t ∧ t < R 1 12) ∧ ¬ pointOK f x y) ∧ (0 : Int) = 0 ∧ (upr R 0 (ups (R 0) 6 2)) = (upr R 0 (ups (R 0) 6 2))) ∨ ((((0 ≤ t ∧ t < R 1 12) ∧ pointOK f x y) ∧ (pts (R 1) t = 12 ∨ hasF (R 1) t f)) ∧ (0 : Int) = 0 ∧ (upr R 0 (ups (R 0) 6 2)) = (upr R 0 (ups (R 0) 6 3))) ∨ ((((0 ≤ t ∧ t < R 1 12) ∧ pointOK f x y) ∧ (pts (R 1) t < 12 ∧ ¬ hasF (R 1) t f)) ∧ (0 : Int) = posF (R 1) t f ∧ (upr R 0 (ups (R 0) 6 2)) = (upr (upr (upr R 0 (ups (ups (R 0) 6 0) 2 (kpN (R 0 2)))) 1 (tAP (R 1) t f x y)) 2 (kpS (R 2) (R 1) (R 0 2)))))⟩, by rw [ht]; exact hP, hD⟩, hS.F ht⟩) hS.2.2 dX7_addPoint_21 hlocks
    · skip
      refine va_put (D := D) (ci := 6) (v := .int (iI 3)) (ty := .int) (C := RX7) (T := TX7) (N := 19) hx hb hts hinX7 tyX7 tyX7_ok nmX7 hown hK hP hD hS 0 rfl rfl 6 (by decide) hm0 (fun _ h9 => h9) rfl (by decide +kernel) rfl rfl (Nat.le_of_ble_eq_true rfl) dX7_addPoint_10 (fun H locs hP hD hS => ?_)
      have hP : va_P D vwCl (rfW cy a (upr R 0 (ups (R 0) 6 3))) H := hP
      have hD : va_D (va_A (rfW cy a R) sz) (rfW cy a (upr R 0 (ups (R 0) 6 3))) := hD
      refine lv_aload_n hx hb dX7_addPoint_13 rfl (lv_at hl 0 rfl) ?_
      refine va_get (D := D) (ci := 6) (v := .int (iI 3)) (C := RX7) (T := TX7) (N := 19) hx hb hts hinX7 hown hK hP 0 rfl rfl 6 (by decide) hm0 (fun _ h9 => h9) rfl dX7_addPoint_14 ?_
      refine k_if_eq (tgt := 22) hx hb dX7_addPoint_17 (by decide) (by omega) (fun c_5 => ?_) (fun c_5 => ?_)
      · exfalso; omega
      · skip
        refine k_iconst hx hb dX7_addPoint_20 ?_
        exact W.iret (v := iI 0) hx hb hr (fun t9 ht _ => ⟨⟨iI 0, (upr R 0 (ups (R 0) 6 3)), rfl, ⟨0, rfl, (by first | exact Or.inl ⟨(by assumption), (by first | rfl | omega), rfl⟩ | exact Or.inr (Or.inl ⟨(by assumption), (by first | rfl | omega), rfl⟩) | exact Or.inr (Or.inr (Or.inl ⟨(by assumption), (by first | rfl | omega), rfl⟩)) | exact Or.inr (Or.inr (Or.inr (⟨(by assumption), (by first | rfl | omega), rfl⟩))) : ((¬ (0 ≤ t ∧ t < R 1 12)) ∧ (0 : Int) = 0 ∧ (upr R 0 (ups (R 0) 6 3)) = (upr R 0 (ups (R 0) 6 1))) ∨ (((0 ≤ t ∧ t < R 1 12) ∧ ¬ pointOK f x y) ∧ (0 : Int) = 0 ∧ (upr R 0 (ups (R 0) 6 3)) = (upr R 0 (ups (R 0) 6 2))) ∨ ((((0 ≤ t ∧ t < R 1 12) ∧ pointOK f x y) ∧ (pts (R 1) t = 12 ∨ hasF (R 1) t f)) ∧ (0 : Int) = 0 ∧ (upr R 0 (ups (R 0) 6 3)) = (upr R 0 (ups (R 0) 6 3))) ∨ ((((0 ≤ t ∧ t < R 1 12) ∧ pointOK f x y) ∧ (pts (R 1) t < 12 ∧ ¬ hasF (R 1) t f)) ∧ (0 : Int) = posF (R 1) t f ∧ (upr R 0 (ups (R 0) 6 3)) = (upr (upr (upr R 0 (ups (ups (R 0) 6 0) 2 (kpN (R 0 2)))) 1 (tAP (R 1) t f x y)) 2 (kpS (R 2) (R 1) (R 0 2)))))⟩, by rw [ht]; exact hP, hD⟩, hS.F ht⟩) hS.2.2 dX7_addPoint_21 hlocks
    · skip
      refine va_put (D := D) (ci := 6) (v := .int (iI 0)) (ty := .int) (C := RX7) (T := TX7) (N := 19) hx hb hts hinX7 tyX7 tyX7_ok nmX7 hown hK hP hD hS 0 rfl rfl 6 (by decide) hm0 (fun _ h9 => h9) rfl (by decide +kernel) rfl rfl (Nat.le_of_ble_eq_true rfl) dX7_addPoint_10 (fun H locs hP hD hS => ?_)
      have hP : va_P D vwCl (rfW cy a (upr R 0 (ups (R 0) 6 0))) H := hP
      have hD : va_D (va_A (rfW cy a R) sz) (rfW cy a (upr R 0 (ups (R 0) 6 0))) := hD
      refine lv_aload_n hx hb dX7_addPoint_13 rfl (lv_at hl 0 rfl) ?_
      refine va_get (D := D) (ci := 6) (v := .int (iI 0)) (C := RX7) (T := TX7) (N := 19) hx hb hts hinX7 hown hK hP 0 rfl rfl 6 (by decide) hm0 (fun _ h9 => h9) rfl dX7_addPoint_14 ?_
      refine k_if_eq (tgt := 22) hx hb dX7_addPoint_17 (by decide) (by omega) (fun c_6 => ?_) (fun c_6 => ?_)
      · skip
        refine lv_aload_n hx hb dX7_addPoint_22 rfl (lv_at hl 0 rfl) ?_
        refine k_muv (k_runV (As := []) (rest := []) ⟨hx, hb, hml, hown, hts⟩ (c_X7_keep l D cy H.size a (upr R 0 (ups (R 0) 6 0)) (show 0 ≤ (R 0 2) ∧ (R 0 2) ≤ 4 by omega)) gX7_addPoint_X7_keep rfl ⟨rfl, rfl⟩ 0 rfl (by decide +kernel) ⟨Nat.le_of_ble_eq_true rfl, Nat.le_of_ble_eq_true rfl⟩ (GG_ok D cy) hG hS (k_free hD hS hA) hP hD (va_recv hK hP (ci := 6) (q0 := 0) rfl rfl) hl.1 rfl (Nat.le_of_ble_eq_true rfl) ⟨Nat.le_of_ble_eq_true rfl, Nat.le_of_ble_eq_true rfl⟩ dX7_addPoint_23) (k_free hD hS hA) hS (fun R_8 H1 locs1 hR_8 hP1 hD1 hS1 hk1 => ?_)
        have hR_8 : R_8 = (upr (upr (upr R 0 (ups (R 0) 6 0)) 0 (ups ((ups (R 0) 6 0)) 2 (kpN ((R 0 2))))) 2 (kpS ((R 2)) ((R 1)) ((R 0 2)))) := hR_8
        subst hR_8
        have hDn : va_D (va_A (rfW cy a R) sz) (rfW cy a (upr (upr R 0 (ups ((ups (R 0) 6 0)) 2 (kpN ((R 0 2))))) 2 (kpS ((R 2)) ((R 1)) ((R 0 2))))) := k_addr hD rfl
        have hPn : va_P D vwCl (rfW cy a (upr (upr R 0 (ups ((ups (R 0) 6 0)) 2 (kpN ((R 0 2))))) 2 (kpS ((R 2)) ((R 1)) ((R 0 2))))) H1 := hP1
        clear hP hD hS hP1 hD1 hk1
        have hP := hPn
        have hD := hDn
        have hS := hS1
        clear hPn hDn hS1
        generalize H1 = H at hP hS ⊢
        generalize locs1 = locs at hS ⊢
        refine lv_aload_n hx hb dX7_addPoint_26 rfl (lv_at hl 0 rfl) ?_
        refine lv_iload_n hx hb dX7_addPoint_27 rfl (lv_at hl 1 rfl) ?_
        refine lv_iload_n hx hb dX7_addPoint_28 rfl (lv_at hl 2 rfl) ?_
        refine lv_iload_n hx hb dX7_addPoint_29 rfl (lv_at hl 3 rfl) ?_
        refine lv_iload hx hb dX7_addPoint_30 (lv_at hl 4 rfl) ?_
        refine k_mui (k_runV (As := [.int (iI t), .int (iI f), .int (iI x), .int (iI y)]) (rest := []) ⟨hx, hb, hml, hown, hts⟩ (c_X7_addsPoint l D cy H.size a (upr (upr R 0 (ups ((ups (R 0) 6 0)) 2 (kpN ((R 0 2))))) 2 (kpS ((R 2)) ((R 1)) ((R 0 2)))) t f x y hI (show 0 ≤ t by omega) (show t < (R 1) 12 by omega) (show -2147483648 ≤ f ∧ f ≤ 2147483647 by omega) (show pts ((R 1)) t < 12 by omega)) gX7_addPoint_X7_addsPoint rfl ⟨rfl, rfl⟩ 4 rfl (by decide +kernel) ⟨Nat.le_of_ble_eq_true rfl, Nat.le_of_ble_eq_true rfl⟩ (GG_ok D cy) hG hS (k_free hD hS hA) hP hD (va_recv hK hP (ci := 6) (q0 := 0) rfl rfl) hl.1 rfl (Nat.le_of_ble_eq_true rfl) ⟨Nat.le_of_ble_eq_true rfl, Nat.le_of_ble_eq_true rfl⟩ dX7_addPoint_32) (k_free hD hS hA) hS (fun r_9 R_10 H1 locs1 hR_10 hP1 hD1 hS1 hk1 => ?_)
        have hR_10 : r_9 = posF ((R 1)) t f ∧ R_10 = (upr (upr (upr R 0 (ups ((ups (R 0) 6 0)) 2 (kpN ((R 0 2))))) 2 (kpS ((R 2)) ((R 1)) ((R 0 2)))) 1 (tAP ((R 1)) t f x y)) := hR_10
        obtain ⟨hr_9, rfl⟩ := hR_10
        have hr_9 : r_9 = posF ((R 1)) t f := hr_9
        subst hr_9
        have hDn : va_D (va_A (rfW cy a R) sz) (rfW cy a (upr (upr (upr R 0 (ups ((ups (R 0) 6 0)) 2 (kpN ((R 0 2))))) 1 (tAP ((R 1)) t f x y)) 2 (kpS ((R 2)) ((R 1)) ((R 0 2))))) := k_addr hD rfl
        have hPn : va_P D vwCl (rfW cy a (upr (upr (upr R 0 (ups ((ups (R 0) 6 0)) 2 (kpN ((R 0 2))))) 1 (tAP ((R 1)) t f x y)) 2 (kpS ((R 2)) ((R 1)) ((R 0 2))))) H1 := hP1
        clear hP hD hS hP1 hD1 hk1
        have hP := hPn
        have hD := hDn
        have hS := hS1
        clear hPn hDn hS1
        generalize H1 = H at hP hS ⊢
        generalize locs1 = locs at hS ⊢
        exact W.iret (v := iI (posF ((R 1)) t f)) hx hb hr (fun t9 ht _ => ⟨⟨iI (posF ((R 1)) t f), (upr (upr (upr R 0 (ups ((ups (R 0) 6 0)) 2 (kpN ((R 0 2))))) 1 (tAP ((R 1)) t f x y)) 2 (kpS ((R 2)) ((R 1)) ((R 0 2)))), rfl, ⟨(posF ((R 1)) t f), rfl, (by first | exact Or.inl ⟨(by assumption), (by first | rfl | omega), rfl⟩ | exact Or.inr (Or.inl ⟨(by assumption), (by first | rfl | omega), rfl⟩) | exact Or.inr (Or.inr (Or.inl ⟨(by assumption), (by first | rfl | omega), rfl⟩)) | exact Or.inr (Or.inr (Or.inr (⟨(by assumption), (by first | rfl | omega), rfl⟩))) : ((¬ (0 ≤ t ∧ t < R 1 12)) ∧ (posF ((R 1)) t f : Int) = 0 ∧ (upr (upr (upr R 0 (ups ((ups (R 0) 6 0)) 2 (kpN ((R 0 2))))) 1 (tAP ((R 1)) t f x y)) 2 (kpS ((R 2)) ((R 1)) ((R 0 2)))) = (upr R 0 (ups (R 0) 6 1))) ∨ (((0 ≤ t ∧ t < R 1 12) ∧ ¬ pointOK f x y) ∧ (posF ((R 1)) t f : Int) = 0 ∧ (upr (upr (upr R 0 (ups ((ups (R 0) 6 0)) 2 (kpN ((R 0 2))))) 1 (tAP ((R 1)) t f x y)) 2 (kpS ((R 2)) ((R 1)) ((R 0 2)))) = (upr R 0 (ups (R 0) 6 2))) ∨ ((((0 ≤ t ∧ t < R 1 12) ∧ pointOK f x y) ∧ (pts (R 1) t = 12 ∨ hasF (R 1) t f)) ∧ (posF ((R 1)) t f : Int) = 0 ∧ (upr (upr (upr R 0 (ups ((ups (R 0) 6 0)) 2 (kpN ((R 0 2))))) 1 (tAP ((R 1)) t f x y)) 2 (kpS ((R 2)) ((R 1)) ((R 0 2)))) = (upr R 0 (ups (R 0) 6 3))) ∨ ((((0 ≤ t ∧ t < R 1 12) ∧ pointOK f x y) ∧ (pts (R 1) t < 12 ∧ ¬ hasF (R 1) t f)) ∧ (posF ((R 1)) t f : Int) = posF (R 1) t f ∧ (upr (upr (upr R 0 (ups ((ups (R 0) 6 0)) 2 (kpN ((R 0 2))))) 1 (tAP ((R 1)) t f x y)) 2 (kpS ((R 2)) ((R 1)) ((R 0 2)))) = (upr (upr (upr R 0 (ups (ups (R 0) 6 0) 2 (kpN (R 0 2)))) 1 (tAP (R 1) t f x y)) 2 (kpS (R 2) (R 1) (R 0 2)))))⟩, by rw [ht]; exact hP, hD⟩, hS.F ht⟩) hS.2.2 dX7_addPoint_35 hlocks
      · exfalso; omega
  exact hbody s.heap [] hP hS ls hl
set_option maxHeartbeats 4000000 in
set_option maxRecDepth 100000 in
theorem c_X7_look (l : Launch) (D : va_G) (cy : Nat → ClassId) (sz : Nat) (a : Nat → Nat) (R : Nat → Int → Int) (s9 : Int) (hI : Inv (R 1)) (hs9 : 1 ≤ s9 ∧ s9 ≤ 512) : Met l yX7_look wsX7_look { frames := 7, cells := 0, slots := 0, locals := 158 } (mPre (GG D cy) D (rfW cy a R) sz ([.ref (a 0), .int (iI s9)] : List Value)) (kQv D (rfW cy a R) sz (fun u9 : Nat → Int → Int => rfW cy a u9) (fun u9 => ∃ (za : Int) (zb : Int) (zc : Int), (lkR (R 1) s9 (R 0 7) (R 0 8) 9 = (za, zb, zc)) ∧ (u9 = (upr (upr R 0 (ups (ups (ups (R 0) 7 za) 8 zb) 9 zc)) 1 (R 1))))) 0 0 (va_A (rfW cy a R) sz) := by
  refine kM_start (cc := cX7_look) (maxL := 9) (ret := none) (by decide) rfl (Nat.le_of_ble_eq_true rfl) ?_
  intro p e s m below meth c hx hb hr hlocks hml hts hown hsz hA hG hP hD hS hin ls hl
  have hK := hG.1
  have hl : lv_has ls 9 [(0, .ref (a 0)), (1, .int (iI s9))] := hl
  have hinX7 : ∀ w ∈ u_ws RX7 TX7 19, w ∈ wsX7_look := by decide +kernel
  have hm0 := hts (.fieldLink RX7 7 "ArcPlateModel" "m" "[I") (by decide +kernel)
  have hm1 := hts (.constant RX7 109 (-1000000000)) (by decide +kernel)
  have hm2 := hts (.fieldLink RX7 110 "ArcPlateModel" "nextCost" "I") (by decide +kernel)
  have hm3 := hts (.fieldLink RX7 113 "ArcPlateModel" "nextX" "I") (by decide +kernel)
  have hm4 := hts (.fieldLink RX7 116 "ArcPlateModel" "nextY" "I") (by decide +kernel)
  have hpx := hI.1.2.2.2.2.2.2.2.2.2.2.1
  have hpy := hI.1.2.2.2.2.2.2.2.2.2.2.2.1
  have hbody : ∀ (H : Heap) (locs : List Loc) (hP : va_P D vwCl (rfW cy a R) H) (hS : va_S (va_A (rfW cy a R) sz) s.heap H locs) (ls : Array Slot) (hl : lv_has ls 9 [(0, .ref (a 0)), (1, .int (iI s9))]), W p l e { frames := 7, cells := 0, slots := 0, locals := 158 } s m ([.ref (a 0), .int (iI s9)] : List Value).toArray below meth c H locs 0 0 (MQ below (kQv D (rfW cy a R) sz (fun u9 : Nat → Int → Int => rfW cy a u9) (fun u9 => ∃ (za : Int) (zb : Int) (zc : Int), (lkR (R 1) s9 (R 0 7) (R 0 8) 9 = (za, zb, zc)) ∧ (u9 = (upr (upr R 0 (ups (ups (ups (R 0) 7 za) 8 zb) 9 zc)) 1 (R 1))))) ([.ref (a 0), .int (iI s9)] : List Value).toArray s 0 0 (va_A (rfW cy a R) sz)) (F0 m 0 ls []) := by
    intro H locs hP hS ls hl
    refine lv_aload_n hx hb dX7_look_0 rfl (lv_at hl 0 rfl) ?_
    refine va_get (D := D) (ci := 6) (v := .ref (a 1)) (C := RX7) (T := TX7) (N := 19) hx hb hts hinX7 hown hK hP 0 rfl rfl 0 (by decide) hm0 (fun _ h9 => h9) rfl dX7_look_1 ?_
    refine k_bipush hx hb dX7_look_4 (by decide +kernel) ?_
    refine k_iald hx hb hK hP 1 0 (f := R 1) rfl rfl (i := 10) (by omega) dX7_look_6 ?_
    refine lv_istore_n (lv' := [(2, .int (iI (R 1 10))), (0, .ref (a 0)), (1, .int (iI s9))]) hx hb dX7_look_7 rfl hl (by decide) rfl (fun ls hl => ?_)
    refine lv_aload_n hx hb dX7_look_8 rfl (lv_at hl 1 rfl) ?_
    refine va_get (D := D) (ci := 6) (v := .ref (a 1)) (C := RX7) (T := TX7) (N := 19) hx hb hts hinX7 hown hK hP 0 rfl rfl 0 (by decide) hm0 (fun _ h9 => h9) rfl dX7_look_9 ?_
    refine k_bipush hx hb dX7_look_12 (by decide +kernel) ?_
    refine k_iald hx hb hK hP 1 0 (f := R 1) rfl rfl (i := 11) (by omega) dX7_look_14 ?_
    refine lv_istore_n (lv' := [(3, .int (iI (R 1 11))), (2, .int (iI (R 1 10))), (0, .ref (a 0)), (1, .int (iI s9))]) hx hb dX7_look_15 rfl hl (by decide) rfl (fun ls hl => ?_)
    refine lv_aload_n hx hb dX7_look_16 rfl (lv_at hl 2 rfl) ?_
    refine k_ldc (z := (-1000000000)) hx hb hown hm1 (by decide +kernel) dX7_look_17 ?_
    refine va_put (D := D) (ci := 6) (v := .int (iI (-1000000000))) (ty := .int) (C := RX7) (T := TX7) (N := 19) hx hb hts hinX7 tyX7 tyX7_ok nmX7 hown hK hP hD hS 0 rfl rfl 9 (by decide) hm2 (fun _ h9 => h9) rfl (by decide +kernel) rfl rfl (Nat.le_of_ble_eq_true rfl) dX7_look_19 (fun H locs hP hD hS => ?_)
    have hP : va_P D vwCl (rfW cy a (upr R 0 (ups (R 0) 9 (-1000000000)))) H := hP
    have hD : va_D (va_A (rfW cy a R) sz) (rfW cy a (upr R 0 (ups (R 0) 9 (-1000000000)))) := hD
    refine k_iconst hx hb dX7_look_22 ?_
    refine lv_istore (lv' := [(4, .int (iI 0)), (3, .int (iI (R 1 11))), (2, .int (iI (R 1 10))), (0, .ref (a 0)), (1, .int (iI s9))]) hx hb dX7_look_23 hl (by decide) rfl (fun ls hl => ?_)
    have loop25 : ∀ (n_1 : Nat) (k : Int) (ga : Int) (gb : Int) (gc : Int) (G : Int → Int) (hi0 : 0 ≤ k) (hi1 : k ≤ 9) (hi2 : lkR (R 1) s9 (R 0 7) (R 0 8) k.toNat = (ga, gb, gc)) (hi3 : ∃ X Y, poleOK X Y ∧ G = tPo (R 1) X Y) (hi4 : (-1000000000 ≤ gc ∧ gc ≤ 118800) ∧ (gc ≠ -1000000000 → 0 ≤ gc)) (hn : 9 - k < (n_1 : Int)) (H : Heap) (locs : List Loc) (hP : va_P D vwCl (rfW cy a (upr (upr R 0 (ups (ups (ups (R 0) 7 ga) 8 gb) 9 gc)) 1 (G))) H) (hD : va_D (va_A (rfW cy a R) sz) (rfW cy a (upr (upr R 0 (ups (ups (ups (R 0) 7 ga) 8 gb) 9 gc)) 1 (G)))) (hS : va_S (va_A (rfW cy a R) sz) s.heap H locs) (ls : Array Slot) (hl : lv_has ls 9 [(4, .int (iI k)), (3, .int (iI (R 1 11))), (2, .int (iI (R 1 10))), (0, .ref (a 0)), (1, .int (iI s9))]), W p l e { frames := 7, cells := 0, slots := 0, locals := 158 } s m ([.ref (a 0), .int (iI s9)] : List Value).toArray below meth c H locs 0 0 (MQ below (kQv D (rfW cy a R) sz (fun u9 : Nat → Int → Int => rfW cy a u9) (fun u9 => ∃ (za : Int) (zb : Int) (zc : Int), (lkR (R 1) s9 (R 0 7) (R 0 8) 9 = (za, zb, zc)) ∧ (u9 = (upr (upr R 0 (ups (ups (ups (R 0) 7 za) 8 zb) 9 zc)) 1 (R 1))))) ([.ref (a 0), .int (iI s9)] : List Value).toArray s 0 0 (va_A (rfW cy a R) sz)) (F0 m 25 ls []) := by
      intro n_1
      induction n_1 with
      | zero => intro k ga gb gc G hi0 hi1 hi2 hi3 hi4 hn H locs hP hD hS ls hl; exfalso; omega
      | succ n_1 ih25 =>
        intro k ga gb gc G hi0 hi1 hi2 hi3 hi4 hn H locs hP hD hS ls hl
        obtain ⟨gX, gY, hgP, hgE⟩ := hi3
        have hIG : Inv G := by rw [hgE]; exact inv_tPo hI hgP
        have hkx : -512 ≤ (k % 3 - 1) * s9 ∧ (k % 3 - 1) * s9 ≤ 512 := by have h9 := mul_bd2 (u := k % 3 - 1) (f := s9) (a := 1) (b := 512) (by omega) (by omega); omega
        have hky : -1024 ≤ (k / 3 - 1) * s9 ∧ (k / 3 - 1) * s9 ≤ 1024 := by have h9 := mul_bd2 (u := k / 3 - 1) (f := s9) (a := 2) (b := 512) (by omega) (by omega); omega
        refine lv_iload hx hb dX7_look_25 (lv_at hl 0 rfl) ?_
        refine k_bipush hx hb dX7_look_27 (by decide +kernel) ?_
        refine k_icmp_ge (tgt := 167) hx hb dX7_look_29 (by decide) (by omega) (by omega) (fun c_2 => ?_) (fun c_2 => ?_)
        · skip
          refine lv_aload_n hx hb dX7_look_167 rfl (lv_at hl 3 rfl) ?_
          refine va_get (D := D) (ci := 6) (v := .ref (a 1)) (C := RX7) (T := TX7) (N := 19) hx hb hts hinX7 hown hK hP 0 rfl rfl 0 (by decide) hm0 (fun _ h9 => h9) rfl dX7_look_168 ?_
          refine k_bipush hx hb dX7_look_171 (by decide +kernel) ?_
          refine lv_iload_n hx hb dX7_look_173 rfl (lv_at hl 2 rfl) ?_
          refine k_iast hx hb hK hP hD hS 1 0 (f := G) rfl rfl (i := 10) (x := R 1 10) (by omega) dX7_look_174 (fun H locs hP hD hS => ?_)
          have hP : va_P D vwCl (rfW cy a (upr (upr R 0 (ups (ups (ups (R 0) 7 ga) 8 gb) 9 gc)) 1 (ups G 10 (R 1 10)))) H := hP
          have hD : va_D (va_A (rfW cy a R) sz) (rfW cy a (upr (upr R 0 (ups (ups (ups (R 0) 7 ga) 8 gb) 9 gc)) 1 (ups G 10 (R 1 10)))) := hD
          refine lv_aload_n hx hb dX7_look_175 rfl (lv_at hl 3 rfl) ?_
          refine va_get (D := D) (ci := 6) (v := .ref (a 1)) (C := RX7) (T := TX7) (N := 19) hx hb hts hinX7 hown hK hP 0 rfl rfl 0 (by decide) hm0 (fun _ h9 => h9) rfl dX7_look_176 ?_
          refine k_bipush hx hb dX7_look_179 (by decide +kernel) ?_
          refine lv_iload_n hx hb dX7_look_181 rfl (lv_at hl 1 rfl) ?_
          refine k_iast hx hb hK hP hD hS 1 0 (f := ups G 10 (R 1 10)) rfl rfl (i := 11) (x := R 1 11) (by omega) dX7_look_182 (fun H locs hP hD hS => ?_)
          have hP : va_P D vwCl (rfW cy a (upr (upr R 0 (ups (ups (ups (R 0) 7 ga) 8 gb) 9 gc)) 1 (ups (ups G 10 (R 1 10)) 11 (R 1 11)))) H := hP
          have hD : va_D (va_A (rfW cy a R) sz) (rfW cy a (upr (upr R 0 (ups (ups (ups (R 0) 7 ga) 8 gb) 9 gc)) 1 (ups (ups G 10 (R 1 10)) 11 (R 1 11)))) := hD
          exact W.vret hx hb hr (fun t9 ht _ => ⟨⟨(upr (upr R 0 (ups (ups (ups (R 0) 7 ga) 8 gb) 9 gc)) 1 (ups (ups G 10 (R 1 10)) 11 (R 1 11))), rfl, (⟨(ga), (gb), (gc), (by have e9 : k = 9 := (by omega); subst e9; exact hi2), (by rw [show (ups (ups G 10 (R 1 10)) 11 (R 1 11)) = (R 1) from inv_back hgE])⟩ : ∃ (za : Int) (zb : Int) (zc : Int), (lkR (R 1) s9 (R 0 7) (R 0 8) 9 = (za, zb, zc)) ∧ ((upr (upr R 0 (ups (ups (ups (R 0) 7 ga) 8 gb) 9 gc)) 1 (ups (ups G 10 (R 1 10)) 11 (R 1 11))) = (upr (upr R 0 (ups (ups (ups (R 0) 7 za) 8 zb) 9 zc)) 1 (R 1)))), by rw [ht]; exact hP, hD⟩, hS.F ht⟩) hS.2.2 dX7_look_183 hlocks
        · skip
          refine lv_iload_n hx hb dX7_look_32 rfl (lv_at hl 2 rfl) ?_
          refine lv_iload hx hb dX7_look_33 (lv_at hl 0 rfl) ?_
          refine k_iconst hx hb dX7_look_35 ?_
          refine k_irem hx hb dX7_look_36 (by omega) (by omega) ?_
          refine k_iconst hx hb dX7_look_37 ?_
          refine k_isub hx hb dX7_look_38 ?_
          refine lv_iload_n hx hb dX7_look_39 rfl (lv_at hl 4 rfl) ?_
          refine k_imul hx hb dX7_look_40 ?_
          refine k_iadd hx hb dX7_look_41 ?_
          refine lv_istore (lv' := [(5, .int (iI ((R 1 10) + (((k % 3) - 1) * s9)))), (4, .int (iI k)), (3, .int (iI (R 1 11))), (2, .int (iI (R 1 10))), (0, .ref (a 0)), (1, .int (iI s9))]) hx hb dX7_look_42 hl (by decide) rfl (fun ls hl => ?_)
          refine lv_iload_n hx hb dX7_look_44 rfl (lv_at hl 2 rfl) ?_
          refine lv_iload hx hb dX7_look_45 (lv_at hl 1 rfl) ?_
          refine k_iconst hx hb dX7_look_47 ?_
          refine k_idiv hx hb dX7_look_48 (by omega) (by omega) ?_
          refine k_iconst hx hb dX7_look_49 ?_
          refine k_isub hx hb dX7_look_50 ?_
          refine lv_iload_n hx hb dX7_look_51 rfl (lv_at hl 5 rfl) ?_
          refine k_imul hx hb dX7_look_52 ?_
          refine k_iadd hx hb dX7_look_53 ?_
          refine lv_istore (lv' := [(6, .int (iI ((R 1 11) + (((k / 3) - 1) * s9)))), (5, .int (iI ((R 1 10) + (((k % 3) - 1) * s9)))), (4, .int (iI k)), (3, .int (iI (R 1 11))), (2, .int (iI (R 1 10))), (0, .ref (a 0)), (1, .int (iI s9))]) hx hb dX7_look_54 hl (by decide) rfl (fun ls hl => ?_)
          refine lv_iload hx hb dX7_look_56 (lv_at hl 2 rfl) ?_
          refine k_iconst hx hb dX7_look_58 ?_
          refine k_icmp_eq (tgt := 161) hx hb dX7_look_59 (by decide) (by omega) (by omega) (fun c_3 => ?_) (fun c_3 => ?_)
          · skip
            refine lv_iinc (v := iI (k + 1)) (lv' := [(4, .int (iI (k + 1))), (6, .int (iI ((R 1 11) + (((k / 3) - 1) * s9)))), (5, .int (iI ((R 1 10) + (((k % 3) - 1) * s9)))), (3, .int (iI (R 1 11))), (2, .int (iI (R 1 10))), (0, .ref (a 0)), (1, .int (iI s9))]) hx hb dX7_look_161 hl (k := 2) rfl (iI_add _ _) (by decide) rfl (fun ls hl => ?_)
            refine lv_goto (tgt := 25) hx hb dX7_look_164 (by decide) ?_
            exact ih25 (k + 1) ga gb gc G  (by omega) (by omega) (by first | exact lkR_y hi0 hi2 ⟨by assumption, by assumption⟩ (by omega) | exact lkR_n hi0 hi2 (fun h9 => by have g1 := h9.1.1; have g2 := h9.2; first | omega | exact absurd h9.1.2 (by assumption))) (by first | exact ⟨gX, gY, hgP, hgE⟩ | exact ⟨_, _, by assumption, by rw [hgE, tPo_tPo]⟩) (by omega) (by omega) H locs (hP) (k_addr hD rfl) hS ls (lv_sub hl [0, 3, 4, 5, 6] rfl)
          · skip
            refine lv_iload hx hb dX7_look_62 (lv_at hl 1 rfl) ?_
            refine lv_iload hx hb dX7_look_64 (lv_at hl 0 rfl) ?_
            refine k_roS (As := [.int (iI ((R 1 10) + (((k % 3) - 1) * s9))), .int (iI ((R 1 11) + (((k / 3) - 1) * s9)))]) (rest := []) ⟨hx, hb, hml, hown, hts⟩ (c_X7_isPole l D ((R 1 10) + (((k % 3) - 1) * s9)) ((R 1 11) + (((k / 3) - 1) * s9)) (show -2147483648 ≤ ((R 1 10) + (((k % 3) - 1) * s9)) ∧ ((R 1 10) + (((k % 3) - 1) * s9)) ≤ 2147483647 by omega) (show -2147483648 ≤ ((R 1 11) + (((k / 3) - 1) * s9)) ∧ ((R 1 11) + (((k / 3) - 1) * s9)) ≤ 2147483647 by omega)) gX7_look_X7_isPole rfl ⟨rfl, rfl⟩ 2 rfl (by decide +kernel) ⟨Nat.le_of_ble_eq_true rfl, Nat.le_of_ble_eq_true rfl⟩ kGT_ok trivial (fun k q h => by simp at h) hl.1 rfl (Nat.le_of_ble_eq_true rfl) ⟨Nat.le_of_ble_eq_true rfl, Nat.le_of_ble_eq_true rfl⟩ dX7_look_66 (fun r_4 hr_4 => ?_)
            have hr_4 : ((poleOK ((R 1 10) + (((k % 3) - 1) * s9)) ((R 1 11) + (((k / 3) - 1) * s9))) ∧ r_4 = 1) ∨ (¬ (poleOK ((R 1 10) + (((k % 3) - 1) * s9)) ((R 1 11) + (((k / 3) - 1) * s9))) ∧ r_4 = 0) := hr_4
            rcases hr_4 with ⟨c_5, hr_4⟩ | ⟨c_5, hr_4⟩ <;> subst hr_4
            · skip
              refine k_if_eq (tgt := 161) hx hb dX7_look_69 (by decide) (by omega) (fun c_6 => ?_) (fun c_6 => ?_)
              · exfalso; omega
              · skip
                refine lv_aload_n hx hb dX7_look_72 rfl (lv_at hl 5 rfl) ?_
                refine lv_iload hx hb dX7_look_73 (lv_at hl 1 rfl) ?_
                refine lv_iload hx hb dX7_look_75 (lv_at hl 0 rfl) ?_
                refine k_mui (k_runV (As := [.int (iI ((R 1 10) + (((k % 3) - 1) * s9))), .int (iI ((R 1 11) + (((k / 3) - 1) * s9)))]) (rest := []) ⟨hx, hb, hml, hown, hts⟩ (c_X7_setsPole l D cy H.size a (upr (upr R 0 (ups (ups (ups (R 0) 7 ga) 8 gb) 9 gc)) 1 (G)) ((R 1 10) + (((k % 3) - 1) * s9)) ((R 1 11) + (((k / 3) - 1) * s9)) (hIG) (by assumption)) gX7_look_X7_setsPole rfl ⟨rfl, rfl⟩ 2 rfl (by decide +kernel) ⟨Nat.le_of_ble_eq_true rfl, Nat.le_of_ble_eq_true rfl⟩ (GG_ok D cy) hG hS (k_free hD hS hA) hP hD (va_recv hK hP (ci := 6) (q0 := 0) rfl rfl) hl.1 rfl (Nat.le_of_ble_eq_true rfl) ⟨Nat.le_of_ble_eq_true rfl, Nat.le_of_ble_eq_true rfl⟩ dX7_look_77) (k_free hD hS hA) hS (fun r_7 R_8 H1 locs1 hR_8 hP1 hD1 hS1 hk1 => ?_)
                have hR_8 : r_7 = pcost (tPo (G) ((R 1 10) + (((k % 3) - 1) * s9)) ((R 1 11) + (((k / 3) - 1) * s9))) ∧ R_8 = (upr (upr (upr R 0 (ups (ups (ups (R 0) 7 ga) 8 gb) 9 gc)) 1 (G)) 1 (tPo (G) ((R 1 10) + (((k % 3) - 1) * s9)) ((R 1 11) + (((k / 3) - 1) * s9)))) := hR_8
                obtain ⟨hr_7, rfl⟩ := hR_8
                have hr_7 : r_7 = pcost (tPo (G) ((R 1 10) + (((k % 3) - 1) * s9)) ((R 1 11) + (((k / 3) - 1) * s9))) := hr_7
                subst hr_7
                have hDn : va_D (va_A (rfW cy a R) sz) (rfW cy a (upr (upr R 0 (ups (ups (ups (R 0) 7 ga) 8 gb) 9 gc)) 1 (tPo (G) ((R 1 10) + (((k % 3) - 1) * s9)) ((R 1 11) + (((k / 3) - 1) * s9))))) := k_addr hD rfl
                have hPn : va_P D vwCl (rfW cy a (upr (upr R 0 (ups (ups (ups (R 0) 7 ga) 8 gb) 9 gc)) 1 (tPo (G) ((R 1 10) + (((k % 3) - 1) * s9)) ((R 1 11) + (((k / 3) - 1) * s9))))) H1 := hP1
                clear hP hD hS hP1 hD1 hk1
                have hP := hPn
                have hD := hDn
                have hS := hS1
                clear hPn hDn hS1
                generalize H1 = H at hP hS ⊢
                generalize locs1 = locs at hS ⊢
                refine k_eqI (v := pcost (tPo (G) ((R 1 10) + (((k % 3) - 1) * s9)) ((R 1 11) + (((k / 3) - 1) * s9)))) (w := nbC (R 1) s9 k) (by rw [hgE, tPo_tPo]; rfl) ?_
                have hpn : 0 ≤ nbC (R 1) s9 k ∧ nbC (R 1) s9 k ≤ 118800 := inv_pcost (inv_tPo hI (show poleOK (nbX (R 1 10) s9 k) (nbY (R 1 11) s9 k) by assumption))
                refine lv_istore (lv' := [(7, .int (iI (nbC (R 1) s9 k))), (6, .int (iI ((R 1 11) + (((k / 3) - 1) * s9)))), (5, .int (iI ((R 1 10) + (((k % 3) - 1) * s9)))), (4, .int (iI k)), (3, .int (iI (R 1 11))), (2, .int (iI (R 1 10))), (0, .ref (a 0)), (1, .int (iI s9))]) hx hb dX7_look_80 hl (by decide) rfl (fun ls hl => ?_)
                refine lv_aload_n hx hb dX7_look_82 rfl (lv_at hl 6 rfl) ?_
                refine va_get (D := D) (ci := 6) (v := .int (iI gc)) (C := RX7) (T := TX7) (N := 19) hx hb hts hinX7 hown hK hP 0 rfl rfl 9 (by decide) hm2 (fun _ h9 => h9) rfl dX7_look_83 ?_
                refine k_ldc (z := (-1000000000)) hx hb hown hm1 (by decide +kernel) dX7_look_86 ?_
                refine k_icmp_eq (tgt := 100) hx hb dX7_look_88 (by decide) (by omega) (by omega) (fun c_9 => ?_) (fun c_9 => ?_)
                · skip
                  refine k_iconst hx hb dX7_look_100 ?_
                  refine lv_goto (tgt := 105) hx hb dX7_look_101 (by decide) ?_
                  refine lv_istore (lv' := [(8, .int (iI 1)), (7, .int (iI (nbC (R 1) s9 k))), (6, .int (iI ((R 1 11) + (((k / 3) - 1) * s9)))), (5, .int (iI ((R 1 10) + (((k % 3) - 1) * s9)))), (4, .int (iI k)), (3, .int (iI (R 1 11))), (2, .int (iI (R 1 10))), (0, .ref (a 0)), (1, .int (iI s9))]) hx hb dX7_look_105 hl (by decide) rfl (fun ls hl => ?_)
                  refine lv_aload_n hx hb dX7_look_107 rfl (lv_at hl 7 rfl) ?_
                  refine lv_iload hx hb dX7_look_108 (lv_at hl 0 rfl) ?_
                  refine k_if_eq (tgt := 118) hx hb dX7_look_110 (by decide) (by omega) (fun c_10 => ?_) (fun c_10 => ?_)
                  · exfalso; omega
                  · skip
                    refine lv_iload hx hb dX7_look_113 (lv_at hl 3 rfl) ?_
                    refine lv_goto (tgt := 122) hx hb dX7_look_115 (by decide) ?_
                    refine va_put (D := D) (ci := 6) (v := .int (iI ((R 1 10) + (((k % 3) - 1) * s9)))) (ty := .int) (C := RX7) (T := TX7) (N := 19) hx hb hts hinX7 tyX7 tyX7_ok nmX7 hown hK hP hD hS 0 rfl rfl 7 (by decide) hm3 (fun _ h9 => h9) rfl (by decide +kernel) rfl rfl (Nat.le_of_ble_eq_true rfl) dX7_look_122 (fun H locs hP hD hS => ?_)
                    have hP : va_P D vwCl (rfW cy a (upr (upr R 0 (ups (ups (ups (ups (R 0) 7 ga) 8 gb) 9 gc) 7 ((R 1 10) + (((k % 3) - 1) * s9)))) 1 (tPo (G) ((R 1 10) + (((k % 3) - 1) * s9)) ((R 1 11) + (((k / 3) - 1) * s9))))) H := hP
                    have hD : va_D (va_A (rfW cy a R) sz) (rfW cy a (upr (upr R 0 (ups (ups (ups (ups (R 0) 7 ga) 8 gb) 9 gc) 7 ((R 1 10) + (((k % 3) - 1) * s9)))) 1 (tPo (G) ((R 1 10) + (((k % 3) - 1) * s9)) ((R 1 11) + (((k / 3) - 1) * s9))))) := hD
                    refine lv_aload_n hx hb dX7_look_125 rfl (lv_at hl 7 rfl) ?_
                    refine lv_iload hx hb dX7_look_126 (lv_at hl 0 rfl) ?_
                    refine k_if_eq (tgt := 136) hx hb dX7_look_128 (by decide) (by omega) (fun c_11 => ?_) (fun c_11 => ?_)
                    · exfalso; omega
                    · skip
                      refine lv_iload hx hb dX7_look_131 (lv_at hl 2 rfl) ?_
                      refine lv_goto (tgt := 140) hx hb dX7_look_133 (by decide) ?_
                      refine va_put (D := D) (ci := 6) (v := .int (iI ((R 1 11) + (((k / 3) - 1) * s9)))) (ty := .int) (C := RX7) (T := TX7) (N := 19) hx hb hts hinX7 tyX7 tyX7_ok nmX7 hown hK hP hD hS 0 rfl rfl 8 (by decide) hm4 (fun _ h9 => h9) rfl (by decide +kernel) rfl rfl (Nat.le_of_ble_eq_true rfl) dX7_look_140 (fun H locs hP hD hS => ?_)
                      have hP : va_P D vwCl (rfW cy a (upr (upr R 0 (ups (ups (ups (ups (ups (R 0) 7 ga) 8 gb) 9 gc) 7 ((R 1 10) + (((k % 3) - 1) * s9))) 8 ((R 1 11) + (((k / 3) - 1) * s9)))) 1 (tPo (G) ((R 1 10) + (((k % 3) - 1) * s9)) ((R 1 11) + (((k / 3) - 1) * s9))))) H := hP
                      have hD : va_D (va_A (rfW cy a R) sz) (rfW cy a (upr (upr R 0 (ups (ups (ups (ups (ups (R 0) 7 ga) 8 gb) 9 gc) 7 ((R 1 10) + (((k % 3) - 1) * s9))) 8 ((R 1 11) + (((k / 3) - 1) * s9)))) 1 (tPo (G) ((R 1 10) + (((k % 3) - 1) * s9)) ((R 1 11) + (((k / 3) - 1) * s9))))) := hD
                      refine lv_aload_n hx hb dX7_look_143 rfl (lv_at hl 7 rfl) ?_
                      refine lv_iload hx hb dX7_look_144 (lv_at hl 0 rfl) ?_
                      refine k_if_eq (tgt := 154) hx hb dX7_look_146 (by decide) (by omega) (fun c_12 => ?_) (fun c_12 => ?_)
                      · exfalso; omega
                      · skip
                        refine lv_iload hx hb dX7_look_149 (lv_at hl 1 rfl) ?_
                        refine lv_goto (tgt := 158) hx hb dX7_look_151 (by decide) ?_
                        refine va_put (D := D) (ci := 6) (v := .int (iI (nbC (R 1) s9 k))) (ty := .int) (C := RX7) (T := TX7) (N := 19) hx hb hts hinX7 tyX7 tyX7_ok nmX7 hown hK hP hD hS 0 rfl rfl 9 (by decide) hm2 (fun _ h9 => h9) rfl (by decide +kernel) rfl rfl (Nat.le_of_ble_eq_true rfl) dX7_look_158 (fun H locs hP hD hS => ?_)
                        have hP : va_P D vwCl (rfW cy a (upr (upr R 0 (ups (ups (ups (ups (ups (ups (R 0) 7 ga) 8 gb) 9 gc) 7 ((R 1 10) + (((k % 3) - 1) * s9))) 8 ((R 1 11) + (((k / 3) - 1) * s9))) 9 (nbC (R 1) s9 k))) 1 (tPo (G) ((R 1 10) + (((k % 3) - 1) * s9)) ((R 1 11) + (((k / 3) - 1) * s9))))) H := hP
                        have hD : va_D (va_A (rfW cy a R) sz) (rfW cy a (upr (upr R 0 (ups (ups (ups (ups (ups (ups (R 0) 7 ga) 8 gb) 9 gc) 7 ((R 1 10) + (((k % 3) - 1) * s9))) 8 ((R 1 11) + (((k / 3) - 1) * s9))) 9 (nbC (R 1) s9 k))) 1 (tPo (G) ((R 1 10) + (((k % 3) - 1) * s9)) ((R 1 11) + (((k / 3) - 1) * s9))))) := hD
                        refine lv_iinc (v := iI (k + 1)) (lv' := [(4, .int (iI (k + 1))), (8, .int (iI 1)), (7, .int (iI (nbC (R 1) s9 k))), (6, .int (iI ((R 1 11) + (((k / 3) - 1) * s9)))), (5, .int (iI ((R 1 10) + (((k % 3) - 1) * s9)))), (3, .int (iI (R 1 11))), (2, .int (iI (R 1 10))), (0, .ref (a 0)), (1, .int (iI s9))]) hx hb dX7_look_161 hl (k := 4) rfl (iI_add _ _) (by decide) rfl (fun ls hl => ?_)
                        refine lv_goto (tgt := 25) hx hb dX7_look_164 (by decide) ?_
                        exact ih25 (k + 1) ((R 1 10) + (((k % 3) - 1) * s9)) ((R 1 11) + (((k / 3) - 1) * s9)) (nbC (R 1) s9 k) (tPo (G) ((R 1 10) + (((k % 3) - 1) * s9)) ((R 1 11) + (((k / 3) - 1) * s9)))  (by omega) (by omega) (by first | exact lkR_y hi0 hi2 ⟨by assumption, by assumption⟩ (by omega) | exact lkR_n hi0 hi2 (fun h9 => by have g1 := h9.1.1; have g2 := h9.2; first | omega | exact absurd h9.1.2 (by assumption))) (by first | exact ⟨gX, gY, hgP, hgE⟩ | exact ⟨_, _, by assumption, by rw [hgE, tPo_tPo]⟩) (by omega) (by omega) H locs (by rw [show (ups (ups (ups (R 0) 7 ((R 1 10) + (((k % 3) - 1) * s9))) 8 ((R 1 11) + (((k / 3) - 1) * s9))) 9 (nbC (R 1) s9 k)) = (ups (ups (ups (ups (ups (ups (R 0) 7 ga) 8 gb) 9 gc) 7 ((R 1 10) + (((k % 3) - 1) * s9))) 8 ((R 1 11) + (((k / 3) - 1) * s9))) 9 (nbC (R 1) s9 k)) from by first | rfl | exact (lk_row _ _ _ _ _ _ _).symm]; exact hP) (k_addr hD rfl) hS ls (lv_sub hl [0, 5, 6, 7, 8] rfl)
                · skip
                  refine lv_iload hx hb dX7_look_91 (lv_at hl 0 rfl) ?_
                  refine lv_aload_n hx hb dX7_look_93 rfl (lv_at hl 6 rfl) ?_
                  refine va_get (D := D) (ci := 6) (v := .int (iI gc)) (C := RX7) (T := TX7) (N := 19) hx hb hts hinX7 hown hK hP 0 rfl rfl 9 (by decide) hm2 (fun _ h9 => h9) rfl dX7_look_94 ?_
                  refine k_icmp_ge (tgt := 104) hx hb dX7_look_97 (by decide) (by omega) (by omega) (fun c_13 => ?_) (fun c_13 => ?_)
                  · skip
                    refine k_iconst hx hb dX7_look_104 ?_
                    refine lv_istore (lv' := [(8, .int (iI 0)), (7, .int (iI (nbC (R 1) s9 k))), (6, .int (iI ((R 1 11) + (((k / 3) - 1) * s9)))), (5, .int (iI ((R 1 10) + (((k % 3) - 1) * s9)))), (4, .int (iI k)), (3, .int (iI (R 1 11))), (2, .int (iI (R 1 10))), (0, .ref (a 0)), (1, .int (iI s9))]) hx hb dX7_look_105 hl (by decide) rfl (fun ls hl => ?_)
                    refine lv_aload_n hx hb dX7_look_107 rfl (lv_at hl 7 rfl) ?_
                    refine lv_iload hx hb dX7_look_108 (lv_at hl 0 rfl) ?_
                    refine k_if_eq (tgt := 118) hx hb dX7_look_110 (by decide) (by omega) (fun c_14 => ?_) (fun c_14 => ?_)
                    · skip
                      refine lv_aload_n hx hb dX7_look_118 rfl (lv_at hl 7 rfl) ?_
                      refine va_get (D := D) (ci := 6) (v := .int (iI ga)) (C := RX7) (T := TX7) (N := 19) hx hb hts hinX7 hown hK hP 0 rfl rfl 7 (by decide) hm3 (fun _ h9 => h9) rfl dX7_look_119 ?_
                      refine va_put (D := D) (ci := 6) (v := .int (iI ga)) (ty := .int) (C := RX7) (T := TX7) (N := 19) hx hb hts hinX7 tyX7 tyX7_ok nmX7 hown hK hP hD hS 0 rfl rfl 7 (by decide) hm3 (fun _ h9 => h9) rfl (by decide +kernel) rfl rfl (Nat.le_of_ble_eq_true rfl) dX7_look_122 (fun H locs hP hD hS => ?_)
                      have hP : va_P D vwCl (rfW cy a (upr (upr R 0 (ups (ups (ups (ups (R 0) 7 ga) 8 gb) 9 gc) 7 ga)) 1 (tPo (G) ((R 1 10) + (((k % 3) - 1) * s9)) ((R 1 11) + (((k / 3) - 1) * s9))))) H := hP
                      have hD : va_D (va_A (rfW cy a R) sz) (rfW cy a (upr (upr R 0 (ups (ups (ups (ups (R 0) 7 ga) 8 gb) 9 gc) 7 ga)) 1 (tPo (G) ((R 1 10) + (((k % 3) - 1) * s9)) ((R 1 11) + (((k / 3) - 1) * s9))))) := hD
                      refine lv_aload_n hx hb dX7_look_125 rfl (lv_at hl 7 rfl) ?_
                      refine lv_iload hx hb dX7_look_126 (lv_at hl 0 rfl) ?_
                      refine k_if_eq (tgt := 136) hx hb dX7_look_128 (by decide) (by omega) (fun c_15 => ?_) (fun c_15 => ?_)
                      · skip
                        refine lv_aload_n hx hb dX7_look_136 rfl (lv_at hl 7 rfl) ?_
                        refine va_get (D := D) (ci := 6) (v := .int (iI gb)) (C := RX7) (T := TX7) (N := 19) hx hb hts hinX7 hown hK hP 0 rfl rfl 8 (by decide) hm4 (fun _ h9 => h9) rfl dX7_look_137 ?_
                        refine va_put (D := D) (ci := 6) (v := .int (iI gb)) (ty := .int) (C := RX7) (T := TX7) (N := 19) hx hb hts hinX7 tyX7 tyX7_ok nmX7 hown hK hP hD hS 0 rfl rfl 8 (by decide) hm4 (fun _ h9 => h9) rfl (by decide +kernel) rfl rfl (Nat.le_of_ble_eq_true rfl) dX7_look_140 (fun H locs hP hD hS => ?_)
                        have hP : va_P D vwCl (rfW cy a (upr (upr R 0 (ups (ups (ups (ups (ups (R 0) 7 ga) 8 gb) 9 gc) 7 ga) 8 gb)) 1 (tPo (G) ((R 1 10) + (((k % 3) - 1) * s9)) ((R 1 11) + (((k / 3) - 1) * s9))))) H := hP
                        have hD : va_D (va_A (rfW cy a R) sz) (rfW cy a (upr (upr R 0 (ups (ups (ups (ups (ups (R 0) 7 ga) 8 gb) 9 gc) 7 ga) 8 gb)) 1 (tPo (G) ((R 1 10) + (((k % 3) - 1) * s9)) ((R 1 11) + (((k / 3) - 1) * s9))))) := hD
                        refine lv_aload_n hx hb dX7_look_143 rfl (lv_at hl 7 rfl) ?_
                        refine lv_iload hx hb dX7_look_144 (lv_at hl 0 rfl) ?_
                        refine k_if_eq (tgt := 154) hx hb dX7_look_146 (by decide) (by omega) (fun c_16 => ?_) (fun c_16 => ?_)
                        · skip
                          refine lv_aload_n hx hb dX7_look_154 rfl (lv_at hl 7 rfl) ?_
                          refine va_get (D := D) (ci := 6) (v := .int (iI gc)) (C := RX7) (T := TX7) (N := 19) hx hb hts hinX7 hown hK hP 0 rfl rfl 9 (by decide) hm2 (fun _ h9 => h9) rfl dX7_look_155 ?_
                          refine va_put (D := D) (ci := 6) (v := .int (iI gc)) (ty := .int) (C := RX7) (T := TX7) (N := 19) hx hb hts hinX7 tyX7 tyX7_ok nmX7 hown hK hP hD hS 0 rfl rfl 9 (by decide) hm2 (fun _ h9 => h9) rfl (by decide +kernel) rfl rfl (Nat.le_of_ble_eq_true rfl) dX7_look_158 (fun H locs hP hD hS => ?_)
                          have hP : va_P D vwCl (rfW cy a (upr (upr R 0 (ups (ups (ups (ups (ups (ups (R 0) 7 ga) 8 gb) 9 gc) 7 ga) 8 gb) 9 gc)) 1 (tPo (G) ((R 1 10) + (((k % 3) - 1) * s9)) ((R 1 11) + (((k / 3) - 1) * s9))))) H := hP
                          have hD : va_D (va_A (rfW cy a R) sz) (rfW cy a (upr (upr R 0 (ups (ups (ups (ups (ups (ups (R 0) 7 ga) 8 gb) 9 gc) 7 ga) 8 gb) 9 gc)) 1 (tPo (G) ((R 1 10) + (((k % 3) - 1) * s9)) ((R 1 11) + (((k / 3) - 1) * s9))))) := hD
                          refine lv_iinc (v := iI (k + 1)) (lv' := [(4, .int (iI (k + 1))), (8, .int (iI 0)), (7, .int (iI (nbC (R 1) s9 k))), (6, .int (iI ((R 1 11) + (((k / 3) - 1) * s9)))), (5, .int (iI ((R 1 10) + (((k % 3) - 1) * s9)))), (3, .int (iI (R 1 11))), (2, .int (iI (R 1 10))), (0, .ref (a 0)), (1, .int (iI s9))]) hx hb dX7_look_161 hl (k := 4) rfl (iI_add _ _) (by decide) rfl (fun ls hl => ?_)
                          refine lv_goto (tgt := 25) hx hb dX7_look_164 (by decide) ?_
                          exact ih25 (k + 1) ga gb gc (tPo (G) ((R 1 10) + (((k % 3) - 1) * s9)) ((R 1 11) + (((k / 3) - 1) * s9)))  (by omega) (by omega) (by first | exact lkR_y hi0 hi2 ⟨by assumption, by assumption⟩ (by omega) | exact lkR_n hi0 hi2 (fun h9 => by have g1 := h9.1.1; have g2 := h9.2; first | omega | exact absurd h9.1.2 (by assumption))) (by first | exact ⟨gX, gY, hgP, hgE⟩ | exact ⟨_, _, by assumption, by rw [hgE, tPo_tPo]⟩) (by omega) (by omega) H locs (by rw [show (ups (ups (ups (R 0) 7 ga) 8 gb) 9 gc) = (ups (ups (ups (ups (ups (ups (R 0) 7 ga) 8 gb) 9 gc) 7 ga) 8 gb) 9 gc) from by first | rfl | exact (lk_row _ _ _ _ _ _ _).symm]; exact hP) (k_addr hD rfl) hS ls (lv_sub hl [0, 5, 6, 7, 8] rfl)
                        · exfalso; omega
                      · exfalso; omega
                    · exfalso; omega
                  · skip
                    refine k_iconst hx hb dX7_look_100 ?_
                    refine lv_goto (tgt := 105) hx hb dX7_look_101 (by decide) ?_
                    refine lv_istore (lv' := [(8, .int (iI 1)), (7, .int (iI (nbC (R 1) s9 k))), (6, .int (iI ((R 1 11) + (((k / 3) - 1) * s9)))), (5, .int (iI ((R 1 10) + (((k % 3) - 1) * s9)))), (4, .int (iI k)), (3, .int (iI (R 1 11))), (2, .int (iI (R 1 10))), (0, .ref (a 0)), (1, .int (iI s9))]) hx hb dX7_look_105 hl (by decide) rfl (fun ls hl => ?_)
                    refine lv_aload_n hx hb dX7_look_107 rfl (lv_at hl 7 rfl) ?_
                    refine lv_iload hx hb dX7_look_108 (lv_at hl 0 rfl) ?_
                    refine k_if_eq (tgt := 118) hx hb dX7_look_110 (by decide) (by omega) (fun c_17 => ?_) (fun c_17 => ?_)
                    · exfalso; omega
                    · skip
                      refine lv_iload hx hb dX7_look_113 (lv_at hl 3 rfl) ?_
                      refine lv_goto (tgt := 122) hx hb dX7_look_115 (by decide) ?_
                      refine va_put (D := D) (ci := 6) (v := .int (iI ((R 1 10) + (((k % 3) - 1) * s9)))) (ty := .int) (C := RX7) (T := TX7) (N := 19) hx hb hts hinX7 tyX7 tyX7_ok nmX7 hown hK hP hD hS 0 rfl rfl 7 (by decide) hm3 (fun _ h9 => h9) rfl (by decide +kernel) rfl rfl (Nat.le_of_ble_eq_true rfl) dX7_look_122 (fun H locs hP hD hS => ?_)
                      have hP : va_P D vwCl (rfW cy a (upr (upr R 0 (ups (ups (ups (ups (R 0) 7 ga) 8 gb) 9 gc) 7 ((R 1 10) + (((k % 3) - 1) * s9)))) 1 (tPo (G) ((R 1 10) + (((k % 3) - 1) * s9)) ((R 1 11) + (((k / 3) - 1) * s9))))) H := hP
                      have hD : va_D (va_A (rfW cy a R) sz) (rfW cy a (upr (upr R 0 (ups (ups (ups (ups (R 0) 7 ga) 8 gb) 9 gc) 7 ((R 1 10) + (((k % 3) - 1) * s9)))) 1 (tPo (G) ((R 1 10) + (((k % 3) - 1) * s9)) ((R 1 11) + (((k / 3) - 1) * s9))))) := hD
                      refine lv_aload_n hx hb dX7_look_125 rfl (lv_at hl 7 rfl) ?_
                      refine lv_iload hx hb dX7_look_126 (lv_at hl 0 rfl) ?_
                      refine k_if_eq (tgt := 136) hx hb dX7_look_128 (by decide) (by omega) (fun c_18 => ?_) (fun c_18 => ?_)
                      · exfalso; omega
                      · skip
                        refine lv_iload hx hb dX7_look_131 (lv_at hl 2 rfl) ?_
                        refine lv_goto (tgt := 140) hx hb dX7_look_133 (by decide) ?_
                        refine va_put (D := D) (ci := 6) (v := .int (iI ((R 1 11) + (((k / 3) - 1) * s9)))) (ty := .int) (C := RX7) (T := TX7) (N := 19) hx hb hts hinX7 tyX7 tyX7_ok nmX7 hown hK hP hD hS 0 rfl rfl 8 (by decide) hm4 (fun _ h9 => h9) rfl (by decide +kernel) rfl rfl (Nat.le_of_ble_eq_true rfl) dX7_look_140 (fun H locs hP hD hS => ?_)
                        have hP : va_P D vwCl (rfW cy a (upr (upr R 0 (ups (ups (ups (ups (ups (R 0) 7 ga) 8 gb) 9 gc) 7 ((R 1 10) + (((k % 3) - 1) * s9))) 8 ((R 1 11) + (((k / 3) - 1) * s9)))) 1 (tPo (G) ((R 1 10) + (((k % 3) - 1) * s9)) ((R 1 11) + (((k / 3) - 1) * s9))))) H := hP
                        have hD : va_D (va_A (rfW cy a R) sz) (rfW cy a (upr (upr R 0 (ups (ups (ups (ups (ups (R 0) 7 ga) 8 gb) 9 gc) 7 ((R 1 10) + (((k % 3) - 1) * s9))) 8 ((R 1 11) + (((k / 3) - 1) * s9)))) 1 (tPo (G) ((R 1 10) + (((k % 3) - 1) * s9)) ((R 1 11) + (((k / 3) - 1) * s9))))) := hD
                        refine lv_aload_n hx hb dX7_look_143 rfl (lv_at hl 7 rfl) ?_
                        refine lv_iload hx hb dX7_look_144 (lv_at hl 0 rfl) ?_
                        refine k_if_eq (tgt := 154) hx hb dX7_look_146 (by decide) (by omega) (fun c_19 => ?_) (fun c_19 => ?_)
                        · exfalso; omega
                        · skip
                          refine lv_iload hx hb dX7_look_149 (lv_at hl 1 rfl) ?_
                          refine lv_goto (tgt := 158) hx hb dX7_look_151 (by decide) ?_
                          refine va_put (D := D) (ci := 6) (v := .int (iI (nbC (R 1) s9 k))) (ty := .int) (C := RX7) (T := TX7) (N := 19) hx hb hts hinX7 tyX7 tyX7_ok nmX7 hown hK hP hD hS 0 rfl rfl 9 (by decide) hm2 (fun _ h9 => h9) rfl (by decide +kernel) rfl rfl (Nat.le_of_ble_eq_true rfl) dX7_look_158 (fun H locs hP hD hS => ?_)
                          have hP : va_P D vwCl (rfW cy a (upr (upr R 0 (ups (ups (ups (ups (ups (ups (R 0) 7 ga) 8 gb) 9 gc) 7 ((R 1 10) + (((k % 3) - 1) * s9))) 8 ((R 1 11) + (((k / 3) - 1) * s9))) 9 (nbC (R 1) s9 k))) 1 (tPo (G) ((R 1 10) + (((k % 3) - 1) * s9)) ((R 1 11) + (((k / 3) - 1) * s9))))) H := hP
                          have hD : va_D (va_A (rfW cy a R) sz) (rfW cy a (upr (upr R 0 (ups (ups (ups (ups (ups (ups (R 0) 7 ga) 8 gb) 9 gc) 7 ((R 1 10) + (((k % 3) - 1) * s9))) 8 ((R 1 11) + (((k / 3) - 1) * s9))) 9 (nbC (R 1) s9 k))) 1 (tPo (G) ((R 1 10) + (((k % 3) - 1) * s9)) ((R 1 11) + (((k / 3) - 1) * s9))))) := hD
                          refine lv_iinc (v := iI (k + 1)) (lv' := [(4, .int (iI (k + 1))), (8, .int (iI 1)), (7, .int (iI (nbC (R 1) s9 k))), (6, .int (iI ((R 1 11) + (((k / 3) - 1) * s9)))), (5, .int (iI ((R 1 10) + (((k % 3) - 1) * s9)))), (3, .int (iI (R 1 11))), (2, .int (iI (R 1 10))), (0, .ref (a 0)), (1, .int (iI s9))]) hx hb dX7_look_161 hl (k := 4) rfl (iI_add _ _) (by decide) rfl (fun ls hl => ?_)
                          refine lv_goto (tgt := 25) hx hb dX7_look_164 (by decide) ?_
                          exact ih25 (k + 1) ((R 1 10) + (((k % 3) - 1) * s9)) ((R 1 11) + (((k / 3) - 1) * s9)) (nbC (R 1) s9 k) (tPo (G) ((R 1 10) + (((k % 3) - 1) * s9)) ((R 1 11) + (((k / 3) - 1) * s9)))  (by omega) (by omega) (by first | exact lkR_y hi0 hi2 ⟨by assumption, by assumption⟩ (by omega) | exact lkR_n hi0 hi2 (fun h9 => by have g1 := h9.1.1; have g2 := h9.2; first | omega | exact absurd h9.1.2 (by assumption))) (by first | exact ⟨gX, gY, hgP, hgE⟩ | exact ⟨_, _, by assumption, by rw [hgE, tPo_tPo]⟩) (by omega) (by omega) H locs (by rw [show (ups (ups (ups (R 0) 7 ((R 1 10) + (((k % 3) - 1) * s9))) 8 ((R 1 11) + (((k / 3) - 1) * s9))) 9 (nbC (R 1) s9 k)) = (ups (ups (ups (ups (ups (ups (R 0) 7 ga) 8 gb) 9 gc) 7 ((R 1 10) + (((k % 3) - 1) * s9))) 8 ((R 1 11) + (((k / 3) - 1) * s9))) 9 (nbC (R 1) s9 k)) from by first | rfl | exact (lk_row _ _ _ _ _ _ _).symm]; exact hP) (k_addr hD rfl) hS ls (lv_sub hl [0, 5, 6, 7, 8] rfl)
            · skip
              refine k_if_eq (tgt := 161) hx hb dX7_look_69 (by decide) (by omega) (fun c_20 => ?_) (fun c_20 => ?_)
              · skip
                refine lv_iinc (v := iI (k + 1)) (lv' := [(4, .int (iI (k + 1))), (6, .int (iI ((R 1 11) + (((k / 3) - 1) * s9)))), (5, .int (iI ((R 1 10) + (((k % 3) - 1) * s9)))), (3, .int (iI (R 1 11))), (2, .int (iI (R 1 10))), (0, .ref (a 0)), (1, .int (iI s9))]) hx hb dX7_look_161 hl (k := 2) rfl (iI_add _ _) (by decide) rfl (fun ls hl => ?_)
                refine lv_goto (tgt := 25) hx hb dX7_look_164 (by decide) ?_
                exact ih25 (k + 1) ga gb gc G  (by omega) (by omega) (by first | exact lkR_y hi0 hi2 ⟨by assumption, by assumption⟩ (by omega) | exact lkR_n hi0 hi2 (fun h9 => by have g1 := h9.1.1; have g2 := h9.2; first | omega | exact absurd h9.1.2 (by assumption))) (by first | exact ⟨gX, gY, hgP, hgE⟩ | exact ⟨_, _, by assumption, by rw [hgE, tPo_tPo]⟩) (by omega) (by omega) H locs (hP) (k_addr hD rfl) hS ls (lv_sub hl [0, 3, 4, 5, 6] rfl)
              · exfalso; omega
    exact loop25 ((9 - 0 : Int) + 1).toNat 0 (R 0 7) (R 0 8) (-1000000000) (R 1)  (by omega) (by omega) (rfl) (⟨R 1 10, R 1 11, by unfold poleOK; omega, (tPo_id _).symm⟩) (by omega) (by omega) H locs (by rw [show (ups (ups (ups (R 0) 7 (R 0 7)) 8 (R 0 8)) 9 (-1000000000)) = (ups (R 0) 9 (-1000000000)) from (lk_row0 _ _).symm]; exact hP) (k_addr hD rfl) hS ls (lv_sub hl [0, 1, 2, 3, 4] rfl)
  exact hbody s.heap [] hP hS ls hl
