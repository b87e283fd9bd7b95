set_option maxHeartbeats 4000000 in
set_option maxRecDepth 100000 in
theorem c_X7_searches (l : Launch) (D : va_G) (cy : Nat → ClassId) (sz : Nat) (a : Nat → Nat) (R : Nat → Int → Int) (s9 : Int) (hI : Inv (R 1)) (hs9 : 1 ≤ s9 ∧ s9 ≤ 512) : Met l yX7_searches wsX7_searches { frames := 8, cells := 0, slots := 0, locals := 186 } (mPre (GG D cy) D (rfW cy a R) sz ([.ref (a 0), .int (iI s9)] : List Value)) (kQi D (rfW cy a R) sz (fun u9 : Nat → Int → Int => rfW cy a u9) (fun r9 u9 => ∃ (za : Int) (zb : Int) (zc : Int), (r9 = (srch (R 1) s9).2) ∧ (u9 = (upr (upr R 0 (ups (ups (ups (R 0) 7 za) 8 zb) 9 zc)) 1 ((srch (R 1) s9).1))))) 0 0 (va_A (rfW cy a R) sz) := by
  refine kM_start (cc := cX7_searches) (maxL := 5) (ret := (some .int)) (by decide) rfl (Nat.le_of_ble_eq_true rfl) ?_
  intro p e s m below meth c hx hb hr hlocks hml hts hown hsz hA hG hP hD hS hin ls hl
  have hK := hG.1
  have hl : lv_has ls 5 [(0, .ref (a 0)), (1, .int (iI s9))] := hl
  have hinX7 : ∀ w ∈ u_ws RX7 TX7 19, w ∈ wsX7_searches := by decide +kernel
  have hm0 := hts (.fieldLink RX7 110 "ArcPlateModel" "nextCost" "I") (by decide +kernel)
  have hm1 := hts (.constant RX7 109 (-1000000000)) (by decide +kernel)
  have hm2 := hts (.fieldLink RX7 113 "ArcPlateModel" "nextX" "I") (by decide +kernel)
  have hm3 := hts (.fieldLink RX7 116 "ArcPlateModel" "nextY" "I") (by decide +kernel)
  have hpc0 := inv_pcost hI
  have hbody : ∀ (H : Heap) (locs : List Loc) (hP : va_P D vwCl (rfW cy a R) H) (hS : va_S (va_A (rfW cy a R) sz) s.heap H locs) (ls : Array Slot) (hl : lv_has ls 5 [(0, .ref (a 0)), (1, .int (iI s9))]), W p l e { frames := 8, cells := 0, slots := 0, locals := 186 } s m ([.ref (a 0), .int (iI s9)] : List Value).toArray below meth c H locs 0 0 (MQ below (kQi D (rfW cy a R) sz (fun u9 : Nat → Int → Int => rfW cy a u9) (fun r9 u9 => ∃ (za : Int) (zb : Int) (zc : Int), (r9 = (srch (R 1) s9).2) ∧ (u9 = (upr (upr R 0 (ups (ups (ups (R 0) 7 za) 8 zb) 9 zc)) 1 ((srch (R 1) s9).1))))) ([.ref (a 0), .int (iI s9)] : List Value).toArray s 0 0 (va_A (rfW cy a R) sz)) (F0 m 0 ls []) := by
    intro H locs hP hS ls hl
    refine lv_iload_n hx hb dX7_searches_0 rfl (lv_at hl 1 rfl) ?_
    refine lv_istore_n (lv' := [(2, .int (iI s9)), (0, .ref (a 0)), (1, .int (iI s9))]) hx hb dX7_searches_1 rfl hl (by decide) rfl (fun ls hl => ?_)
    refine k_iconst hx hb dX7_searches_2 ?_
    refine lv_istore_n (lv' := [(3, .int (iI 0)), (2, .int (iI s9)), (0, .ref (a 0)), (1, .int (iI s9))]) hx hb dX7_searches_3 rfl hl (by decide) rfl (fun ls hl => ?_)
    refine lv_aload_n hx hb dX7_searches_4 rfl (lv_at hl 2 rfl) ?_
    refine k_roV (As := []) (rest := []) ⟨hx, hb, hml, hown, hts⟩ (c_X7_plateCost l D cy a R hI) gX7_searches_X7_plateCost rfl ⟨rfl, rfl⟩ 0 rfl (by decide +kernel) ⟨Nat.le_of_ble_eq_true rfl, Nat.le_of_ble_eq_true rfl⟩ (GG_ok D cy) ((GG_ok D cy).2.2.2 _ _ _ _ (fun _ h => h.elim) ((GG_ok D cy).1 _ _ _ _ hS.2.1 hG)) hP (va_recv hK hP (ci := 6) (q0 := 0) rfl rfl) hl.1 rfl (Nat.le_of_ble_eq_true rfl) ⟨Nat.le_of_ble_eq_true rfl, Nat.le_of_ble_eq_true rfl⟩ dX7_searches_5 (fun r_1 hr_1 => ?_)
    have hr_1 : r_1 = pcost (R 1) := hr_1
    subst hr_1
    refine lv_istore (lv' := [(4, .int (iI (pcost (R 1)))), (3, .int (iI 0)), (2, .int (iI s9)), (0, .ref (a 0)), (1, .int (iI s9))]) hx hb dX7_searches_8 hl (by decide) rfl (fun ls hl => ?_)
    have loop10 : ∀ (n_2 : Nat) (G : Int → Int) (q : Int) (n9 : Int) (c8 : Int) (ga : Int) (gb : Int) (gc : Int) (hi0 : Inv G) (hi1 : c8 = pcost G) (hi2 : 0 ≤ q ∧ q ≤ 512) (hi3 : srch (R 1) s9 = ((srch G q).1, n9 + (srch G q).2)) (hi4 : (-1000000000 ≤ gc ∧ gc ≤ 1000000000) ∨ gc = R 0 9) (hn : c8 + q < (n_2 : Int)) (H : Heap) (locs : List Loc) (hP : va_P D vwCl (rfW cy a (upr (upr R 0 (ups (ups (ups (R 0) 7 ga) 8 gb) 9 gc)) 1 (G))) H) (hD : va_D (va_A (rfW cy a R) sz) (rfW cy a (upr (upr R 0 (ups (ups (ups (R 0) 7 ga) 8 gb) 9 gc)) 1 (G)))) (hS : va_S (va_A (rfW cy a R) sz) s.heap H locs) (ls : Array Slot) (hl : lv_has ls 5 [(4, .int (iI c8)), (3, .int (iI n9)), (2, .int (iI q)), (0, .ref (a 0)), (1, .int (iI s9))]), W p l e { frames := 8, cells := 0, slots := 0, locals := 186 } s m ([.ref (a 0), .int (iI s9)] : List Value).toArray below meth c H locs 0 0 (MQ below (kQi D (rfW cy a R) sz (fun u9 : Nat → Int → Int => rfW cy a u9) (fun r9 u9 => ∃ (za : Int) (zb : Int) (zc : Int), (r9 = (srch (R 1) s9).2) ∧ (u9 = (upr (upr R 0 (ups (ups (ups (R 0) 7 za) 8 zb) 9 zc)) 1 ((srch (R 1) s9).1))))) ([.ref (a 0), .int (iI s9)] : List Value).toArray s 0 0 (va_A (rfW cy a R) sz)) (F0 m 10 ls []) := by
      intro n_2
      induction n_2 with
      | zero => intro G q n9 c8 ga gb gc hi0 hi1 hi2 hi3 hi4 hn H locs hP hD hS ls hl; have hz9 := inv_pcost hi0; exfalso; omega
      | succ n_2 ih10 =>
        intro G q n9 c8 ga gb gc hi0 hi1 hi2 hi3 hi4 hn H locs hP hD hS ls hl
        have hpc := inv_pcost hi0
        refine lv_iload_n hx hb dX7_searches_10 rfl (lv_at hl 2 rfl) ?_
        refine k_if_le (tgt := 64) hx hb dX7_searches_11 (by decide) (by omega) (fun c_3 => ?_) (fun c_3 => ?_)
        · skip
          refine lv_iload_n hx hb dX7_searches_64 rfl (lv_at hl 1 rfl) ?_
          exact W.iret (v := iI n9) hx hb hr (fun t9 ht _ => ⟨⟨iI n9, (upr (upr R 0 (ups (ups (ups (R 0) 7 ga) 8 gb) 9 gc)) 1 (G)), rfl, ⟨n9, rfl, (⟨(ga), (gb), (gc), (by rw [hi3, srch_0 (by omega)]; show n9 = n9 + 0; omega), (by rw [show G = ((srch (R 1) s9).1) from by rw [hi3, srch_0 (by omega)]])⟩ : ∃ (za : Int) (zb : Int) (zc : Int), ((n9 : Int) = (srch (R 1) s9).2) ∧ ((upr (upr R 0 (ups (ups (ups (R 0) 7 ga) 8 gb) 9 gc)) 1 (G)) = (upr (upr R 0 (ups (ups (ups (R 0) 7 za) 8 zb) 9 zc)) 1 ((srch (R 1) s9).1))))⟩, by rw [ht]; exact hP, hD⟩, hS.F ht⟩) hS.2.2 dX7_searches_65 hlocks
        · skip
          refine lv_aload_n hx hb dX7_searches_14 rfl (lv_at hl 3 rfl) ?_
          refine lv_iload_n hx hb dX7_searches_15 rfl (lv_at hl 2 rfl) ?_
          refine k_muv (k_runV (As := [.int (iI q)]) (rest := []) ⟨hx, hb, hml, hown, hts⟩ (c_X7_look l D cy H.size a (upr (upr R 0 (ups (ups (ups (R 0) 7 ga) 8 gb) 9 gc)) 1 (G)) q (show Inv (G) from hi0) (show 1 ≤ q ∧ q ≤ 512 by omega)) gX7_searches_X7_look rfl ⟨rfl, rfl⟩ 1 rfl (by decide +kernel) ⟨Nat.le_of_ble_eq_true rfl, Nat.le_of_ble_eq_true rfl⟩ (GG_ok D cy) hG hS (k_free hD hS hA) hP hD (va_recv hK hP (ci := 6) (q0 := 0) rfl rfl) hl.1 rfl (Nat.le_of_ble_eq_true rfl) ⟨Nat.le_of_ble_eq_true rfl, Nat.le_of_ble_eq_true rfl⟩ dX7_searches_16) (k_free hD hS hA) hS (fun R_5 H1 locs1 hR_5 hP1 hD1 hS1 hk1 => ?_)
          have hR_5 : ∃ (za : Int) (zb : Int) (zc : Int), (lkR (G) q (((ga))) ((gb)) 9 = (za, zb, zc)) ∧ (R_5 = (upr (upr (upr (upr R 0 (ups (ups (ups (R 0) 7 ga) 8 gb) 9 gc)) 1 (G)) 0 (ups (ups (ups ((ups (ups (ups (R 0) 7 ga) 8 gb) 9 gc)) 7 za) 8 zb) 9 zc)) 1 (G))) := hR_5
          obtain ⟨za_6, zb_7, zc_8, hf_9, hR_5⟩ := hR_5
          have hf_9 : lkR (G) q (((ga))) ((gb)) 9 = (za_6, zb_7, zc_8) := hf_9
          subst hR_5
          have hDn : va_D (va_A (rfW cy a R) sz) (rfW cy a (upr (upr R 0 (ups (ups (ups ((ups (ups (ups (R 0) 7 ga) 8 gb) 9 gc)) 7 za_6) 8 zb_7) 9 zc_8)) 1 (G))) := k_addr hD rfl
          have hPn : va_P D vwCl (rfW cy a (upr (upr R 0 (ups (ups (ups ((ups (ups (ups (R 0) 7 ga) 8 gb) 9 gc)) 7 za_6) 8 zb_7) 9 zc_8)) 1 (G))) H1 := hP1
          clear hP hD hS hP1 hD1 hk1
          have hP := hPn
          have hD := hDn
          have hS := hS1
          clear hPn hDn hS1
          generalize H1 = H at hP hS ⊢
          generalize locs1 = locs at hS ⊢
          have hlk := lkOK_of hf_9
          have hcb : -1000000000 ≤ zc_8 ∧ zc_8 ≤ 1000000000 := by rcases hlk with ⟨h9, _⟩ | ⟨_, h9, h8, _⟩; omega; have h7 := inv_pcost (inv_tPo hi0 h9); omega
          refine lv_aload_n hx hb dX7_searches_19 rfl (lv_at hl 3 rfl) ?_
          refine va_get (D := D) (ci := 6) (v := .int (iI zc_8)) (C := RX7) (T := TX7) (N := 19) hx hb hts hinX7 hown hK hP 0 rfl rfl 9 (by decide) hm0 (fun _ h9 => h9) rfl dX7_searches_20 ?_
          refine k_ldc (z := (-1000000000)) hx hb hown hm1 (by decide +kernel) dX7_searches_23 ?_
          refine k_icmp_eq (tgt := 57) hx hb dX7_searches_25 (by decide) (by omega) (by omega) (fun c_10 => ?_) (fun c_10 => ?_)
          · skip
            have hno : ¬ lkOK G q := by rcases hlk with ⟨_, h9⟩ | ⟨_, _, _, h9⟩; exact h9; intro z; have := h9.mp z; omega
            refine lv_iload_n hx hb dX7_searches_57 rfl (lv_at hl 2 rfl) ?_
            refine k_iconst hx hb dX7_searches_58 ?_
            refine k_idiv hx hb dX7_searches_59 (by omega) (by omega) ?_
            refine lv_istore_n (lv' := [(2, .int (iI (q / 2))), (4, .int (iI c8)), (3, .int (iI n9)), (0, .ref (a 0)), (1, .int (iI s9))]) hx hb dX7_searches_60 rfl hl (by decide) rfl (fun ls hl => ?_)
            refine lv_goto (tgt := 10) hx hb dX7_searches_61 (by decide) ?_
            exact ih10 G (q / 2) n9 c8 za_6 zb_7 zc_8  (by first | exact hi0 | exact inv_tPo hi0 hyes.2.1) (by first | exact hi1 | rfl) (by omega) (by first | (rw [hi3, srch_n hi0 (by omega) (by omega) hno]) | (rw [hi3, srch_y hi0 (by omega) (by omega) hyes.1 hyes.2.2.2]; exact congrArg (Prod.mk _) (by dsimp only; omega))) (Or.inl (by omega)) (by omega) H locs (by rw [show (ups (ups (ups (R 0) 7 za_6) 8 zb_7) 9 zc_8) = (ups (ups (ups ((ups (ups (ups (R 0) 7 ga) 8 gb) 9 gc)) 7 za_6) 8 zb_7) 9 zc_8) from by first | rfl | exact (lk_row _ _ _ _ _ _ _).symm]; exact hP) (k_addr hD rfl) hS ls (lv_sub hl [1, 2, 0, 3, 4] rfl)
          · skip
            refine lv_aload_n hx hb dX7_searches_28 rfl (lv_at hl 3 rfl) ?_
            refine va_get (D := D) (ci := 6) (v := .int (iI zc_8)) (C := RX7) (T := TX7) (N := 19) hx hb hts hinX7 hown hK hP 0 rfl rfl 9 (by decide) hm0 (fun _ h9 => h9) rfl dX7_searches_29 ?_
            refine lv_iload hx hb dX7_searches_32 (lv_at hl 0 rfl) ?_
            refine k_icmp_ge (tgt := 57) hx hb dX7_searches_34 (by decide) (by omega) (by omega) (fun c_11 => ?_) (fun c_11 => ?_)
            · skip
              have hno : ¬ lkOK G q := by rcases hlk with ⟨_, h9⟩ | ⟨_, _, _, h9⟩; exact h9; intro z; have := h9.mp z; omega
              refine lv_iload_n hx hb dX7_searches_57 rfl (lv_at hl 2 rfl) ?_
              refine k_iconst hx hb dX7_searches_58 ?_
              refine k_idiv hx hb dX7_searches_59 (by omega) (by omega) ?_
              refine lv_istore_n (lv' := [(2, .int (iI (q / 2))), (4, .int (iI c8)), (3, .int (iI n9)), (0, .ref (a 0)), (1, .int (iI s9))]) hx hb dX7_searches_60 rfl hl (by decide) rfl (fun ls hl => ?_)
              refine lv_goto (tgt := 10) hx hb dX7_searches_61 (by decide) ?_
              exact ih10 G (q / 2) n9 c8 za_6 zb_7 zc_8  (by first | exact hi0 | exact inv_tPo hi0 hyes.2.1) (by first | exact hi1 | rfl) (by omega) (by first | (rw [hi3, srch_n hi0 (by omega) (by omega) hno]) | (rw [hi3, srch_y hi0 (by omega) (by omega) hyes.1 hyes.2.2.2]; exact congrArg (Prod.mk _) (by dsimp only; omega))) (Or.inl (by omega)) (by omega) H locs (by rw [show (ups (ups (ups (R 0) 7 za_6) 8 zb_7) 9 zc_8) = (ups (ups (ups ((ups (ups (ups (R 0) 7 ga) 8 gb) 9 gc)) 7 za_6) 8 zb_7) 9 zc_8) from by first | rfl | exact (lk_row _ _ _ _ _ _ _).symm]; exact hP) (k_addr hD rfl) hS ls (lv_sub hl [1, 2, 0, 3, 4] rfl)
            · skip
              have hyes : lkc G q = (za_6, zb_7, zc_8) ∧ poleOK za_6 zb_7 ∧ zc_8 = pcost (tPo G za_6 zb_7) ∧ lkOK G q := by rcases hlk with ⟨h9, _⟩ | ⟨q1, q2, q3, q4⟩; omega; exact ⟨q1, q2, q3, q4.mpr ⟨by omega, by omega⟩⟩
              refine lv_aload_n hx hb dX7_searches_37 rfl (lv_at hl 3 rfl) ?_
              refine lv_aload_n hx hb dX7_searches_38 rfl (lv_at hl 3 rfl) ?_
              refine va_get (D := D) (ci := 6) (v := .int (iI za_6)) (C := RX7) (T := TX7) (N := 19) hx hb hts hinX7 hown hK hP 0 rfl rfl 7 (by decide) hm2 (fun _ h9 => h9) rfl dX7_searches_39 ?_
              refine lv_aload_n hx hb dX7_searches_42 rfl (lv_at hl 3 rfl) ?_
              refine va_get (D := D) (ci := 6) (v := .int (iI zb_7)) (C := RX7) (T := TX7) (N := 19) hx hb hts hinX7 hown hK hP 0 rfl rfl 8 (by decide) hm3 (fun _ h9 => h9) rfl dX7_searches_43 ?_
              refine k_mui (k_runV (As := [.int (iI za_6), .int (iI zb_7)]) (rest := []) ⟨hx, hb, hml, hown, hts⟩ (c_X7_setsPole l D cy H.size a (upr (upr R 0 (ups (ups (ups ((ups (ups (ups (R 0) 7 ga) 8 gb) 9 gc)) 7 za_6) 8 zb_7) 9 zc_8)) 1 (G)) za_6 zb_7 (show Inv (G) from hi0) (show poleOK za_6 zb_7 from hyes.2.1)) gX7_searches_X7_setsPole rfl ⟨rfl, rfl⟩ 2 rfl (by decide +kernel) ⟨Nat.le_of_ble_eq_true rfl, Nat.le_of_ble_eq_true rfl⟩ (GG_ok D cy) hG hS (k_free hD hS hA) hP hD (va_recv hK hP (ci := 6) (q0 := 0) rfl rfl) hl.1 rfl (Nat.le_of_ble_eq_true rfl) ⟨Nat.le_of_ble_eq_true rfl, Nat.le_of_ble_eq_true rfl⟩ dX7_searches_46) (k_free hD hS hA) hS (fun r_12 R_13 H1 locs1 hR_13 hP1 hD1 hS1 hk1 => ?_)
              have hR_13 : r_12 = pcost (tPo (G) za_6 zb_7) ∧ R_13 = (upr (upr (upr R 0 (ups (ups (ups ((ups (ups (ups (R 0) 7 ga) 8 gb) 9 gc)) 7 za_6) 8 zb_7) 9 zc_8)) 1 (G)) 1 (tPo (G) za_6 zb_7)) := hR_13
              obtain ⟨hr_12, rfl⟩ := hR_13
              have hr_12 : r_12 = pcost (tPo (G) za_6 zb_7) := hr_12
              subst hr_12
              have hDn : va_D (va_A (rfW cy a R) sz) (rfW cy a (upr (upr R 0 (ups (ups (ups ((ups (ups (ups (R 0) 7 ga) 8 gb) 9 gc)) 7 za_6) 8 zb_7) 9 zc_8)) 1 (tPo (G) za_6 zb_7))) := k_addr hD rfl
              have hPn : va_P D vwCl (rfW cy a (upr (upr R 0 (ups (ups (ups ((ups (ups (ups (R 0) 7 ga) 8 gb) 9 gc)) 7 za_6) 8 zb_7) 9 zc_8)) 1 (tPo (G) za_6 zb_7))) H1 := hP1
              clear hP hD hS hP1 hD1 hk1
              have hP := hPn
              have hD := hDn
              have hS := hS1
              clear hPn hDn hS1
              generalize H1 = H at hP hS ⊢
              generalize locs1 = locs at hS ⊢
              have hpc2 := inv_pcost (inv_tPo hi0 hyes.2.1)
              have hyc := hyes.2.2.1
              refine lv_istore (lv' := [(4, .int (iI (pcost (tPo (G) za_6 zb_7)))), (3, .int (iI n9)), (2, .int (iI q)), (0, .ref (a 0)), (1, .int (iI s9))]) hx hb dX7_searches_49 hl (by decide) rfl (fun ls hl => ?_)
              refine lv_iinc (v := iI (n9 + 1)) (lv' := [(3, .int (iI (n9 + 1))), (4, .int (iI (pcost (tPo (G) za_6 zb_7)))), (2, .int (iI q)), (0, .ref (a 0)), (1, .int (iI s9))]) hx hb dX7_searches_51 hl (k := 1) rfl (iI_add _ _) (by decide) rfl (fun ls hl => ?_)
              refine lv_goto (tgt := 10) hx hb dX7_searches_54 (by decide) ?_
              exact ih10 (tPo (G) za_6 zb_7) q (n9 + 1) (pcost (tPo (G) za_6 zb_7)) za_6 zb_7 zc_8  (by first | exact hi0 | exact inv_tPo hi0 hyes.2.1) (by first | exact hi1 | rfl) (by omega) (by first | (rw [hi3, srch_n hi0 (by omega) (by omega) hno]) | (rw [hi3, srch_y hi0 (by omega) (by omega) hyes.1 hyes.2.2.2]; exact congrArg (Prod.mk _) (by dsimp only; omega))) (Or.inl (by omega)) (by omega) H locs (by rw [show (ups (ups (ups (R 0) 7 za_6) 8 zb_7) 9 zc_8) = (ups (ups (ups ((ups (ups (ups (R 0) 7 ga) 8 gb) 9 gc)) 7 za_6) 8 zb_7) 9 zc_8) from by first | rfl | exact (lk_row _ _ _ _ _ _ _).symm]; exact hP) (k_addr hD rfl) hS ls (lv_sub hl [1, 0, 2, 3, 4] rfl)
    exact loop10 (((pcost (R 1)) + s9 : Int) + 1).toNat (R 1) s9 0 (pcost (R 1)) (R 0 7) (R 0 8) (R 0 9)  (hI) (rfl) (by omega) (by rw [Int.zero_add]) (Or.inr rfl) (by omega) H locs (by rw [show (ups (ups (ups (R 0) 7 (R 0 7)) 8 (R 0 8)) 9 (R 0 9)) = (R 0) from by rw [ups_self, ups_self, ups_self]]; exact hP) (k_addr hD rfl) hS ls (lv_sub hl [0, 1, 2, 3, 4] rfl)
  exact hbody s.heap [] hP hS ls hl
set_option maxHeartbeats 4000000 in
set_option maxRecDepth 100000 in
theorem c_X7_search (l : Launch) (D : va_G) (cy : Nat → ClassId) (sz : Nat) (a : Nat → Nat) (R : Nat → Int → Int) (s9 : Int) (hI : Inv (R 1)) (hsc : 0 ≤ R 0 2 ∧ R 0 2 ≤ 4) (hrs9 : -2147483648 ≤ s9 ∧ s9 ≤ 2147483647) : Met l yX7_search wsX7_search { frames := 9, cells := 0, slots := 0, locals := 210 } (mPre (GG D cy) D (rfW cy a R) sz ([.ref (a 0), .int (iI s9)] : List Value)) (kQi D (rfW cy a R) sz (fun u9 : Nat → Int → Int => rfW cy a u9) (fun r9 u9 => ((¬ (1 ≤ s9 ∧ s9 ≤ 512)) ∧ r9 = 0 ∧ u9 = (upr R 0 (ups (R 0) 6 1))) ∨ (∃ (za : Int) (zb : Int) (zc : Int), (1 ≤ s9 ∧ s9 ≤ 512) ∧ r9 = (srch (R 1) s9).2 ∧ u9 = (upr (upr (upr R 0 (ups (ups (ups (ups (ups (R 0) 6 0) 2 (kpN (R 0 2))) 7 za) 8 zb) 9 zc)) 1 ((srch (R 1) s9).1)) 2 (kpS (R 2) (R 1) (R 0 2)))))) 0 0 (va_A (rfW cy a R) sz) := by
  refine kM_start (cc := cX7_search) (maxL := 2) (ret := (some .int)) (by decide) rfl (Nat.le_of_ble_eq_true rfl) ?_
  intro p e s m below meth c hx hb hr hlocks hml hts hown hsz hA hG hP hD hS hin ls hl
  have hK := hG.1
  have hl : lv_has ls 2 [(0, .ref (a 0)), (1, .int (iI s9))] := hl
  have hinX7 : ∀ w ∈ u_ws RX7 TX7 19, w ∈ wsX7_search := by decide +kernel
  have hm0 := hts (.fieldLink RX7 31 "ArcPlateModel" "code" "I") (by decide +kernel)
  have hbody : ∀ (H : Heap) (locs : List Loc) (hP : va_P D vwCl (rfW cy a R) H) (hS : va_S (va_A (rfW cy a R) sz) s.heap H locs) (ls : Array Slot) (hl : lv_has ls 2 [(0, .ref (a 0)), (1, .int (iI s9))]), W p l e { frames := 9, cells := 0, slots := 0, locals := 210 } s m ([.ref (a 0), .int (iI s9)] : List Value).toArray below meth c H locs 0 0 (MQ below (kQi D (rfW cy a R) sz (fun u9 : Nat → Int → Int => rfW cy a u9) (fun r9 u9 => ((¬ (1 ≤ s9 ∧ s9 ≤ 512)) ∧ r9 = 0 ∧ u9 = (upr R 0 (ups (R 0) 6 1))) ∨ (∃ (za : Int) (zb : Int) (zc : Int), (1 ≤ s9 ∧ s9 ≤ 512) ∧ r9 = (srch (R 1) s9).2 ∧ u9 = (upr (upr (upr R 0 (ups (ups (ups (ups (ups (R 0) 6 0) 2 (kpN (R 0 2))) 7 za) 8 zb) 9 zc)) 1 ((srch (R 1) s9).1)) 2 (kpS (R 2) (R 1) (R 0 2)))))) ([.ref (a 0), .int (iI s9)] : List Value).toArray s 0 0 (va_A (rfW cy a R) sz)) (F0 m 0 ls []) := by
    intro H locs hP hS ls hl
    refine lv_aload_n hx hb dX7_search_0 rfl (lv_at hl 0 rfl) ?_
    refine lv_iload_n hx hb dX7_search_1 rfl (lv_at hl 1 rfl) ?_
    refine k_roS (As := [.int (iI s9)]) (rest := [.ref (a 0)]) ⟨hx, hb, hml, hown, hts⟩ (c_X7_notSearch l D s9 (show -2147483648 ≤ s9 ∧ s9 ≤ 2147483647 by omega)) gX7_search_X7_notSearch rfl ⟨rfl, rfl⟩ 1 rfl (by decide +kernel) ⟨Nat.le_of_ble_eq_true rfl, Nat.le_of_ble_eq_true rfl⟩ kGT_ok trivial (fun k q h => by simp at h) hl.1 rfl (Nat.le_of_ble_eq_true rfl) ⟨Nat.le_of_ble_eq_true rfl, Nat.le_of_ble_eq_true rfl⟩ dX7_search_2 (fun r_1 hr_1 => ?_)
    have hr_1 : ((1 ≤ s9 ∧ s9 ≤ 512) ∧ r_1 = 0) ∨ ((¬ (1 ≤ s9 ∧ s9 ≤ 512)) ∧ r_1 = 2) := hr_1
    rcases hr_1 with ⟨c_2, hr_1⟩ | ⟨c_2, hr_1⟩ <;> subst hr_1
    · skip
      refine k_if_ne (tgt := 12) hx hb dX7_search_5 (by decide) (by omega) (fun c_3 => ?_) (fun c_3 => ?_)
      · exfalso; omega
      · skip
        refine k_iconst hx hb dX7_search_8 ?_
        refine lv_goto (tgt := 13) hx hb dX7_search_9 (by decide) ?_
        refine va_put (D := D) (ci := 6) (v := .int (iI 0)) (ty := .int) (C := RX7) (T := TX7) (N := 19) hx hb hts hinX7 tyX7 tyX7_ok nmX7 hown hK hP hD hS 0 rfl rfl 6 (by decide) hm0 (fun _ h9 => h9) rfl (by decide +kernel) rfl rfl (Nat.le_of_ble_eq_true rfl) dX7_search_13 (fun H locs hP hD hS => ?_)
        have hP : va_P D vwCl (rfW cy a (upr R 0 (ups (R 0) 6 0))) H := hP
        have hD : va_D (va_A (rfW cy a R) sz) (rfW cy a (upr R 0 (ups (R 0) 6 0))) := hD
        refine lv_aload_n hx hb dX7_search_16 rfl (lv_at hl 0 rfl) ?_
        refine va_get (D := D) (ci := 6) (v := .int (iI 0)) (C := RX7) (T := TX7) (N := 19) hx hb hts hinX7 hown hK hP 0 rfl rfl 6 (by decide) hm0 (fun _ h9 => h9) rfl dX7_search_17 ?_
        refine k_if_eq (tgt := 25) hx hb dX7_search_20 (by decide) (by omega) (fun c_4 => ?_) (fun c_4 => ?_)
        · skip
          refine lv_aload_n hx hb dX7_search_25 rfl (lv_at hl 0 rfl) ?_
          refine k_muv (k_runV (As := []) (rest := []) ⟨hx, hb, hml, hown, hts⟩ (c_X7_keep l D cy H.size a (upr R 0 (ups (R 0) 6 0)) (show 0 ≤ (R 0 2) ∧ (R 0 2) ≤ 4 by omega)) gX7_search_X7_keep rfl ⟨rfl, rfl⟩ 0 rfl (by decide +kernel) ⟨Nat.le_of_ble_eq_true rfl, Nat.le_of_ble_eq_true rfl⟩ (GG_ok D cy) hG hS (k_free hD hS hA) hP hD (va_recv hK hP (ci := 6) (q0 := 0) rfl rfl) hl.1 rfl (Nat.le_of_ble_eq_true rfl) ⟨Nat.le_of_ble_eq_true rfl, Nat.le_of_ble_eq_true rfl⟩ dX7_search_26) (k_free hD hS hA) hS (fun R_6 H1 locs1 hR_6 hP1 hD1 hS1 hk1 => ?_)
          have hR_6 : R_6 = (upr (upr (upr R 0 (ups (R 0) 6 0)) 0 (ups ((ups (R 0) 6 0)) 2 (kpN ((R 0 2))))) 2 (kpS ((R 2)) ((R 1)) ((R 0 2)))) := hR_6
          subst hR_6
          have hDn : va_D (va_A (rfW cy a R) sz) (rfW cy a (upr (upr R 0 (ups ((ups (R 0) 6 0)) 2 (kpN ((R 0 2))))) 2 (kpS ((R 2)) ((R 1)) ((R 0 2))))) := k_addr hD rfl
          have hPn : va_P D vwCl (rfW cy a (upr (upr R 0 (ups ((ups (R 0) 6 0)) 2 (kpN ((R 0 2))))) 2 (kpS ((R 2)) ((R 1)) ((R 0 2))))) H1 := hP1
          clear hP hD hS hP1 hD1 hk1
          have hP := hPn
          have hD := hDn
          have hS := hS1
          clear hPn hDn hS1
          generalize H1 = H at hP hS ⊢
          generalize locs1 = locs at hS ⊢
          refine lv_aload_n hx hb dX7_search_29 rfl (lv_at hl 0 rfl) ?_
          refine lv_iload_n hx hb dX7_search_30 rfl (lv_at hl 1 rfl) ?_
          refine k_mui (k_runV (As := [.int (iI s9)]) (rest := []) ⟨hx, hb, hml, hown, hts⟩ (c_X7_searches l D cy H.size a (upr (upr R 0 (ups ((ups (R 0) 6 0)) 2 (kpN ((R 0 2))))) 2 (kpS ((R 2)) ((R 1)) ((R 0 2)))) s9 hI (show 1 ≤ s9 ∧ s9 ≤ 512 by omega)) gX7_search_X7_searches rfl ⟨rfl, rfl⟩ 1 rfl (by decide +kernel) ⟨Nat.le_of_ble_eq_true rfl, Nat.le_of_ble_eq_true rfl⟩ (GG_ok D cy) hG hS (k_free hD hS hA) hP hD (va_recv hK hP (ci := 6) (q0 := 0) rfl rfl) hl.1 rfl (Nat.le_of_ble_eq_true rfl) ⟨Nat.le_of_ble_eq_true rfl, Nat.le_of_ble_eq_true rfl⟩ dX7_search_31) (k_free hD hS hA) hS (fun r_7 R_8 H1 locs1 hR_8 hP1 hD1 hS1 hk1 => ?_)
          have hR_8 : ∃ (za : Int) (zb : Int) (zc : Int), (r_7 = (srch ((R 1)) s9).2) ∧ (R_8 = (upr (upr (upr (upr R 0 (ups ((ups (R 0) 6 0)) 2 (kpN ((R 0 2))))) 2 (kpS ((R 2)) ((R 1)) ((R 0 2)))) 0 (ups (ups (ups ((ups ((ups (R 0) 6 0)) 2 (kpN ((R 0 2))))) 7 za) 8 zb) 9 zc)) 1 ((srch ((R 1)) s9).1))) := hR_8
          obtain ⟨za_9, zb_10, zc_11, hr_7, hR_8⟩ := hR_8
          subst hR_8
          have hr_7 : r_7 = (srch ((R 1)) s9).2 := hr_7
          subst hr_7
          have hDn : va_D (va_A (rfW cy a R) sz) (rfW cy a (upr (upr (upr R 0 (ups (ups (ups ((ups ((ups (R 0) 6 0)) 2 (kpN ((R 0 2))))) 7 za_9) 8 zb_10) 9 zc_11)) 1 ((srch ((R 1)) s9).1)) 2 (kpS ((R 2)) ((R 1)) ((R 0 2))))) := k_addr hD rfl
          have hPn : va_P D vwCl (rfW cy a (upr (upr (upr R 0 (ups (ups (ups ((ups ((ups (R 0) 6 0)) 2 (kpN ((R 0 2))))) 7 za_9) 8 zb_10) 9 zc_11)) 1 ((srch ((R 1)) s9).1)) 2 (kpS ((R 2)) ((R 1)) ((R 0 2))))) H1 := hP1
          clear hP hD hS hP1 hD1 hk1
          have hP := hPn
          have hD := hDn
          have hS := hS1
          clear hPn hDn hS1
          generalize H1 = H at hP hS ⊢
          generalize locs1 = locs at hS ⊢
          exact W.iret (v := iI ((srch ((R 1)) s9).2)) hx hb hr (fun t9 ht _ => ⟨⟨iI ((srch ((R 1)) s9).2), (upr (upr (upr R 0 (ups (ups (ups ((ups ((ups (R 0) 6 0)) 2 (kpN ((R 0 2))))) 7 za_9) 8 zb_10) 9 zc_11)) 1 ((srch ((R 1)) s9).1)) 2 (kpS ((R 2)) ((R 1)) ((R 0 2)))), rfl, ⟨((srch ((R 1)) s9).2), rfl, (by first | exact Or.inl ⟨(by omega), (by first | rfl | omega), rfl⟩ | exact Or.inr (⟨(za_9), (zb_10), (zc_11), (by omega), (by first | rfl | omega), rfl⟩) : ((¬ (1 ≤ s9 ∧ s9 ≤ 512)) ∧ ((srch ((R 1)) s9).2 : Int) = 0 ∧ (upr (upr (upr R 0 (ups (ups (ups ((ups ((ups (R 0) 6 0)) 2 (kpN ((R 0 2))))) 7 za_9) 8 zb_10) 9 zc_11)) 1 ((srch ((R 1)) s9).1)) 2 (kpS ((R 2)) ((R 1)) ((R 0 2)))) = (upr R 0 (ups (R 0) 6 1))) ∨ (∃ (za : Int) (zb : Int) (zc : Int), (1 ≤ s9 ∧ s9 ≤ 512) ∧ ((srch ((R 1)) s9).2 : Int) = (srch (R 1) s9).2 ∧ (upr (upr (upr R 0 (ups (ups (ups ((ups ((ups (R 0) 6 0)) 2 (kpN ((R 0 2))))) 7 za_9) 8 zb_10) 9 zc_11)) 1 ((srch ((R 1)) s9).1)) 2 (kpS ((R 2)) ((R 1)) ((R 0 2)))) = (upr (upr (upr R 0 (ups (ups (ups (ups (ups (R 0) 6 0) 2 (kpN (R 0 2))) 7 za) 8 zb) 9 zc)) 1 ((srch (R 1) s9).1)) 2 (kpS (R 2) (R 1) (R 0 2)))))⟩, by rw [ht]; exact hP, hD⟩, hS.F ht⟩) hS.2.2 dX7_search_34 hlocks
        · exfalso; omega
    · skip
      refine k_if_ne (tgt := 12) hx hb dX7_search_5 (by decide) (by omega) (fun c_13 => ?_) (fun c_13 => ?_)
      · skip
        refine k_iconst hx hb dX7_search_12 ?_
        refine va_put (D := D) (ci := 6) (v := .int (iI 1)) (ty := .int) (C := RX7) (T := TX7) (N := 19) hx hb hts hinX7 tyX7 tyX7_ok nmX7 hown hK hP hD hS 0 rfl rfl 6 (by decide) hm0 (fun _ h9 => h9) rfl (by decide +kernel) rfl rfl (Nat.le_of_ble_eq_true rfl) dX7_search_13 (fun H locs hP hD hS => ?_)
        have hP : va_P D vwCl (rfW cy a (upr R 0 (ups (R 0) 6 1))) H := hP
        have hD : va_D (va_A (rfW cy a R) sz) (rfW cy a (upr R 0 (ups (R 0) 6 1))) := hD
        refine lv_aload_n hx hb dX7_search_16 rfl (lv_at hl 0 rfl) ?_
        refine va_get (D := D) (ci := 6) (v := .int (iI 1)) (C := RX7) (T := TX7) (N := 19) hx hb hts hinX7 hown hK hP 0 rfl rfl 6 (by decide) hm0 (fun _ h9 => h9) rfl dX7_search_17 ?_
        refine k_if_eq (tgt := 25) hx hb dX7_search_20 (by decide) (by omega) (fun c_14 => ?_) (fun c_14 => ?_)
        · exfalso; omega
        · skip
          refine k_iconst hx hb dX7_search_23 ?_
          exact W.iret (v := iI 0) hx hb hr (fun t9 ht _ => ⟨⟨iI 0, (upr R 0 (ups (R 0) 6 1)), rfl, ⟨0, rfl, (by first | exact Or.inl ⟨(by omega), (by first | rfl | omega), rfl⟩ | exact Or.inr (⟨((R 0 7)), ((R 0 8)), ((R 0 9)), (by omega), (by first | rfl | omega), rfl⟩) : ((¬ (1 ≤ s9 ∧ s9 ≤ 512)) ∧ (0 : Int) = 0 ∧ (upr R 0 (ups (R 0) 6 1)) = (upr R 0 (ups (R 0) 6 1))) ∨ (∃ (za : Int) (zb : Int) (zc : Int), (1 ≤ s9 ∧ s9 ≤ 512) ∧ (0 : Int) = (srch (R 1) s9).2 ∧ (upr R 0 (ups (R 0) 6 1)) = (upr (upr (upr R 0 (ups (ups (ups (ups (ups (R 0) 6 0) 2 (kpN (R 0 2))) 7 za) 8 zb) 9 zc)) 1 ((srch (R 1) s9).1)) 2 (kpS (R 2) (R 1) (R 0 2)))))⟩, by rw [ht]; exact hP, hD⟩, hS.F ht⟩) hS.2.2 dX7_search_24 hlocks
      · exfalso; omega
  exact hbody s.heap [] hP hS ls hl
set_option maxHeartbeats 4000000 in
set_option maxRecDepth 100000 in
theorem c_X7_matchNext (l : Launch) (D : va_G) (cy : Nat → ClassId) (sz : Nat) (a : Nat → Nat) (R : Nat → Int → Int)  (hI : Inv (R 1)) (hC : cstOK (R 1) (R 1 8) (R 4)) (hSO : ∀ k : Int, 0 ≤ k → k < 12 → R 5 k = -1000000000 ∨ (0 ≤ R 5 k ∧ R 5 k < R 1 13)) (hTR : ∀ k : Int, 0 ≤ k → k < 12 → R 6 k = -1000000000 ∨ (0 ≤ R 6 k ∧ R 6 k < R 1 12)) : Met l yX7_matchNext wsX7_matchNext { frames := 1, cells := 0, slots := 0, locals := 21 } (mPre (GG D cy) D (rfW cy a R) sz ([.ref (a 0)] : List Value)) (kQi D (rfW cy a R) sz (fun u9 : Nat → Int → Int => rfW cy a u9) (fun r9 u9 => ((pick (R 1) (R 1 8) (R 5) (R 6) = -1000000000) ∧ r9 = 0 ∧ u9 = R) ∨ ((pick (R 1) (R 1 8) (R 5) (R 6) ≠ -1000000000) ∧ r9 = 1 ∧ u9 = (upr (upr (upr R 0 (ups (ups (R 0) 13 (R 0 13 + 1)) 14 (R 0 14 + cstK (R 1) (R 1 8) (pick (R 1) (R 1 8) (R 5) (R 6))))) 5 (ups (R 5) (pick (R 1) (R 1 8) (R 5) (R 6) / 12) (pick (R 1) (R 1 8) (R 5) (R 6) % 12))) 6 (ups (R 6) (pick (R 1) (R 1 8) (R 5) (R 6) % 12) (pick (R 1) (R 1 8) (R 5) (R 6) / 12)))))) 0 0 (va_A (rfW cy a R) sz) := by
  refine kM_start (cc := cX7_matchNext) (maxL := 4) (ret := (some .boolean)) (by decide) rfl (Nat.le_of_ble_eq_true rfl) ?_
  intro p e s m below meth c hx hb hr hlocks hml hts hown hsz hA hG hP hD hS hin ls hl
  have hK := hG.1
  have hl : lv_has ls 4 [(0, .ref (a 0))] := hl
  have hinX7 : ∀ w ∈ u_ws RX7 TX7 19, w ∈ wsX7_matchNext := by decide +kernel
  have hm0 := hts (.constant RX7 109 (-1000000000)) (by decide +kernel)
  have hm1 := hts (.fieldLink RX7 7 "ArcPlateModel" "m" "[I") (by decide +kernel)
  have hm2 := hts (.fieldLink RX7 22 "ArcPlateModel" "starOf" "[I") (by decide +kernel)
  have hm3 := hts (.fieldLink RX7 25 "ArcPlateModel" "trailOf" "[I") (by decide +kernel)
  have hm4 := hts (.fieldLink RX7 201 "ArcPlateModel" "matches" "I") (by decide +kernel)
  have hm5 := hts (.fieldLink RX7 204 "ArcPlateModel" "sumOfCosts" "I") (by decide +kernel)
  have hm6 := hts (.fieldLink RX7 19 "ArcPlateModel" "costs" "[I") (by decide +kernel)
  have h12 := inv_S12 hI
  have hmt5 := hI.1.2.2.2.2.2.1
  have hbody : ∀ (H : Heap) (locs : List Loc) (hP : va_P D vwCl (rfW cy a R) H) (hS : va_S (va_A (rfW cy a R) sz) s.heap H locs) (ls : Array Slot) (hl : lv_has ls 4 [(0, .ref (a 0))]), W p l e { frames := 1, cells := 0, slots := 0, locals := 21 } s m ([.ref (a 0)] : List Value).toArray below meth c H locs 0 0 (MQ below (kQi D (rfW cy a R) sz (fun u9 : Nat → Int → Int => rfW cy a u9) (fun r9 u9 => ((pick (R 1) (R 1 8) (R 5) (R 6) = -1000000000) ∧ r9 = 0 ∧ u9 = R) ∨ ((pick (R 1) (R 1 8) (R 5) (R 6) ≠ -1000000000) ∧ r9 = 1 ∧ u9 = (upr (upr (upr R 0 (ups (ups (R 0) 13 (R 0 13 + 1)) 14 (R 0 14 + cstK (R 1) (R 1 8) (pick (R 1) (R 1 8) (R 5) (R 6))))) 5 (ups (R 5) (pick (R 1) (R 1 8) (R 5) (R 6) / 12) (pick (R 1) (R 1 8) (R 5) (R 6) % 12))) 6 (ups (R 6) (pick (R 1) (R 1 8) (R 5) (R 6) % 12) (pick (R 1) (R 1 8) (R 5) (R 6) / 12)))))) ([.ref (a 0)] : List Value).toArray s 0 0 (va_A (rfW cy a R) sz)) (F0 m 0 ls []) := by
    intro H locs hP hS ls hl
    refine k_ldc (z := (-1000000000)) hx hb hown hm0 (by decide +kernel) dX7_matchNext_0 ?_
    refine lv_istore_n (lv' := [(1, .int (iI (-1000000000))), (0, .ref (a 0))]) hx hb dX7_matchNext_2 rfl hl (by decide) rfl (fun ls hl => ?_)
    refine k_iconst hx hb dX7_matchNext_3 ?_
    refine lv_istore_n (lv' := [(2, .int (iI 0)), (1, .int (iI (-1000000000))), (0, .ref (a 0))]) hx hb dX7_matchNext_4 rfl hl (by decide) rfl (fun ls hl => ?_)
    have loop5 : ∀ (n_1 : Nat) (k : Int) (b : Int) (hi0 : 0 ≤ k) (hi1 : k ≤ 12 * R 1 12) (hi2 : bto (R 1) (R 1 8) (R 5) (R 6) k b) (hn : 12 * R 1 12 - k < (n_1 : Int)) (ls : Array Slot) (hl : lv_has ls 4 [(2, .int (iI k)), (1, .int (iI b)), (0, .ref (a 0))]), W p l e { frames := 1, cells := 0, slots := 0, locals := 21 } s m ([.ref (a 0)] : List Value).toArray below meth c H locs 0 0 (MQ below (kQi D (rfW cy a R) sz (fun u9 : Nat → Int → Int => rfW cy a u9) (fun r9 u9 => ((pick (R 1) (R 1 8) (R 5) (R 6) = -1000000000) ∧ r9 = 0 ∧ u9 = R) ∨ ((pick (R 1) (R 1 8) (R 5) (R 6) ≠ -1000000000) ∧ r9 = 1 ∧ u9 = (upr (upr (upr R 0 (ups (ups (R 0) 13 (R 0 13 + 1)) 14 (R 0 14 + cstK (R 1) (R 1 8) (pick (R 1) (R 1 8) (R 5) (R 6))))) 5 (ups (R 5) (pick (R 1) (R 1 8) (R 5) (R 6) / 12) (pick (R 1) (R 1 8) (R 5) (R 6) % 12))) 6 (ups (R 6) (pick (R 1) (R 1 8) (R 5) (R 6) % 12) (pick (R 1) (R 1 8) (R 5) (R 6) / 12)))))) ([.ref (a 0)] : List Value).toArray s 0 0 (va_A (rfW cy a R) sz)) (F0 m 5 ls []) := by
      intro n_1
      induction n_1 with
      | zero => intro k b hi0 hi1 hi2 hn ls hl; exfalso; omega
      | succ n_1 ih5 =>
        intro k b hi0 hi1 hi2 hn ls hl
        have hbp := bto_pr hi2 hi0
        refine lv_iload_n hx hb dX7_matchNext_5 rfl (lv_at hl 0 rfl) ?_
        refine k_bipush hx hb dX7_matchNext_6 (by decide +kernel) ?_
        refine lv_aload_n hx hb dX7_matchNext_8 rfl (lv_at hl 2 rfl) ?_
        refine va_get (D := D) (ci := 6) (v := .ref (a 1)) (C := RX7) (T := TX7) (N := 19) hx hb hts hinX7 hown hK hP 0 rfl rfl 0 (by decide) hm1 (fun _ h9 => h9) rfl dX7_matchNext_9 ?_
        refine k_bipush hx hb dX7_matchNext_12 (by decide +kernel) ?_
        refine k_iald hx hb hK hP 1 0 (f := R 1) rfl rfl (i := 12) (by omega) dX7_matchNext_14 ?_
        refine k_imul hx hb dX7_matchNext_15 ?_
        refine k_icmp_ge (tgt := 130) hx hb dX7_matchNext_16 (by decide) (by omega) (by omega) (fun c_2 => ?_) (fun c_2 => ?_)
        · skip
          have hbe := bto_end hi2 (by omega)
          have hbc := hbe.2
          have hpk := hbe.1
          refine lv_iload_n hx hb dX7_matchNext_130 rfl (lv_at hl 1 rfl) ?_
          refine k_ldc (z := (-1000000000)) hx hb hown hm0 (by decide +kernel) dX7_matchNext_131 ?_
          refine k_icmp_eq (tgt := 187) hx hb dX7_matchNext_133 (by decide) (by omega) (by omega) (fun c_3 => ?_) (fun c_3 => ?_)
          · skip
            refine lv_iload_n hx hb dX7_matchNext_187 rfl (lv_at hl 1 rfl) ?_
            refine k_ldc (z := (-1000000000)) hx hb hown hm0 (by decide +kernel) dX7_matchNext_188 ?_
            refine k_icmp_eq (tgt := 197) hx hb dX7_matchNext_190 (by decide) (by omega) (by omega) (fun c_4 => ?_) (fun c_4 => ?_)
            · skip
              refine k_iconst hx hb dX7_matchNext_197 ?_
              exact W.zret (v := iI 0) hx hb hr (by decide +kernel) (fun t9 ht _ => ⟨⟨iI 0, R, rfl, ⟨0, rfl, (by first | exact Or.inl ⟨(by omega), (by first | rfl | omega), rfl⟩ | exact Or.inr (⟨(by omega), (by first | rfl | omega), (by rw [show (R 0) = (ups (ups (R 0) 13 (R 0 13 + 1)) 14 (R 0 14 + cstK (R 1) (R 1 8) (pick (R 1) (R 1 8) (R 5) (R 6)))) from by rw [hpk, hbk], show (R 5) = (ups (R 5) (pick (R 1) (R 1 8) (R 5) (R 6) / 12) (pick (R 1) (R 1 8) (R 5) (R 6) % 12)) from by rw [hpk], show (R 6) = (ups (R 6) (pick (R 1) (R 1 8) (R 5) (R 6) % 12) (pick (R 1) (R 1 8) (R 5) (R 6) / 12)) from by rw [hpk]])⟩) : ((pick (R 1) (R 1 8) (R 5) (R 6) = -1000000000) ∧ (0 : Int) = 0 ∧ R = R) ∨ ((pick (R 1) (R 1 8) (R 5) (R 6) ≠ -1000000000) ∧ (0 : Int) = 1 ∧ R = (upr (upr (upr R 0 (ups (ups (R 0) 13 (R 0 13 + 1)) 14 (R 0 14 + cstK (R 1) (R 1 8) (pick (R 1) (R 1 8) (R 5) (R 6))))) 5 (ups (R 5) (pick (R 1) (R 1 8) (R 5) (R 6) / 12) (pick (R 1) (R 1 8) (R 5) (R 6) % 12))) 6 (ups (R 6) (pick (R 1) (R 1 8) (R 5) (R 6) % 12) (pick (R 1) (R 1 8) (R 5) (R 6) / 12)))))⟩, by rw [ht]; exact hP, hD⟩, hS.F ht⟩) hS.2.2 dX7_matchNext_198 hlocks
            · skip
              refine k_iconst hx hb dX7_matchNext_193 ?_
              refine lv_goto (tgt := 198) hx hb dX7_matchNext_194 (by decide) ?_
              exact W.zret (v := iI 1) hx hb hr (by decide +kernel) (fun t9 ht _ => ⟨⟨iI 1, R, rfl, ⟨1, rfl, (by first | exact Or.inl ⟨(by omega), (by first | rfl | omega), rfl⟩ | exact Or.inr (⟨(by omega), (by first | rfl | omega), (by rw [show (R 0) = (ups (ups (R 0) 13 (R 0 13 + 1)) 14 (R 0 14 + cstK (R 1) (R 1 8) (pick (R 1) (R 1 8) (R 5) (R 6)))) from by rw [hpk, hbk], show (R 5) = (ups (R 5) (pick (R 1) (R 1 8) (R 5) (R 6) / 12) (pick (R 1) (R 1 8) (R 5) (R 6) % 12)) from by rw [hpk], show (R 6) = (ups (R 6) (pick (R 1) (R 1 8) (R 5) (R 6) % 12) (pick (R 1) (R 1 8) (R 5) (R 6) / 12)) from by rw [hpk]])⟩) : ((pick (R 1) (R 1 8) (R 5) (R 6) = -1000000000) ∧ (1 : Int) = 0 ∧ R = R) ∨ ((pick (R 1) (R 1 8) (R 5) (R 6) ≠ -1000000000) ∧ (1 : Int) = 1 ∧ R = (upr (upr (upr R 0 (ups (ups (R 0) 13 (R 0 13 + 1)) 14 (R 0 14 + cstK (R 1) (R 1 8) (pick (R 1) (R 1 8) (R 5) (R 6))))) 5 (ups (R 5) (pick (R 1) (R 1 8) (R 5) (R 6) / 12) (pick (R 1) (R 1 8) (R 5) (R 6) % 12))) 6 (ups (R 6) (pick (R 1) (R 1 8) (R 5) (R 6) % 12) (pick (R 1) (R 1 8) (R 5) (R 6) / 12)))))⟩, by rw [ht]; exact hP, hD⟩, hS.F ht⟩) hS.2.2 dX7_matchNext_198 hlocks
          · skip
            have hbd := hbc (by omega)
            have hbk := hC b (by omega) (by omega) hbd.2.1 hbd.2.2.1
            refine lv_aload_n hx hb dX7_matchNext_136 rfl (lv_at hl 2 rfl) ?_
            refine va_get (D := D) (ci := 6) (v := .ref (a 5)) (C := RX7) (T := TX7) (N := 19) hx hb hts hinX7 hown hK hP 0 rfl rfl 11 (by decide) hm2 (fun _ h9 => h9) rfl dX7_matchNext_137 ?_
            refine lv_iload_n hx hb dX7_matchNext_140 rfl (lv_at hl 1 rfl) ?_
            refine k_bipush hx hb dX7_matchNext_141 (by decide +kernel) ?_
            refine k_idiv hx hb dX7_matchNext_143 (by omega) (by omega) ?_
            refine lv_iload_n hx hb dX7_matchNext_144 rfl (lv_at hl 1 rfl) ?_
            refine k_bipush hx hb dX7_matchNext_145 (by decide +kernel) ?_
            refine k_irem hx hb dX7_matchNext_147 (by omega) (by omega) ?_
            refine k_iast hx hb hK hP hD hS 5 0 (f := R 5) rfl rfl (i := b / 12) (x := b % 12) (by omega) dX7_matchNext_148 (fun H locs hP hD hS => ?_)
            have hP : va_P D vwCl (rfW cy a (upr R 5 (ups (R 5) (b / 12) (b % 12)))) H := hP
            have hD : va_D (va_A (rfW cy a R) sz) (rfW cy a (upr R 5 (ups (R 5) (b / 12) (b % 12)))) := hD
            refine lv_aload_n hx hb dX7_matchNext_149 rfl (lv_at hl 2 rfl) ?_
            refine va_get (D := D) (ci := 6) (v := .ref (a 6)) (C := RX7) (T := TX7) (N := 19) hx hb hts hinX7 hown hK hP 0 rfl rfl 12 (by decide) hm3 (fun _ h9 => h9) rfl dX7_matchNext_150 ?_
            refine lv_iload_n hx hb dX7_matchNext_153 rfl (lv_at hl 1 rfl) ?_
            refine k_bipush hx hb dX7_matchNext_154 (by decide +kernel) ?_
            refine k_irem hx hb dX7_matchNext_156 (by omega) (by omega) ?_
            refine lv_iload_n hx hb dX7_matchNext_157 rfl (lv_at hl 1 rfl) ?_
            refine k_bipush hx hb dX7_matchNext_158 (by decide +kernel) ?_
            refine k_idiv hx hb dX7_matchNext_160 (by omega) (by omega) ?_
            refine k_iast hx hb hK hP hD hS 6 0 (f := R 6) rfl rfl (i := b % 12) (x := b / 12) (by omega) dX7_matchNext_161 (fun H locs hP hD hS => ?_)
            have hP : va_P D vwCl (rfW cy a (upr (upr R 5 (ups (R 5) (b / 12) (b % 12))) 6 (ups (R 6) (b % 12) (b / 12)))) H := hP
            have hD : va_D (va_A (rfW cy a R) sz) (rfW cy a (upr (upr R 5 (ups (R 5) (b / 12) (b % 12))) 6 (ups (R 6) (b % 12) (b / 12)))) := hD
            refine lv_aload_n hx hb dX7_matchNext_162 rfl (lv_at hl 2 rfl) ?_
            refine lv_dup hx hb dX7_matchNext_163 rfl ?_
            refine va_get (D := D) (ci := 6) (v := .int (iI (R 0 13))) (C := RX7) (T := TX7) (N := 19) hx hb hts hinX7 hown hK hP 0 rfl rfl 13 (by decide) hm4 (fun _ h9 => h9) rfl dX7_matchNext_164 ?_
            refine k_iconst hx hb dX7_matchNext_167 ?_
            refine k_iadd hx hb dX7_matchNext_168 ?_
            refine va_put (D := D) (ci := 6) (v := .int (iI ((R 0 13) + 1))) (ty := .int) (C := RX7) (T := TX7) (N := 19) hx hb hts hinX7 tyX7 tyX7_ok nmX7 hown hK hP hD hS 0 rfl rfl 13 (by decide) hm4 (fun _ h9 => h9) rfl (by decide +kernel) rfl rfl (Nat.le_of_ble_eq_true rfl) dX7_matchNext_169 (fun H locs hP hD hS => ?_)
            have hP : va_P D vwCl (rfW cy a (upr (upr (upr R 0 (ups (R 0) 13 ((R 0 13) + 1))) 5 (ups (R 5) (b / 12) (b % 12))) 6 (ups (R 6) (b % 12) (b / 12)))) H := hP
            have hD : va_D (va_A (rfW cy a R) sz) (rfW cy a (upr (upr (upr R 0 (ups (R 0) 13 ((R 0 13) + 1))) 5 (ups (R 5) (b / 12) (b % 12))) 6 (ups (R 6) (b % 12) (b / 12)))) := hD
            refine lv_aload_n hx hb dX7_matchNext_172 rfl (lv_at hl 2 rfl) ?_
            refine lv_dup hx hb dX7_matchNext_173 rfl ?_
            refine va_get (D := D) (ci := 6) (v := .int (iI (R 0 14))) (C := RX7) (T := TX7) (N := 19) hx hb hts hinX7 hown hK hP 0 rfl rfl 14 (by decide) hm5 (fun _ h9 => h9) rfl dX7_matchNext_174 ?_
            refine lv_aload_n hx hb dX7_matchNext_177 rfl (lv_at hl 2 rfl) ?_
            refine va_get (D := D) (ci := 6) (v := .ref (a 4)) (C := RX7) (T := TX7) (N := 19) hx hb hts hinX7 hown hK hP 0 rfl rfl 10 (by decide) hm6 (fun _ h9 => h9) rfl dX7_matchNext_178 ?_
            refine lv_iload_n hx hb dX7_matchNext_181 rfl (lv_at hl 1 rfl) ?_
            refine k_iald hx hb hK hP 4 0 (f := R 4) rfl rfl (i := b) (by omega) dX7_matchNext_182 ?_
            refine k_iadd hx hb dX7_matchNext_183 ?_
            refine va_put (D := D) (ci := 6) (v := .int (iI ((R 0 14) + (R 4 b)))) (ty := .int) (C := RX7) (T := TX7) (N := 19) hx hb hts hinX7 tyX7 tyX7_ok nmX7 hown hK hP hD hS 0 rfl rfl 14 (by decide) hm5 (fun _ h9 => h9) rfl (by decide +kernel) rfl rfl (Nat.le_of_ble_eq_true rfl) dX7_matchNext_184 (fun H locs hP hD hS => ?_)
            have hP : va_P D vwCl (rfW cy a (upr (upr (upr R 0 (ups (ups (R 0) 13 ((R 0 13) + 1)) 14 ((R 0 14) + (R 4 b)))) 5 (ups (R 5) (b / 12) (b % 12))) 6 (ups (R 6) (b % 12) (b / 12)))) H := hP
            have hD : va_D (va_A (rfW cy a R) sz) (rfW cy a (upr (upr (upr R 0 (ups (ups (R 0) 13 ((R 0 13) + 1)) 14 ((R 0 14) + (R 4 b)))) 5 (ups (R 5) (b / 12) (b % 12))) 6 (ups (R 6) (b % 12) (b / 12)))) := hD
            refine lv_iload_n hx hb dX7_matchNext_187 rfl (lv_at hl 1 rfl) ?_
            refine k_ldc (z := (-1000000000)) hx hb hown hm0 (by decide +kernel) dX7_matchNext_188 ?_
            refine k_icmp_eq (tgt := 197) hx hb dX7_matchNext_190 (by decide) (by omega) (by omega) (fun c_5 => ?_) (fun c_5 => ?_)
            · skip
              refine k_iconst hx hb dX7_matchNext_197 ?_
              exact W.zret (v := iI 0) hx hb hr (by decide +kernel) (fun t9 ht _ => ⟨⟨iI 0, (upr (upr (upr R 0 (ups (ups (R 0) 13 ((R 0 13) + 1)) 14 ((R 0 14) + (R 4 b)))) 5 (ups (R 5) (b / 12) (b % 12))) 6 (ups (R 6) (b % 12) (b / 12))), rfl, ⟨0, rfl, (by first | exact Or.inl ⟨(by omega), (by first | rfl | omega), (by rw [show (ups (ups (R 0) 13 ((R 0 13) + 1)) 14 ((R 0 14) + (R 4 b))) = (R 0) from by rw [hpk, hbk], show (ups (R 5) (b / 12) (b % 12)) = (R 5) from by rw [hpk], show (ups (R 6) (b % 12) (b / 12)) = (R 6) from by rw [hpk]]; exact upr_back)⟩ | exact Or.inr (⟨(by omega), (by first | rfl | omega), (by rw [show (ups (ups (R 0) 13 ((R 0 13) + 1)) 14 ((R 0 14) + (R 4 b))) = (ups (ups (R 0) 13 (R 0 13 + 1)) 14 (R 0 14 + cstK (R 1) (R 1 8) (pick (R 1) (R 1 8) (R 5) (R 6)))) from by rw [hpk, hbk], show (ups (R 5) (b / 12) (b % 12)) = (ups (R 5) (pick (R 1) (R 1 8) (R 5) (R 6) / 12) (pick (R 1) (R 1 8) (R 5) (R 6) % 12)) from by rw [hpk], show (ups (R 6) (b % 12) (b / 12)) = (ups (R 6) (pick (R 1) (R 1 8) (R 5) (R 6) % 12) (pick (R 1) (R 1 8) (R 5) (R 6) / 12)) from by rw [hpk]])⟩) : ((pick (R 1) (R 1 8) (R 5) (R 6) = -1000000000) ∧ (0 : Int) = 0 ∧ (upr (upr (upr R 0 (ups (ups (R 0) 13 ((R 0 13) + 1)) 14 ((R 0 14) + (R 4 b)))) 5 (ups (R 5) (b / 12) (b % 12))) 6 (ups (R 6) (b % 12) (b / 12))) = R) ∨ ((pick (R 1) (R 1 8) (R 5) (R 6) ≠ -1000000000) ∧ (0 : Int) = 1 ∧ (upr (upr (upr R 0 (ups (ups (R 0) 13 ((R 0 13) + 1)) 14 ((R 0 14) + (R 4 b)))) 5 (ups (R 5) (b / 12) (b % 12))) 6 (ups (R 6) (b % 12) (b / 12))) = (upr (upr (upr R 0 (ups (ups (R 0) 13 (R 0 13 + 1)) 14 (R 0 14 + cstK (R 1) (R 1 8) (pick (R 1) (R 1 8) (R 5) (R 6))))) 5 (ups (R 5) (pick (R 1) (R 1 8) (R 5) (R 6) / 12) (pick (R 1) (R 1 8) (R 5) (R 6) % 12))) 6 (ups (R 6) (pick (R 1) (R 1 8) (R 5) (R 6) % 12) (pick (R 1) (R 1 8) (R 5) (R 6) / 12)))))⟩, by rw [ht]; exact hP, hD⟩, hS.F ht⟩) hS.2.2 dX7_matchNext_198 hlocks
            · skip
              refine k_iconst hx hb dX7_matchNext_193 ?_
              refine lv_goto (tgt := 198) hx hb dX7_matchNext_194 (by decide) ?_
              exact W.zret (v := iI 1) hx hb hr (by decide +kernel) (fun t9 ht _ => ⟨⟨iI 1, (upr (upr (upr R 0 (ups (ups (R 0) 13 ((R 0 13) + 1)) 14 ((R 0 14) + (R 4 b)))) 5 (ups (R 5) (b / 12) (b % 12))) 6 (ups (R 6) (b % 12) (b / 12))), rfl, ⟨1, rfl, (by first | exact Or.inl ⟨(by omega), (by first | rfl | omega), (by rw [show (ups (ups (R 0) 13 ((R 0 13) + 1)) 14 ((R 0 14) + (R 4 b))) = (R 0) from by rw [hpk, hbk], show (ups (R 5) (b / 12) (b % 12)) = (R 5) from by rw [hpk], show (ups (R 6) (b % 12) (b / 12)) = (R 6) from by rw [hpk]]; exact upr_back)⟩ | exact Or.inr (⟨(by omega), (by first | rfl | omega), (by rw [show (ups (ups (R 0) 13 ((R 0 13) + 1)) 14 ((R 0 14) + (R 4 b))) = (ups (ups (R 0) 13 (R 0 13 + 1)) 14 (R 0 14 + cstK (R 1) (R 1 8) (pick (R 1) (R 1 8) (R 5) (R 6)))) from by rw [hpk, hbk], show (ups (R 5) (b / 12) (b % 12)) = (ups (R 5) (pick (R 1) (R 1 8) (R 5) (R 6) / 12) (pick (R 1) (R 1 8) (R 5) (R 6) % 12)) from by rw [hpk], show (ups (R 6) (b % 12) (b / 12)) = (ups (R 6) (pick (R 1) (R 1 8) (R 5) (R 6) % 12) (pick (R 1) (R 1 8) (R 5) (R 6) / 12)) from by rw [hpk]])⟩) : ((pick (R 1) (R 1 8) (R 5) (R 6) = -1000000000) ∧ (1 : Int) = 0 ∧ (upr (upr (upr R 0 (ups (ups (R 0) 13 ((R 0 13) + 1)) 14 ((R 0 14) + (R 4 b)))) 5 (ups (R 5) (b / 12) (b % 12))) 6 (ups (R 6) (b % 12) (b / 12))) = R) ∨ ((pick (R 1) (R 1 8) (R 5) (R 6) ≠ -1000000000) ∧ (1 : Int) = 1 ∧ (upr (upr (upr R 0 (ups (ups (R 0) 13 ((R 0 13) + 1)) 14 ((R 0 14) + (R 4 b)))) 5 (ups (R 5) (b / 12) (b % 12))) 6 (ups (R 6) (b % 12) (b / 12))) = (upr (upr (upr R 0 (ups (ups (R 0) 13 (R 0 13 + 1)) 14 (R 0 14 + cstK (R 1) (R 1 8) (pick (R 1) (R 1 8) (R 5) (R 6))))) 5 (ups (R 5) (pick (R 1) (R 1 8) (R 5) (R 6) / 12) (pick (R 1) (R 1 8) (R 5) (R 6) % 12))) 6 (ups (R 6) (pick (R 1) (R 1 8) (R 5) (R 6) % 12) (pick (R 1) (R 1 8) (R 5) (R 6) / 12)))))⟩, by rw [ht]; exact hP, hD⟩, hS.F ht⟩) hS.2.2 dX7_matchNext_198 hlocks
        · skip
          have ho5 := hSO (k / 12) (by omega) (by omega)
          refine lv_iload_n hx hb dX7_matchNext_19 rfl (lv_at hl 0 rfl) ?_
          refine k_bipush hx hb dX7_matchNext_20 (by decide +kernel) ?_
          refine k_irem hx hb dX7_matchNext_22 (by omega) (by omega) ?_
          refine lv_aload_n hx hb dX7_matchNext_23 rfl (lv_at hl 2 rfl) ?_
          refine va_get (D := D) (ci := 6) (v := .ref (a 1)) (C := RX7) (T := TX7) (N := 19) hx hb hts hinX7 hown hK hP 0 rfl rfl 0 (by decide) hm1 (fun _ h9 => h9) rfl dX7_matchNext_24 ?_
          refine k_bipush hx hb dX7_matchNext_27 (by decide +kernel) ?_
          refine k_iald hx hb hK hP 1 0 (f := R 1) rfl rfl (i := 13) (by omega) dX7_matchNext_29 ?_
          refine k_icmp_ge (tgt := 91) hx hb dX7_matchNext_30 (by decide) (by omega) (by omega) (fun c_6 => ?_) (fun c_6 => ?_)
          · skip
            have hno : ¬ cnd (R 1) (R 1 8) (R 5) (R 6) k := fun h9 => by have g2 := h9.2.1; have g3 := h9.2.2.1; have g4 := h9.2.2.2.1; have g5 := h9.2.2.2.2.1; have g6 : cstK (R 1) (R 1 8) k ≤ R 1 5 := h9.2.2.2.2.2; omega
            refine k_iconst hx hb dX7_matchNext_91 ?_
            refine lv_istore_n (lv' := [(3, .int (iI 0)), (2, .int (iI k)), (1, .int (iI b)), (0, .ref (a 0))]) hx hb dX7_matchNext_92 rfl hl (by decide) rfl (fun ls hl => ?_)
            refine lv_iload_n hx hb dX7_matchNext_93 rfl (lv_at hl 0 rfl) ?_
            refine k_if_eq (tgt := 122) hx hb dX7_matchNext_94 (by decide) (by omega) (fun c_7 => ?_) (fun c_7 => ?_)
            · skip
              refine lv_iload_n hx hb dX7_matchNext_122 rfl (lv_at hl 2 rfl) ?_
              refine lv_istore_n (lv' := [(1, .int (iI b)), (3, .int (iI 0)), (2, .int (iI k)), (0, .ref (a 0))]) hx hb dX7_matchNext_123 rfl hl (by decide) rfl (fun ls hl => ?_)
              refine lv_iinc (v := iI (k + 1)) (lv' := [(2, .int (iI (k + 1))), (1, .int (iI b)), (3, .int (iI 0)), (0, .ref (a 0))]) hx hb dX7_matchNext_124 hl (k := 2) rfl (iI_add _ _) (by decide) rfl (fun ls hl => ?_)
              refine lv_goto (tgt := 5) hx hb dX7_matchNext_127 (by decide) ?_
              exact ih5 (k + 1) b  (by omega) (by omega) (by first | exact bto_no hi2 hno | exact bto_new hi2 hyes (by omega) | exact bto_old hi2 (by omega) (by omega)) (by omega) ls (lv_sub hl [0, 1, 3] rfl)
            · exfalso; omega
          · skip
            have ho6 := hTR (k % 12) (by omega) (by omega)
            refine lv_aload_n hx hb dX7_matchNext_33 rfl (lv_at hl 2 rfl) ?_
            refine lv_iload_n hx hb dX7_matchNext_34 rfl (lv_at hl 0 rfl) ?_
            refine k_bipush hx hb dX7_matchNext_35 (by decide +kernel) ?_
            refine k_idiv hx hb dX7_matchNext_37 (by omega) (by omega) ?_
            refine k_roV (As := [.int (iI (k / 12))]) (rest := []) ⟨hx, hb, hml, hown, hts⟩ (c_X7_points l D cy a R (k / 12) (show 0 ≤ (k / 12) by omega) (show (k / 12) < 12 by omega)) gX7_matchNext_X7_points rfl ⟨rfl, rfl⟩ 1 rfl (by decide +kernel) ⟨Nat.le_of_ble_eq_true rfl, Nat.le_of_ble_eq_true rfl⟩ (GG_ok D cy) ((GG_ok D cy).2.2.2 _ _ _ _ (fun _ h => h.elim) ((GG_ok D cy).1 _ _ _ _ hS.2.1 hG)) hP (va_recv hK hP (ci := 6) (q0 := 0) rfl rfl) hl.1 rfl (Nat.le_of_ble_eq_true rfl) ⟨Nat.le_of_ble_eq_true rfl, Nat.le_of_ble_eq_true rfl⟩ dX7_matchNext_38 (fun r_8 hr_8 => ?_)
            have hr_8 : r_8 = pts (R 1) (k / 12) := hr_8
            subst hr_8
            have hpt := inv_pts hI (t := k / 12) (by omega) (by omega)
            refine k_if_le (tgt := 91) hx hb dX7_matchNext_41 (by decide) (by omega) (fun c_9 => ?_) (fun c_9 => ?_)
            · skip
              have hno : ¬ cnd (R 1) (R 1 8) (R 5) (R 6) k := fun h9 => by have g2 := h9.2.1; have g3 := h9.2.2.1; have g4 := h9.2.2.2.1; have g5 := h9.2.2.2.2.1; have g6 : cstK (R 1) (R 1 8) k ≤ R 1 5 := h9.2.2.2.2.2; omega
              refine k_iconst hx hb dX7_matchNext_91 ?_
              refine lv_istore_n (lv' := [(3, .int (iI 0)), (2, .int (iI k)), (1, .int (iI b)), (0, .ref (a 0))]) hx hb dX7_matchNext_92 rfl hl (by decide) rfl (fun ls hl => ?_)
              refine lv_iload_n hx hb dX7_matchNext_93 rfl (lv_at hl 0 rfl) ?_
              refine k_if_eq (tgt := 122) hx hb dX7_matchNext_94 (by decide) (by omega) (fun c_10 => ?_) (fun c_10 => ?_)
              · skip
                refine lv_iload_n hx hb dX7_matchNext_122 rfl (lv_at hl 2 rfl) ?_
                refine lv_istore_n (lv' := [(1, .int (iI b)), (3, .int (iI 0)), (2, .int (iI k)), (0, .ref (a 0))]) hx hb dX7_matchNext_123 rfl hl (by decide) rfl (fun ls hl => ?_)
                refine lv_iinc (v := iI (k + 1)) (lv' := [(2, .int (iI (k + 1))), (1, .int (iI b)), (3, .int (iI 0)), (0, .ref (a 0))]) hx hb dX7_matchNext_124 hl (k := 2) rfl (iI_add _ _) (by decide) rfl (fun ls hl => ?_)
                refine lv_goto (tgt := 5) hx hb dX7_matchNext_127 (by decide) ?_
                exact ih5 (k + 1) b  (by omega) (by omega) (by first | exact bto_no hi2 hno | exact bto_new hi2 hyes (by omega) | exact bto_old hi2 (by omega) (by omega)) (by omega) ls (lv_sub hl [0, 1, 3] rfl)
              · exfalso; omega
            · skip
              have hck := hC k hi0 (by omega) (by omega) (by omega)
              have hcb := cstK_bd hI hi0 (by omega) (by omega) (show 0 < pts (R 1) (k / 12) by omega) (z := R 1 8)
              refine lv_aload_n hx hb dX7_matchNext_44 rfl (lv_at hl 2 rfl) ?_
              refine va_get (D := D) (ci := 6) (v := .ref (a 5)) (C := RX7) (T := TX7) (N := 19) hx hb hts hinX7 hown hK hP 0 rfl rfl 11 (by decide) hm2 (fun _ h9 => h9) rfl dX7_matchNext_45 ?_
              refine lv_iload_n hx hb dX7_matchNext_48 rfl (lv_at hl 0 rfl) ?_
              refine k_bipush hx hb dX7_matchNext_49 (by decide +kernel) ?_
              refine k_idiv hx hb dX7_matchNext_51 (by omega) (by omega) ?_
              refine k_iald hx hb hK hP 5 0 (f := R 5) rfl rfl (i := k / 12) (by omega) dX7_matchNext_52 ?_
              refine k_ldc (z := (-1000000000)) hx hb hown hm0 (by decide +kernel) dX7_matchNext_53 ?_
              refine k_icmp_ne (tgt := 91) hx hb dX7_matchNext_55 (by decide) (by omega) (by omega) (fun c_11 => ?_) (fun c_11 => ?_)
              · skip
                have hno : ¬ cnd (R 1) (R 1 8) (R 5) (R 6) k := fun h9 => by have g2 := h9.2.1; have g3 := h9.2.2.1; have g4 := h9.2.2.2.1; have g5 := h9.2.2.2.2.1; have g6 : cstK (R 1) (R 1 8) k ≤ R 1 5 := h9.2.2.2.2.2; omega
                refine k_iconst hx hb dX7_matchNext_91 ?_
                refine lv_istore_n (lv' := [(3, .int (iI 0)), (2, .int (iI k)), (1, .int (iI b)), (0, .ref (a 0))]) hx hb dX7_matchNext_92 rfl hl (by decide) rfl (fun ls hl => ?_)
                refine lv_iload_n hx hb dX7_matchNext_93 rfl (lv_at hl 0 rfl) ?_
                refine k_if_eq (tgt := 122) hx hb dX7_matchNext_94 (by decide) (by omega) (fun c_12 => ?_) (fun c_12 => ?_)
                · skip
                  refine lv_iload_n hx hb dX7_matchNext_122 rfl (lv_at hl 2 rfl) ?_
                  refine lv_istore_n (lv' := [(1, .int (iI b)), (3, .int (iI 0)), (2, .int (iI k)), (0, .ref (a 0))]) hx hb dX7_matchNext_123 rfl hl (by decide) rfl (fun ls hl => ?_)
                  refine lv_iinc (v := iI (k + 1)) (lv' := [(2, .int (iI (k + 1))), (1, .int (iI b)), (3, .int (iI 0)), (0, .ref (a 0))]) hx hb dX7_matchNext_124 hl (k := 2) rfl (iI_add _ _) (by decide) rfl (fun ls hl => ?_)
                  refine lv_goto (tgt := 5) hx hb dX7_matchNext_127 (by decide) ?_
                  exact ih5 (k + 1) b  (by omega) (by omega) (by first | exact bto_no hi2 hno | exact bto_new hi2 hyes (by omega) | exact bto_old hi2 (by omega) (by omega)) (by omega) ls (lv_sub hl [0, 1, 3] rfl)
                · exfalso; omega
              · skip
                refine lv_aload_n hx hb dX7_matchNext_58 rfl (lv_at hl 2 rfl) ?_
                refine va_get (D := D) (ci := 6) (v := .ref (a 6)) (C := RX7) (T := TX7) (N := 19) hx hb hts hinX7 hown hK hP 0 rfl rfl 12 (by decide) hm3 (fun _ h9 => h9) rfl dX7_matchNext_59 ?_
                refine lv_iload_n hx hb dX7_matchNext_62 rfl (lv_at hl 0 rfl) ?_
                refine k_bipush hx hb dX7_matchNext_63 (by decide +kernel) ?_
                refine k_irem hx hb dX7_matchNext_65 (by omega) (by omega) ?_
                refine k_iald hx hb hK hP 6 0 (f := R 6) rfl rfl (i := k % 12) (by omega) dX7_matchNext_66 ?_
                refine k_ldc (z := (-1000000000)) hx hb hown hm0 (by decide +kernel) dX7_matchNext_67 ?_
                refine k_icmp_ne (tgt := 91) hx hb dX7_matchNext_69 (by decide) (by omega) (by omega) (fun c_13 => ?_) (fun c_13 => ?_)
                · skip
                  have hno : ¬ cnd (R 1) (R 1 8) (R 5) (R 6) k := fun h9 => by have g2 := h9.2.1; have g3 := h9.2.2.1; have g4 := h9.2.2.2.1; have g5 := h9.2.2.2.2.1; have g6 : cstK (R 1) (R 1 8) k ≤ R 1 5 := h9.2.2.2.2.2; omega
                  refine k_iconst hx hb dX7_matchNext_91 ?_
                  refine lv_istore_n (lv' := [(3, .int (iI 0)), (2, .int (iI k)), (1, .int (iI b)), (0, .ref (a 0))]) hx hb dX7_matchNext_92 rfl hl (by decide) rfl (fun ls hl => ?_)
                  refine lv_iload_n hx hb dX7_matchNext_93 rfl (lv_at hl 0 rfl) ?_
                  refine k_if_eq (tgt := 122) hx hb dX7_matchNext_94 (by decide) (by omega) (fun c_14 => ?_) (fun c_14 => ?_)
                  · skip
                    refine lv_iload_n hx hb dX7_matchNext_122 rfl (lv_at hl 2 rfl) ?_
                    refine lv_istore_n (lv' := [(1, .int (iI b)), (3, .int (iI 0)), (2, .int (iI k)), (0, .ref (a 0))]) hx hb dX7_matchNext_123 rfl hl (by decide) rfl (fun ls hl => ?_)
                    refine lv_iinc (v := iI (k + 1)) (lv' := [(2, .int (iI (k + 1))), (1, .int (iI b)), (3, .int (iI 0)), (0, .ref (a 0))]) hx hb dX7_matchNext_124 hl (k := 2) rfl (iI_add _ _) (by decide) rfl (fun ls hl => ?_)
                    refine lv_goto (tgt := 5) hx hb dX7_matchNext_127 (by decide) ?_
                    exact ih5 (k + 1) b  (by omega) (by omega) (by first | exact bto_no hi2 hno | exact bto_new hi2 hyes (by omega) | exact bto_old hi2 (by omega) (by omega)) (by omega) ls (lv_sub hl [0, 1, 3] rfl)
                  · exfalso; omega
                · skip
                  refine lv_aload_n hx hb dX7_matchNext_72 rfl (lv_at hl 2 rfl) ?_
                  refine va_get (D := D) (ci := 6) (v := .ref (a 4)) (C := RX7) (T := TX7) (N := 19) hx hb hts hinX7 hown hK hP 0 rfl rfl 10 (by decide) hm6 (fun _ h9 => h9) rfl dX7_matchNext_73 ?_
                  refine lv_iload_n hx hb dX7_matchNext_76 rfl (lv_at hl 0 rfl) ?_
                  refine k_iald hx hb hK hP 4 0 (f := R 4) rfl rfl (i := k) (by omega) dX7_matchNext_77 ?_
                  refine lv_aload_n hx hb dX7_matchNext_78 rfl (lv_at hl 2 rfl) ?_
                  refine va_get (D := D) (ci := 6) (v := .ref (a 1)) (C := RX7) (T := TX7) (N := 19) hx hb hts hinX7 hown hK hP 0 rfl rfl 0 (by decide) hm1 (fun _ h9 => h9) rfl dX7_matchNext_79 ?_
                  refine k_iconst hx hb dX7_matchNext_82 ?_
                  refine k_iald hx hb hK hP 1 0 (f := R 1) rfl rfl (i := 5) (by omega) dX7_matchNext_83 ?_
                  refine k_icmp_gt (tgt := 91) hx hb dX7_matchNext_84 (by decide) (by omega) (by omega) (fun c_15 => ?_) (fun c_15 => ?_)
                  · skip
                    have hno : ¬ cnd (R 1) (R 1 8) (R 5) (R 6) k := fun h9 => by have g2 := h9.2.1; have g3 := h9.2.2.1; have g4 := h9.2.2.2.1; have g5 := h9.2.2.2.2.1; have g6 : cstK (R 1) (R 1 8) k ≤ R 1 5 := h9.2.2.2.2.2; omega
                    refine k_iconst hx hb dX7_matchNext_91 ?_
                    refine lv_istore_n (lv' := [(3, .int (iI 0)), (2, .int (iI k)), (1, .int (iI b)), (0, .ref (a 0))]) hx hb dX7_matchNext_92 rfl hl (by decide) rfl (fun ls hl => ?_)
                    refine lv_iload_n hx hb dX7_matchNext_93 rfl (lv_at hl 0 rfl) ?_
                    refine k_if_eq (tgt := 122) hx hb dX7_matchNext_94 (by decide) (by omega) (fun c_16 => ?_) (fun c_16 => ?_)
                    · skip
                      refine lv_iload_n hx hb dX7_matchNext_122 rfl (lv_at hl 2 rfl) ?_
                      refine lv_istore_n (lv' := [(1, .int (iI b)), (3, .int (iI 0)), (2, .int (iI k)), (0, .ref (a 0))]) hx hb dX7_matchNext_123 rfl hl (by decide) rfl (fun ls hl => ?_)
                      refine lv_iinc (v := iI (k + 1)) (lv' := [(2, .int (iI (k + 1))), (1, .int (iI b)), (3, .int (iI 0)), (0, .ref (a 0))]) hx hb dX7_matchNext_124 hl (k := 2) rfl (iI_add _ _) (by decide) rfl (fun ls hl => ?_)
                      refine lv_goto (tgt := 5) hx hb dX7_matchNext_127 (by decide) ?_
                      exact ih5 (k + 1) b  (by omega) (by omega) (by first | exact bto_no hi2 hno | exact bto_new hi2 hyes (by omega) | exact bto_old hi2 (by omega) (by omega)) (by omega) ls (lv_sub hl [0, 1, 3] rfl)
                    · exfalso; omega
                  · skip
                    have hyes : cnd (R 1) (R 1 8) (R 5) (R 6) k := ⟨by omega, by omega, by omega, by omega, by omega, by show cstK (R 1) (R 1 8) k ≤ R 1 5; rw [← hck]; assumption⟩
                    refine k_iconst hx hb dX7_matchNext_87 ?_
                    refine lv_goto (tgt := 92) hx hb dX7_matchNext_88 (by decide) ?_
                    refine lv_istore_n (lv' := [(3, .int (iI 1)), (2, .int (iI k)), (1, .int (iI b)), (0, .ref (a 0))]) hx hb dX7_matchNext_92 rfl hl (by decide) rfl (fun ls hl => ?_)
                    refine lv_iload_n hx hb dX7_matchNext_93 rfl (lv_at hl 0 rfl) ?_
                    refine k_if_eq (tgt := 122) hx hb dX7_matchNext_94 (by decide) (by omega) (fun c_17 => ?_) (fun c_17 => ?_)
                    · exfalso; omega
                    · skip
                      refine lv_iload_n hx hb dX7_matchNext_97 rfl (lv_at hl 2 rfl) ?_
                      refine k_ldc (z := (-1000000000)) hx hb hown hm0 (by decide +kernel) dX7_matchNext_98 ?_
                      refine k_icmp_eq (tgt := 118) hx hb dX7_matchNext_100 (by decide) (by omega) (by omega) (fun c_18 => ?_) (fun c_18 => ?_)
                      · skip
                        refine lv_iload_n hx hb dX7_matchNext_118 rfl (lv_at hl 1 rfl) ?_
                        refine lv_goto (tgt := 123) hx hb dX7_matchNext_119 (by decide) ?_
                        refine lv_istore_n (lv' := [(1, .int (iI k)), (3, .int (iI 1)), (2, .int (iI k)), (0, .ref (a 0))]) hx hb dX7_matchNext_123 rfl hl (by decide) rfl (fun ls hl => ?_)
                        refine lv_iinc (v := iI (k + 1)) (lv' := [(2, .int (iI (k + 1))), (1, .int (iI k)), (3, .int (iI 1)), (0, .ref (a 0))]) hx hb dX7_matchNext_124 hl (k := 2) rfl (iI_add _ _) (by decide) rfl (fun ls hl => ?_)
                        refine lv_goto (tgt := 5) hx hb dX7_matchNext_127 (by decide) ?_
                        exact ih5 (k + 1) k  (by omega) (by omega) (by first | exact bto_no hi2 hno | exact bto_new hi2 hyes (by omega) | exact bto_old hi2 (by omega) (by omega)) (by omega) ls (lv_sub hl [0, 1, 3] rfl)
                      · skip
                        have hbc : cnd (R 1) (R 1 8) (R 5) (R 6) b := by rcases hi2 with ⟨h9, _⟩ | ⟨_, h9, _⟩; omega; exact h9
                        have hbk := hC b (by omega) (by omega) hbc.2.1 hbc.2.2.1
                        have hbb := cstK_bd hI (show 0 ≤ b by omega) (by omega) hbc.2.1 hbc.2.2.1 (z := R 1 8)
                        refine lv_aload_n hx hb dX7_matchNext_103 rfl (lv_at hl 3 rfl) ?_
                        refine va_get (D := D) (ci := 6) (v := .ref (a 4)) (C := RX7) (T := TX7) (N := 19) hx hb hts hinX7 hown hK hP 0 rfl rfl 10 (by decide) hm6 (fun _ h9 => h9) rfl dX7_matchNext_104 ?_
                        refine lv_iload_n hx hb dX7_matchNext_107 rfl (lv_at hl 1 rfl) ?_
                        refine k_iald hx hb hK hP 4 0 (f := R 4) rfl rfl (i := k) (by omega) dX7_matchNext_108 ?_
                        refine lv_aload_n hx hb dX7_matchNext_109 rfl (lv_at hl 3 rfl) ?_
                        refine va_get (D := D) (ci := 6) (v := .ref (a 4)) (C := RX7) (T := TX7) (N := 19) hx hb hts hinX7 hown hK hP 0 rfl rfl 10 (by decide) hm6 (fun _ h9 => h9) rfl dX7_matchNext_110 ?_
                        refine lv_iload_n hx hb dX7_matchNext_113 rfl (lv_at hl 2 rfl) ?_
                        refine k_iald hx hb hK hP 4 0 (f := R 4) rfl rfl (i := b) (by omega) dX7_matchNext_114 ?_
                        refine k_icmp_ge (tgt := 122) hx hb dX7_matchNext_115 (by decide) (by omega) (by omega) (fun c_19 => ?_) (fun c_19 => ?_)
                        · skip
                          refine lv_iload_n hx hb dX7_matchNext_122 rfl (lv_at hl 2 rfl) ?_
                          refine lv_istore_n (lv' := [(1, .int (iI b)), (3, .int (iI 1)), (2, .int (iI k)), (0, .ref (a 0))]) hx hb dX7_matchNext_123 rfl hl (by decide) rfl (fun ls hl => ?_)
                          refine lv_iinc (v := iI (k + 1)) (lv' := [(2, .int (iI (k + 1))), (1, .int (iI b)), (3, .int (iI 1)), (0, .ref (a 0))]) hx hb dX7_matchNext_124 hl (k := 2) rfl (iI_add _ _) (by decide) rfl (fun ls hl => ?_)
                          refine lv_goto (tgt := 5) hx hb dX7_matchNext_127 (by decide) ?_
                          exact ih5 (k + 1) b  (by omega) (by omega) (by first | exact bto_no hi2 hno | exact bto_new hi2 hyes (by omega) | exact bto_old hi2 (by omega) (by omega)) (by omega) ls (lv_sub hl [0, 1, 3] rfl)
                        · skip
                          refine lv_iload_n hx hb dX7_matchNext_118 rfl (lv_at hl 1 rfl) ?_
                          refine lv_goto (tgt := 123) hx hb dX7_matchNext_119 (by decide) ?_
                          refine lv_istore_n (lv' := [(1, .int (iI k)), (3, .int (iI 1)), (2, .int (iI k)), (0, .ref (a 0))]) hx hb dX7_matchNext_123 rfl hl (by decide) rfl (fun ls hl => ?_)
                          refine lv_iinc (v := iI (k + 1)) (lv' := [(2, .int (iI (k + 1))), (1, .int (iI k)), (3, .int (iI 1)), (0, .ref (a 0))]) hx hb dX7_matchNext_124 hl (k := 2) rfl (iI_add _ _) (by decide) rfl (fun ls hl => ?_)
                          refine lv_goto (tgt := 5) hx hb dX7_matchNext_127 (by decide) ?_
                          exact ih5 (k + 1) k  (by omega) (by omega) (by first | exact bto_no hi2 hno | exact bto_new hi2 hyes (by omega) | exact bto_old hi2 (by omega) (by omega)) (by omega) ls (lv_sub hl [0, 1, 3] rfl)
    exact loop5 ((12 * R 1 12 - 0 : Int) + 1).toNat 0 (-1000000000)  (by omega) (by omega) (bto_0 _ _ _ _) (by omega) ls (lv_sub hl [0, 1, 2] rfl)
  exact hbody s.heap [] hP hS ls hl
set_option maxHeartbeats 4000000 in
set_option maxRecDepth 100000 in
theorem c_X7_match (l : Launch) (D : va_G) (cy : Nat → ClassId) (sz : Nat) (a : Nat → Nat) (R : Nat → Int → Int)  (hI : Inv (R 1)) : Met l yX7_match wsX7_match { frames := 6, cells := 0, slots := 0, locals := 137 } (mPre (GG D cy) D (rfW cy a R) sz ([.ref (a 0)] : List Value)) (kQv D (rfW cy a R) sz (fun u9 : Nat → Int → Int => rfW cy a u9) (fun u9 => ∃ (zs : Int → Int) (zt : Int → Int) (zq : Int → Int), (matR (R 1) (R 1 8) zs zt ∧ cstOK (R 1) (R 1 8) zq) ∧ (u9 = (upr (upr (upr (upr R 0 (ups (ups (R 0) 13 (mat (R 1) (R 1 8)).2.2.1) 14 (mat (R 1) (R 1 8)).2.2.2)) 4 (zq)) 5 (zs)) 6 (zt))))) 0 0 (va_A (rfW cy a R) sz) := by
  refine kM_start (cc := cX7_match) (maxL := 2) (ret := none) (by decide) rfl (Nat.le_of_ble_eq_true rfl) ?_
  intro p e s m below meth c hx hb hr hlocks hml hts hown hsz hA hG hP hD hS hin ls hl
  have hK := hG.1
  have hl : lv_has ls 2 [(0, .ref (a 0))] := hl
  have hinX7 : ∀ w ∈ u_ws RX7 TX7 19, w ∈ wsX7_match := by decide +kernel
  have hm0 := hts (.fieldLink RX7 7 "ArcPlateModel" "m" "[I") (by decide +kernel)
  have hm1 := hts (.fieldLink RX7 201 "ArcPlateModel" "matches" "I") (by decide +kernel)
  have hm2 := hts (.fieldLink RX7 204 "ArcPlateModel" "sumOfCosts" "I") (by decide +kernel)
  have hm3 := hts (.fieldLink RX7 19 "ArcPlateModel" "costs" "[I") (by decide +kernel)
  have hm4 := hts (.fieldLink RX7 22 "ArcPlateModel" "starOf" "[I") (by decide +kernel)
  have hm5 := hts (.constant RX7 109 (-1000000000)) (by decide +kernel)
  have hm6 := hts (.fieldLink RX7 25 "ArcPlateModel" "trailOf" "[I") (by decide +kernel)
  have h12 := inv_S12 hI
  have hbody : ∀ (H : Heap) (locs : List Loc) (hP : va_P D vwCl (rfW cy a R) H) (hS : va_S (va_A (rfW cy a R) sz) s.heap H locs) (ls : Array Slot) (hl : lv_has ls 2 [(0, .ref (a 0))]), W p l e { frames := 6, cells := 0, slots := 0, locals := 137 } s m ([.ref (a 0)] : List Value).toArray below meth c H locs 0 0 (MQ below (kQv D (rfW cy a R) sz (fun u9 : Nat → Int → Int => rfW cy a u9) (fun u9 => ∃ (zs : Int → Int) (zt : Int → Int) (zq : Int → Int), (matR (R 1) (R 1 8) zs zt ∧ cstOK (R 1) (R 1 8) zq) ∧ (u9 = (upr (upr (upr (upr R 0 (ups (ups (R 0) 13 (mat (R 1) (R 1 8)).2.2.1) 14 (mat (R 1) (R 1 8)).2.2.2)) 4 (zq)) 5 (zs)) 6 (zt))))) ([.ref (a 0)] : List Value).toArray s 0 0 (va_A (rfW cy a R) sz)) (F0 m 0 ls []) := by
    intro H locs hP hS ls hl
    refine k_iconst hx hb dX7_match_0 ?_
    refine lv_istore_n (lv' := [(1, .int (iI 0)), (0, .ref (a 0))]) hx hb dX7_match_1 rfl hl (by decide) rfl (fun ls hl => ?_)
    have loop2 : ∀ (n_1 : Nat) (k : Int) (SO : Int → Int) (TR : Int → Int) (hi0 : 0 ≤ k) (hi1 : k ≤ 12) (hi2 : ∀ j : Int, 0 ≤ j → j < k → SO j = -1000000000 ∧ TR j = -1000000000) (hn : 12 - k < (n_1 : Int)) (H : Heap) (locs : List Loc) (hP : va_P D vwCl (rfW cy a (upr (upr R 5 (SO)) 6 (TR))) H) (hD : va_D (va_A (rfW cy a R) sz) (rfW cy a (upr (upr R 5 (SO)) 6 (TR)))) (hS : va_S (va_A (rfW cy a R) sz) s.heap H locs) (ls : Array Slot) (hl : lv_has ls 2 [(1, .int (iI k)), (0, .ref (a 0))]), W p l e { frames := 6, cells := 0, slots := 0, locals := 137 } s m ([.ref (a 0)] : List Value).toArray below meth c H locs 0 0 (MQ below (kQv D (rfW cy a R) sz (fun u9 : Nat → Int → Int => rfW cy a u9) (fun u9 => ∃ (zs : Int → Int) (zt : Int → Int) (zq : Int → Int), (matR (R 1) (R 1 8) zs zt ∧ cstOK (R 1) (R 1 8) zq) ∧ (u9 = (upr (upr (upr (upr R 0 (ups (ups (R 0) 13 (mat (R 1) (R 1 8)).2.2.1) 14 (mat (R 1) (R 1 8)).2.2.2)) 4 (zq)) 5 (zs)) 6 (zt))))) ([.ref (a 0)] : List Value).toArray s 0 0 (va_A (rfW cy a R) sz)) (F0 m 2 ls []) := by
      intro n_1
      induction n_1 with
      | zero => intro k SO TR hi0 hi1 hi2 hn H locs hP hD hS ls hl; exfalso; omega
      | succ n_1 ih2 =>
        intro k SO TR hi0 hi1 hi2 hn H locs hP hD hS ls hl
        refine lv_iload_n hx hb dX7_match_2 rfl (lv_at hl 0 rfl) ?_
        refine k_bipush hx hb dX7_match_3 (by decide +kernel) ?_
        refine k_icmp_ge (tgt := 30) hx hb dX7_match_5 (by decide) (by omega) (by omega) (fun c_2 => ?_) (fun c_2 => ?_)
        · skip
          have hclr : ∀ j : Int, 0 ≤ j → j < 12 → SO j = -1000000000 ∧ TR j = -1000000000 := fun j a b => hi2 j a (by omega)
          refine k_iconst hx hb dX7_match_30 ?_
          refine lv_istore_n (lv' := [(1, .int (iI 0)), (0, .ref (a 0))]) hx hb dX7_match_31 rfl hl (by decide) rfl (fun ls hl => ?_)
          have loop32 : ∀ (n_3 : Nat) (k2 : Int) (CO : Int → Int) (hi0 : 0 ≤ k2) (hi1 : k2 ≤ 12 * R 1 12) (hi2 : ∀ j : Int, 0 ≤ j → j < k2 → j % 12 < R 1 13 → 0 < pts (R 1) (j / 12) → CO j = cstK (R 1) (R 1 8) j) (hn : 12 * R 1 12 - k2 < (n_3 : Int)) (H : Heap) (locs : List Loc) (hP : va_P D vwCl (rfW cy a (upr (upr (upr R 4 (CO)) 5 (SO)) 6 (TR))) H) (hD : va_D (va_A (rfW cy a R) sz) (rfW cy a (upr (upr (upr R 4 (CO)) 5 (SO)) 6 (TR)))) (hS : va_S (va_A (rfW cy a R) sz) s.heap H locs) (ls : Array Slot) (hl : lv_has ls 2 [(1, .int (iI k2)), (0, .ref (a 0))]), W p l e { frames := 6, cells := 0, slots := 0, locals := 137 } s m ([.ref (a 0)] : List Value).toArray below meth c H locs 0 0 (MQ below (kQv D (rfW cy a R) sz (fun u9 : Nat → Int → Int => rfW cy a u9) (fun u9 => ∃ (zs : Int → Int) (zt : Int → Int) (zq : Int → Int), (matR (R 1) (R 1 8) zs zt ∧ cstOK (R 1) (R 1 8) zq) ∧ (u9 = (upr (upr (upr (upr R 0 (ups (ups (R 0) 13 (mat (R 1) (R 1 8)).2.2.1) 14 (mat (R 1) (R 1 8)).2.2.2)) 4 (zq)) 5 (zs)) 6 (zt))))) ([.ref (a 0)] : List Value).toArray s 0 0 (va_A (rfW cy a R) sz)) (F0 m 32 ls []) := by
            intro n_3
            induction n_3 with
            | zero => intro k2 CO hi0 hi1 hi2 hn H locs hP hD hS ls hl; exfalso; omega
            | succ n_3 ih32 =>
              intro k2 CO hi0 hi1 hi2 hn H locs hP hD hS ls hl
              refine lv_iload_n hx hb dX7_match_32 rfl (lv_at hl 0 rfl) ?_
              refine k_bipush hx hb dX7_match_33 (by decide +kernel) ?_
              refine lv_aload_n hx hb dX7_match_35 rfl (lv_at hl 1 rfl) ?_
              refine va_get (D := D) (ci := 6) (v := .ref (a 1)) (C := RX7) (T := TX7) (N := 19) hx hb hts hinX7 hown hK hP 0 rfl rfl 0 (by decide) hm0 (fun _ h9 => h9) rfl dX7_match_36 ?_
              refine k_bipush hx hb dX7_match_39 (by decide +kernel) ?_
              refine k_iald hx hb hK hP 1 0 (f := R 1) rfl rfl (i := 12) (by omega) dX7_match_41 ?_
              refine k_imul hx hb dX7_match_42 ?_
              refine k_icmp_ge (tgt := 99) hx hb dX7_match_43 (by decide) (by omega) (by omega) (fun c_4 => ?_) (fun c_4 => ?_)
              · skip
                have hcost : cstOK (R 1) (R 1 8) CO := fun j a b g1 g2 => hi2 j a (by omega) g1 g2
                refine lv_aload_n hx hb dX7_match_99 rfl (lv_at hl 1 rfl) ?_
                refine k_iconst hx hb dX7_match_100 ?_
                refine va_put (D := D) (ci := 6) (v := .int (iI 0)) (ty := .int) (C := RX7) (T := TX7) (N := 19) hx hb hts hinX7 tyX7 tyX7_ok nmX7 hown hK hP hD hS 0 rfl rfl 13 (by decide) hm1 (fun _ h9 => h9) rfl (by decide +kernel) rfl rfl (Nat.le_of_ble_eq_true rfl) dX7_match_101 (fun H locs hP hD hS => ?_)
                have hP : va_P D vwCl (rfW cy a (upr (upr (upr (upr R 0 (ups (R 0) 13 0)) 4 (CO)) 5 (SO)) 6 (TR))) H := hP
                have hD : va_D (va_A (rfW cy a R) sz) (rfW cy a (upr (upr (upr (upr R 0 (ups (R 0) 13 0)) 4 (CO)) 5 (SO)) 6 (TR))) := hD
                refine lv_aload_n hx hb dX7_match_104 rfl (lv_at hl 1 rfl) ?_
                refine k_iconst hx hb dX7_match_105 ?_
                refine va_put (D := D) (ci := 6) (v := .int (iI 0)) (ty := .int) (C := RX7) (T := TX7) (N := 19) hx hb hts hinX7 tyX7 tyX7_ok nmX7 hown hK hP hD hS 0 rfl rfl 14 (by decide) hm2 (fun _ h9 => h9) rfl (by decide +kernel) rfl rfl (Nat.le_of_ble_eq_true rfl) dX7_match_106 (fun H locs hP hD hS => ?_)
                have hP : va_P D vwCl (rfW cy a (upr (upr (upr (upr R 0 (ups (ups (R 0) 13 0) 14 0)) 4 (CO)) 5 (SO)) 6 (TR))) H := hP
                have hD : va_D (va_A (rfW cy a R) sz) (rfW cy a (upr (upr (upr (upr R 0 (ups (ups (R 0) 13 0) 14 0)) 4 (CO)) 5 (SO)) 6 (TR))) := hD
                refine k_iconst hx hb dX7_match_109 ?_
                refine lv_istore_n (lv' := [(1, .int (iI 1)), (0, .ref (a 0))]) hx hb dX7_match_110 rfl hl (by decide) rfl (fun ls hl => ?_)
                have loop111 : ∀ (n_5 : Nat) (j : Nat) (q9 : Int) (S5 : Int → Int) (S6 : Int → Int) (hi0 : ∀ k : Int, 0 ≤ k → k < 12 → S5 k = (matS (R 1) (R 1 8) j).1 k ∧ S6 k = (matS (R 1) (R 1 8) j).2.1 k) (hi1 : tkn (matS (R 1) (R 1 8) j).1 (R 1 12) = (j : Int)) (hi2 : (q9 = 1) ∨ (q9 = 0 ∧ pick (R 1) (R 1 8) (matS (R 1) (R 1 8) j).1 (matS (R 1) (R 1 8) j).2.1 = -1000000000)) (hn : 12 - (j : Int) + q9 < (n_5 : Int)) (H : Heap) (locs : List Loc) (hP : va_P D vwCl (rfW cy a (upr (upr (upr (upr R 0 (ups (ups (R 0) 13 (matS (R 1) (R 1 8) j).2.2.1) 14 (matS (R 1) (R 1 8) j).2.2.2)) 4 (CO)) 5 (S5)) 6 (S6))) H) (hD : va_D (va_A (rfW cy a R) sz) (rfW cy a (upr (upr (upr (upr R 0 (ups (ups (R 0) 13 (matS (R 1) (R 1 8) j).2.2.1) 14 (matS (R 1) (R 1 8) j).2.2.2)) 4 (CO)) 5 (S5)) 6 (S6)))) (hS : va_S (va_A (rfW cy a R) sz) s.heap H locs) (ls : Array Slot) (hl : lv_has ls 2 [(1, .int (iI q9)), (0, .ref (a 0))]), W p l e { frames := 6, cells := 0, slots := 0, locals := 137 } s m ([.ref (a 0)] : List Value).toArray below meth c H locs 0 0 (MQ below (kQv D (rfW cy a R) sz (fun u9 : Nat → Int → Int => rfW cy a u9) (fun u9 => ∃ (zs : Int → Int) (zt : Int → Int) (zq : Int → Int), (matR (R 1) (R 1 8) zs zt ∧ cstOK (R 1) (R 1 8) zq) ∧ (u9 = (upr (upr (upr (upr R 0 (ups (ups (R 0) 13 (mat (R 1) (R 1 8)).2.2.1) 14 (mat (R 1) (R 1 8)).2.2.2)) 4 (zq)) 5 (zs)) 6 (zt))))) ([.ref (a 0)] : List Value).toArray s 0 0 (va_A (rfW cy a R) sz)) (F0 m 111 ls []) := by
                  intro n_5
                  induction n_5 with
                  | zero => intro j q9 S5 S6 hi0 hi1 hi2 hn H locs hP hD hS ls hl; have hz9 := tkn_bd (matS (R 1) (R 1 8) j).1 h12.1.1; exfalso; omega
                  | succ n_5 ih111 =>
                    intro j q9 S5 S6 hi0 hi1 hi2 hn H locs hP hD hS ls hl
                    have hjb := tkn_bd (matS (R 1) (R 1 8) j).1 h12.1.1
                    have hW := matS_ok (R 1 8) hI j
                    have hcg : pick (R 1) (R 1 8) S5 S6 = pick (R 1) (R 1 8) (matS (R 1) (R 1 8) j).1 (matS (R 1) (R 1 8) j).2.1 := pick_congr h12.1.2 (fun k a b => (hi0 k a b).1) (fun k a b => (hi0 k a b).2)
                    refine lv_iload_n hx hb dX7_match_111 rfl (lv_at hl 0 rfl) ?_
                    refine k_if_eq (tgt := 123) hx hb dX7_match_112 (by decide) (by omega) (fun c_6 => ?_) (fun c_6 => ?_)
                    · skip
                      have hpn : pick (R 1) (R 1 8) (matS (R 1) (R 1 8) j).1 (matS (R 1) (R 1 8) j).2.1 = -1000000000 := by rcases hi2 with h9 | h9; omega; exact h9.2
                      have hme := mat_of (n := j) (by omega) hpn
                      exact W.vret hx hb hr (fun t9 ht _ => ⟨⟨(upr (upr (upr (upr R 0 (ups (ups (R 0) 13 (matS (R 1) (R 1 8) j).2.2.1) 14 (matS (R 1) (R 1 8) j).2.2.2)) 4 (CO)) 5 (S5)) 6 (S6)), rfl, (⟨(S5), (S6), (CO), (⟨fun k a b => by rw [hme]; exact hi0 k a b, hcost⟩), (by rw [show (ups (ups (R 0) 13 (matS (R 1) (R 1 8) j).2.2.1) 14 (matS (R 1) (R 1 8) j).2.2.2) = (ups (ups (R 0) 13 (mat (R 1) (R 1 8)).2.2.1) 14 (mat (R 1) (R 1 8)).2.2.2) from by rw [hme]])⟩ : ∃ (zs : Int → Int) (zt : Int → Int) (zq : Int → Int), (matR (R 1) (R 1 8) zs zt ∧ cstOK (R 1) (R 1 8) zq) ∧ ((upr (upr (upr (upr R 0 (ups (ups (R 0) 13 (matS (R 1) (R 1 8) j).2.2.1) 14 (matS (R 1) (R 1 8) j).2.2.2)) 4 (CO)) 5 (S5)) 6 (S6)) = (upr (upr (upr (upr R 0 (ups (ups (R 0) 13 (mat (R 1) (R 1 8)).2.2.1) 14 (mat (R 1) (R 1 8)).2.2.2)) 4 (zq)) 5 (zs)) 6 (zt)))), by rw [ht]; exact hP, hD⟩, hS.F ht⟩) hS.2.2 dX7_match_123 hlocks
                    · skip
                      refine lv_aload_n hx hb dX7_match_115 rfl (lv_at hl 1 rfl) ?_
                      refine k_mui (k_runV (As := []) (rest := []) ⟨hx, hb, hml, hown, hts⟩ (c_X7_matchNext l D cy H.size a (upr (upr (upr (upr R 0 (ups (ups (R 0) 13 (matS (R 1) (R 1 8) j).2.2.1) 14 (matS (R 1) (R 1 8) j).2.2.2)) 4 (CO)) 5 (S5)) 6 (S6)) hI (show cstOK ((R 1)) ((R 1) 8) (CO) from hcost) (show ∀ k : Int, 0 ≤ k → k < 12 → S5 k = -1000000000 ∨ (0 ≤ S5 k ∧ S5 k < (R 1) 13) from fun k a b => by rw [(hi0 k a b).1]; exact hW.1 k a b) (show ∀ k : Int, 0 ≤ k → k < 12 → S6 k = -1000000000 ∨ (0 ≤ S6 k ∧ S6 k < (R 1) 12) from fun k a b => by rw [(hi0 k a b).2]; have h9 := hW.2.1 k a b; omega)) gX7_match_X7_matchNext rfl ⟨rfl, rfl⟩ 0 rfl (by decide +kernel) ⟨Nat.le_of_ble_eq_true rfl, Nat.le_of_ble_eq_true rfl⟩ (GG_ok D cy) hG hS (k_free hD hS hA) hP hD (va_recv hK hP (ci := 6) (q0 := 0) rfl rfl) hl.1 rfl (Nat.le_of_ble_eq_true rfl) ⟨Nat.le_of_ble_eq_true rfl, Nat.le_of_ble_eq_true rfl⟩ dX7_match_116) (k_free hD hS hA) hS (fun r_7 R_8 H1 locs1 hR_8 hP1 hD1 hS1 hk1 => ?_)
                      rcases hR_8 with ⟨c_9, hr_7, hR_8⟩ | ⟨c_9, hr_7, hR_8⟩
                      · skip
                        have c_9 : pick ((R 1)) ((R 1) 8) (S5) (S6) = -1000000000 := c_9
                        subst hr_7
                        subst hR_8
                        have hDn : va_D (va_A (rfW cy a R) sz) (rfW cy a (upr (upr (upr (upr R 0 (ups (ups (R 0) 13 (matS (R 1) (R 1 8) j).2.2.1) 14 (matS (R 1) (R 1 8) j).2.2.2)) 4 (CO)) 5 (S5)) 6 (S6))) := k_addr hD rfl
                        have hPn : va_P D vwCl (rfW cy a (upr (upr (upr (upr R 0 (ups (ups (R 0) 13 (matS (R 1) (R 1 8) j).2.2.1) 14 (matS (R 1) (R 1 8) j).2.2.2)) 4 (CO)) 5 (S5)) 6 (S6))) H1 := hP1
                        clear hP hD hS hP1 hD1 hk1
                        have hP := hPn
                        have hD := hDn
                        have hS := hS1
                        clear hPn hDn hS1
                        generalize H1 = H at hP hS ⊢
                        generalize locs1 = locs at hS ⊢
                        obtain ⟨j9, hj9⟩ : ∃ j9 : Nat, j9 = j := ⟨_, rfl⟩
                        refine lv_istore_n (lv' := [(1, .int (iI 0)), (0, .ref (a 0))]) hx hb dX7_match_119 rfl hl (by decide) rfl (fun ls hl => ?_)
                        refine lv_goto (tgt := 111) hx hb dX7_match_120 (by decide) ?_
                        exact ih111 j9 0 S5 S6  (by first | (subst hj9; exact hi0) | (subst hj9; rw [hgo]; intro k a b; refine ⟨?_, ?_⟩; (show ups _ _ _ k = ups _ _ _ k; unfold ups; rw [(hi0 k a b).1]); (show ups _ _ _ k = ups _ _ _ k; unfold ups; rw [(hi0 k a b).2]))) (by first | (subst hj9; exact hi1) | (subst hj9; rw [hgo]; show tkn (ups _ _ _) (R 1 12) = _; rw [tkn_ups hpo.2.1.1 hpo.2.1.2 (by rw [← (hi0 _ hpo.2.1.1 (by omega)).1]; exact hpo.1.2.2.2.1) (by omega), hi1]; omega)) (by first | exact Or.inl rfl | exact Or.inr ⟨rfl, by subst hj9; rw [← hcg]; assumption⟩) (by omega) H locs (by rw [show (ups (ups (R 0) 13 (matS (R 1) (R 1 8) j9).2.2.1) 14 (matS (R 1) (R 1 8) j9).2.2.2) = (ups (ups (R 0) 13 (matS (R 1) (R 1 8) j).2.2.1) 14 (matS (R 1) (R 1 8) j).2.2.2) from by first | (subst hj9; rfl) | (subst hj9; rw [hgo]; funext k9; unfold ups; (repeat' split) <;> first | rfl | omega)]; exact hP) (k_addr hD rfl) hS ls (lv_sub hl [0, 1] rfl)
                      · skip
                        have c_9 : pick ((R 1)) ((R 1) 8) (S5) (S6) ≠ -1000000000 := c_9
                        subst hr_7
                        subst hR_8
                        have hDn : va_D (va_A (rfW cy a R) sz) (rfW cy a (upr (upr (upr (upr R 0 (ups (ups ((ups (ups (R 0) 13 (matS (R 1) (R 1 8) j).2.2.1) 14 (matS (R 1) (R 1 8) j).2.2.2)) 13 ((((matS (R 1) (R 1 8) j).2.2.1)) + 1)) 14 (((matS (R 1) (R 1 8) j).2.2.2) + cstK ((R 1)) ((R 1) 8) (pick ((R 1)) ((R 1) 8) (S5) (S6))))) 4 (CO)) 5 (ups (S5) (pick ((R 1)) ((R 1) 8) (S5) (S6) / 12) (pick ((R 1)) ((R 1) 8) (S5) (S6) % 12))) 6 (ups (S6) (pick ((R 1)) ((R 1) 8) (S5) (S6) % 12) (pick ((R 1)) ((R 1) 8) (S5) (S6) / 12)))) := k_addr hD rfl
                        have hPn : va_P D vwCl (rfW cy a (upr (upr (upr (upr R 0 (ups (ups ((ups (ups (R 0) 13 (matS (R 1) (R 1 8) j).2.2.1) 14 (matS (R 1) (R 1 8) j).2.2.2)) 13 ((((matS (R 1) (R 1 8) j).2.2.1)) + 1)) 14 (((matS (R 1) (R 1 8) j).2.2.2) + cstK ((R 1)) ((R 1) 8) (pick ((R 1)) ((R 1) 8) (S5) (S6))))) 4 (CO)) 5 (ups (S5) (pick ((R 1)) ((R 1) 8) (S5) (S6) / 12) (pick ((R 1)) ((R 1) 8) (S5) (S6) % 12))) 6 (ups (S6) (pick ((R 1)) ((R 1) 8) (S5) (S6) % 12) (pick ((R 1)) ((R 1) 8) (S5) (S6) / 12)))) H1 := hP1
                        clear hP hD hS hP1 hD1 hk1
                        have hP := hPn
                        have hD := hDn
                        have hS := hS1
                        clear hPn hDn hS1
                        generalize H1 = H at hP hS ⊢
                        generalize locs1 = locs at hS ⊢
                        obtain ⟨j9, hj9⟩ : ∃ j9 : Nat, j9 = j + 1 := ⟨_, rfl⟩
                        have hgo := matS_go (M := R 1) (z := R 1 8) (n := j) (b := pick (R 1) (R 1 8) S5 S6) hcg.symm c_9
                        have hpo := pick_ok hI c_9
                        refine lv_istore_n (lv' := [(1, .int (iI 1)), (0, .ref (a 0))]) hx hb dX7_match_119 rfl hl (by decide) rfl (fun ls hl => ?_)
                        refine lv_goto (tgt := 111) hx hb dX7_match_120 (by decide) ?_
                        exact ih111 j9 1 (ups (S5) (pick ((R 1)) ((R 1) 8) (S5) (S6) / 12) (pick ((R 1)) ((R 1) 8) (S5) (S6) % 12)) (ups (S6) (pick ((R 1)) ((R 1) 8) (S5) (S6) % 12) (pick ((R 1)) ((R 1) 8) (S5) (S6) / 12))  (by first | (subst hj9; exact hi0) | (subst hj9; rw [hgo]; intro k a b; refine ⟨?_, ?_⟩; (show ups _ _ _ k = ups _ _ _ k; unfold ups; rw [(hi0 k a b).1]); (show ups _ _ _ k = ups _ _ _ k; unfold ups; rw [(hi0 k a b).2]))) (by first | (subst hj9; exact hi1) | (subst hj9; rw [hgo]; show tkn (ups _ _ _) (R 1 12) = _; rw [tkn_ups hpo.2.1.1 hpo.2.1.2 (by rw [← (hi0 _ hpo.2.1.1 (by omega)).1]; exact hpo.1.2.2.2.1) (by omega), hi1]; omega)) (by first | exact Or.inl rfl | exact Or.inr ⟨rfl, by subst hj9; rw [← hcg]; assumption⟩) (by omega) H locs (by rw [show (ups (ups (R 0) 13 (matS (R 1) (R 1 8) j9).2.2.1) 14 (matS (R 1) (R 1 8) j9).2.2.2) = (ups (ups ((ups (ups (R 0) 13 (matS (R 1) (R 1 8) j).2.2.1) 14 (matS (R 1) (R 1 8) j).2.2.2)) 13 ((((matS (R 1) (R 1 8) j).2.2.1)) + 1)) 14 (((matS (R 1) (R 1 8) j).2.2.2) + cstK ((R 1)) ((R 1) 8) (pick ((R 1)) ((R 1) 8) (S5) (S6)))) from by first | (subst hj9; rfl) | (subst hj9; rw [hgo]; funext k9; unfold ups; (repeat' split) <;> first | rfl | omega)]; exact hP) (k_addr hD rfl) hS ls (lv_sub hl [0, 1] rfl)
                exact loop111 ((12 - (0 : Int) + 1 : Int) + 1).toNat 0 1 SO TR  (fun k a b => hclr k a b) (tkn_0 _) (Or.inl rfl) (by omega) H locs (hP) (k_addr hD rfl) hS ls (lv_sub hl [0, 1] rfl)
              · skip
                refine lv_aload_n hx hb dX7_match_46 rfl (lv_at hl 1 rfl) ?_
                refine va_get (D := D) (ci := 6) (v := .ref (a 4)) (C := RX7) (T := TX7) (N := 19) hx hb hts hinX7 hown hK hP 0 rfl rfl 10 (by decide) hm3 (fun _ h9 => h9) rfl dX7_match_47 ?_
                refine lv_iload_n hx hb dX7_match_50 rfl (lv_at hl 0 rfl) ?_
                refine lv_iload_n hx hb dX7_match_51 rfl (lv_at hl 0 rfl) ?_
                refine k_bipush hx hb dX7_match_52 (by decide +kernel) ?_
                refine k_irem hx hb dX7_match_54 (by omega) (by omega) ?_
                refine lv_aload_n hx hb dX7_match_55 rfl (lv_at hl 1 rfl) ?_
                refine va_get (D := D) (ci := 6) (v := .ref (a 1)) (C := RX7) (T := TX7) (N := 19) hx hb hts hinX7 hown hK hP 0 rfl rfl 0 (by decide) hm0 (fun _ h9 => h9) rfl dX7_match_56 ?_
                refine k_bipush hx hb dX7_match_59 (by decide +kernel) ?_
                refine k_iald hx hb hK hP 1 0 (f := R 1) rfl rfl (i := 13) (by omega) dX7_match_61 ?_
                refine k_icmp_ge (tgt := 91) hx hb dX7_match_62 (by decide) (by omega) (by omega) (fun c_10 => ?_) (fun c_10 => ?_)
                · skip
                  refine k_iconst hx hb dX7_match_91 ?_
                  refine k_iast hx hb hK hP hD hS 4 0 (f := CO) rfl rfl (i := k2) (x := 0) (by omega) dX7_match_92 (fun H locs hP hD hS => ?_)
                  have hP : va_P D vwCl (rfW cy a (upr (upr (upr R 4 (ups CO k2 0)) 5 (SO)) 6 (TR))) H := hP
                  have hD : va_D (va_A (rfW cy a R) sz) (rfW cy a (upr (upr (upr R 4 (ups CO k2 0)) 5 (SO)) 6 (TR))) := hD
                  refine lv_iinc (v := iI (k2 + 1)) (lv' := [(1, .int (iI (k2 + 1))), (0, .ref (a 0))]) hx hb dX7_match_93 hl (k := 0) rfl (iI_add _ _) (by decide) rfl (fun ls hl => ?_)
                  refine lv_goto (tgt := 32) hx hb dX7_match_96 (by decide) ?_
                  exact ih32 (k2 + 1) (ups CO k2 0)  (by omega) (by omega) (fun j a b g1 g2 => by by_cases e9 : j = k2; (subst e9; rw [ups_eq]; first | rfl | (exfalso; omega)); (rw [ups_ne _ _ e9]; exact hi2 j a (by omega) g1 g2)) (by omega) H locs (hP) (k_addr hD rfl) hS ls (lv_sub hl [0, 1] rfl)
                · skip
                  refine lv_aload_n hx hb dX7_match_65 rfl (lv_at hl 1 rfl) ?_
                  refine lv_iload_n hx hb dX7_match_66 rfl (lv_at hl 0 rfl) ?_
                  refine k_bipush hx hb dX7_match_67 (by decide +kernel) ?_
                  refine k_idiv hx hb dX7_match_69 (by omega) (by omega) ?_
                  refine k_roV (As := [.int (iI (k2 / 12))]) (rest := [.int (iI k2), .ref (a 4)]) ⟨hx, hb, hml, hown, hts⟩ (c_X7_points l D cy a (upr (upr (upr R 4 (CO)) 5 (SO)) 6 (TR)) (k2 / 12) (show 0 ≤ (k2 / 12) by omega) (show (k2 / 12) < 12 by omega)) gX7_match_X7_points rfl ⟨rfl, rfl⟩ 1 rfl (by decide +kernel) ⟨Nat.le_of_ble_eq_true rfl, Nat.le_of_ble_eq_true rfl⟩ (GG_ok D cy) ((GG_ok D cy).2.2.2 _ _ _ _ (fun _ h => h.elim) ((GG_ok D cy).1 _ _ _ _ hS.2.1 hG)) hP (va_recv hK hP (ci := 6) (q0 := 0) rfl rfl) hl.1 rfl (Nat.le_of_ble_eq_true rfl) ⟨Nat.le_of_ble_eq_true rfl, Nat.le_of_ble_eq_true rfl⟩ dX7_match_70 (fun r_11 hr_11 => ?_)
                  have hr_11 : r_11 = pts ((R 1)) (k2 / 12) := hr_11
                  subst hr_11
                  have hpt := inv_pts hI (t := k2 / 12) (by omega) (by omega)
                  refine k_if_le (tgt := 91) hx hb dX7_match_73 (by decide) (by omega) (fun c_12 => ?_) (fun c_12 => ?_)
                  · skip
                    refine k_iconst hx hb dX7_match_91 ?_
                    refine k_iast hx hb hK hP hD hS 4 0 (f := CO) rfl rfl (i := k2) (x := 0) (by omega) dX7_match_92 (fun H locs hP hD hS => ?_)
                    have hP : va_P D vwCl (rfW cy a (upr (upr (upr R 4 (ups CO k2 0)) 5 (SO)) 6 (TR))) H := hP
                    have hD : va_D (va_A (rfW cy a R) sz) (rfW cy a (upr (upr (upr R 4 (ups CO k2 0)) 5 (SO)) 6 (TR))) := hD
                    refine lv_iinc (v := iI (k2 + 1)) (lv' := [(1, .int (iI (k2 + 1))), (0, .ref (a 0))]) hx hb dX7_match_93 hl (k := 0) rfl (iI_add _ _) (by decide) rfl (fun ls hl => ?_)
                    refine lv_goto (tgt := 32) hx hb dX7_match_96 (by decide) ?_
                    exact ih32 (k2 + 1) (ups CO k2 0)  (by omega) (by omega) (fun j a b g1 g2 => by by_cases e9 : j = k2; (subst e9; rw [ups_eq]; first | rfl | (exfalso; omega)); (rw [ups_ne _ _ e9]; exact hi2 j a (by omega) g1 g2)) (by omega) H locs (hP) (k_addr hD rfl) hS ls (lv_sub hl [0, 1] rfl)
                  · skip
                    refine lv_aload_n hx hb dX7_match_76 rfl (lv_at hl 1 rfl) ?_
                    refine lv_iload_n hx hb dX7_match_77 rfl (lv_at hl 0 rfl) ?_
                    refine k_bipush hx hb dX7_match_78 (by decide +kernel) ?_
                    refine k_idiv hx hb dX7_match_80 (by omega) (by omega) ?_
                    refine lv_iload_n hx hb dX7_match_81 rfl (lv_at hl 0 rfl) ?_
                    refine k_bipush hx hb dX7_match_82 (by decide +kernel) ?_
                    refine k_irem hx hb dX7_match_84 (by omega) (by omega) ?_
                    refine k_roV (As := [.int (iI (k2 / 12)), .int (iI (k2 % 12))]) (rest := [.int (iI k2), .ref (a 4)]) ⟨hx, hb, hml, hown, hts⟩ (c_X7_costOf l D cy a (upr (upr (upr R 4 (CO)) 5 (SO)) 6 (TR)) (k2 / 12) (k2 % 12) hI (show 0 ≤ (k2 / 12) by omega) (show (k2 / 12) < (R 1) 12 by omega) (show 0 < pts ((R 1)) (k2 / 12) by omega) (show 0 ≤ (k2 % 12) by omega) (show (k2 % 12) < (R 1) 13 by omega)) gX7_match_X7_costOf rfl ⟨rfl, rfl⟩ 2 rfl (by decide +kernel) ⟨Nat.le_of_ble_eq_true rfl, Nat.le_of_ble_eq_true rfl⟩ (GG_ok D cy) ((GG_ok D cy).2.2.2 _ _ _ _ (fun _ h => h.elim) ((GG_ok D cy).1 _ _ _ _ hS.2.1 hG)) hP (va_recv hK hP (ci := 6) (q0 := 0) rfl rfl) hl.1 rfl (Nat.le_of_ble_eq_true rfl) ⟨Nat.le_of_ble_eq_true rfl, Nat.le_of_ble_eq_true rfl⟩ dX7_match_85 (fun r_13 hr_13 => ?_)
                    have hr_13 : r_13 = cstZ ((R 1)) ((R 1) 8) (k2 / 12) (k2 % 12) := hr_13
                    subst hr_13
                    refine lv_goto (tgt := 92) hx hb dX7_match_88 (by decide) ?_
                    refine k_iast hx hb hK hP hD hS 4 0 (f := CO) rfl rfl (i := k2) (x := cstZ ((R 1)) ((R 1) 8) (k2 / 12) (k2 % 12)) (by omega) dX7_match_92 (fun H locs hP hD hS => ?_)
                    have hP : va_P D vwCl (rfW cy a (upr (upr (upr R 4 (ups CO k2 (cstZ ((R 1)) ((R 1) 8) (k2 / 12) (k2 % 12)))) 5 (SO)) 6 (TR))) H := hP
                    have hD : va_D (va_A (rfW cy a R) sz) (rfW cy a (upr (upr (upr R 4 (ups CO k2 (cstZ ((R 1)) ((R 1) 8) (k2 / 12) (k2 % 12)))) 5 (SO)) 6 (TR))) := hD
                    refine lv_iinc (v := iI (k2 + 1)) (lv' := [(1, .int (iI (k2 + 1))), (0, .ref (a 0))]) hx hb dX7_match_93 hl (k := 0) rfl (iI_add _ _) (by decide) rfl (fun ls hl => ?_)
                    refine lv_goto (tgt := 32) hx hb dX7_match_96 (by decide) ?_
                    exact ih32 (k2 + 1) (ups CO k2 (cstZ ((R 1)) ((R 1) 8) (k2 / 12) (k2 % 12)))  (by omega) (by omega) (fun j a b g1 g2 => by by_cases e9 : j = k2; (subst e9; rw [ups_eq]; first | rfl | (exfalso; omega)); (rw [ups_ne _ _ e9]; exact hi2 j a (by omega) g1 g2)) (by omega) H locs (hP) (k_addr hD rfl) hS ls (lv_sub hl [0, 1] rfl)
          exact loop32 ((12 * R 1 12 - 0 : Int) + 1).toNat 0 (R 4)  (by omega) (by omega) (fun j a b => by omega) (by omega) H locs (hP) (k_addr hD rfl) hS ls (lv_sub hl [0, 1] rfl)
        · skip
          refine lv_aload_n hx hb dX7_match_8 rfl (lv_at hl 1 rfl) ?_
          refine va_get (D := D) (ci := 6) (v := .ref (a 5)) (C := RX7) (T := TX7) (N := 19) hx hb hts hinX7 hown hK hP 0 rfl rfl 11 (by decide) hm4 (fun _ h9 => h9) rfl dX7_match_9 ?_
          refine lv_iload_n hx hb dX7_match_12 rfl (lv_at hl 0 rfl) ?_
          refine k_ldc (z := (-1000000000)) hx hb hown hm5 (by decide +kernel) dX7_match_13 ?_
          refine k_iast hx hb hK hP hD hS 5 0 (f := SO) rfl rfl (i := k) (x := (-1000000000)) (by omega) dX7_match_15 (fun H locs hP hD hS => ?_)
          have hP : va_P D vwCl (rfW cy a (upr (upr R 5 (ups SO k (-1000000000))) 6 (TR))) H := hP
          have hD : va_D (va_A (rfW cy a R) sz) (rfW cy a (upr (upr R 5 (ups SO k (-1000000000))) 6 (TR))) := hD
          refine lv_aload_n hx hb dX7_match_16 rfl (lv_at hl 1 rfl) ?_
          refine va_get (D := D) (ci := 6) (v := .ref (a 6)) (C := RX7) (T := TX7) (N := 19) hx hb hts hinX7 hown hK hP 0 rfl rfl 12 (by decide) hm6 (fun _ h9 => h9) rfl dX7_match_17 ?_
          refine lv_iload_n hx hb dX7_match_20 rfl (lv_at hl 0 rfl) ?_
          refine k_ldc (z := (-1000000000)) hx hb hown hm5 (by decide +kernel) dX7_match_21 ?_
          refine k_iast hx hb hK hP hD hS 6 0 (f := TR) rfl rfl (i := k) (x := (-1000000000)) (by omega) dX7_match_23 (fun H locs hP hD hS => ?_)
          have hP : va_P D vwCl (rfW cy a (upr (upr R 5 (ups SO k (-1000000000))) 6 (ups TR k (-1000000000)))) H := hP
          have hD : va_D (va_A (rfW cy a R) sz) (rfW cy a (upr (upr R 5 (ups SO k (-1000000000))) 6 (ups TR k (-1000000000)))) := hD
          refine lv_iinc (v := iI (k + 1)) (lv' := [(1, .int (iI (k + 1))), (0, .ref (a 0))]) hx hb dX7_match_24 hl (k := 0) rfl (iI_add _ _) (by decide) rfl (fun ls hl => ?_)
          refine lv_goto (tgt := 2) hx hb dX7_match_27 (by decide) ?_
          exact ih2 (k + 1) (ups SO k (-1000000000)) (ups TR k (-1000000000))  (by omega) (by omega) (fun j a b => by by_cases e9 : j = k; (subst e9; exact ⟨ups_eq _ _ _, ups_eq _ _ _⟩); (rw [ups_ne _ _ e9, ups_ne _ _ e9]; exact hi2 j a (by omega))) (by omega) H locs (hP) (k_addr hD rfl) hS ls (lv_sub hl [0, 1] rfl)
    exact loop2 ((12 - 0 : Int) + 1).toNat 0 (R 5) (R 6)  (by omega) (by omega) (fun j a b => by omega) (by omega) H locs (hP) (k_addr hD rfl) hS ls (lv_sub hl [0, 1] rfl)
  exact hbody s.heap [] hP hS ls hl
