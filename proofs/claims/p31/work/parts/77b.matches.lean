/-! the law's second check: matches both ways, missing stars -/
set_option maxHeartbeats 8000000 in
set_option maxRecDepth 100000 in
theorem k_matches (l : Launch) (D : va_G) (cy : Nat → ClassId) (o : Nat) (M : Int → Int) (n : Int) (K : Nat → Int → Int)  : CKs l D cy yL_matches wkL_matches { frames := 8, cells := 0, slots := 0, locals := 201 } o [] M n K (fun r M' n' K' => 1 = r ∧ M = M' ∧ n = n' ∧ K = K') 0 0 := by
  refine ck_start (cc := cL_matches) (maxL := 11) (ret := (some .boolean)) (by decide) rfl (Nat.le_of_ble_eq_true rfl) ?_
  intro p e s m below meth c A0 Q hx hb hr hlocks hml hts hown hA hGX hret H ls hW hl
  have hl : lv_has ls 11 [(0, .ref o)] := hl
  have hI := hW.inv
  have hS12 := inv_S12 hI
  have hS0 := hI.1
  unfold InvS at hS0
  have hnn := hW.nn
  generalize ([] : List Loc) = locs at hW ⊢
  have hmw0 := hts (.constant RL 109 (-1000000000)) (ckL_matches _ (by decide +kernel))
  refine k_iconst hx hb dL_matches_0 ?_
  refine lv_istore_n (lv' := [(1, .int (iI 0)), (0, .ref o)]) hx hb dL_matches_1 rfl hl (by decide) rfl (fun ls hl => ?_)
  refine k_iconst hx hb dL_matches_2 ?_
  refine lv_istore_n (lv' := [(2, .int (iI 0)), (1, .int (iI 0)), (0, .ref o)]) hx hb dL_matches_3 rfl hl (by decide) rfl (fun ls hl => ?_)
  refine k_iconst hx hb dL_matches_4 ?_
  refine lv_istore_n (lv' := [(3, .int (iI 0)), (2, .int (iI 0)), (1, .int (iI 0)), (0, .ref o)]) hx hb dL_matches_5 rfl hl (by decide) rfl (fun ls hl => ?_)
  refine k_iconst hx hb dL_matches_6 ?_
  refine lv_istore (lv' := [(4, .int (iI 0)), (3, .int (iI 0)), (2, .int (iI 0)), (1, .int (iI 0)), (0, .ref o)]) hx hb dL_matches_7 hl (by decide) rfl (fun ls hl => ?_)
  have loop9 : ∀ (j_1 : Nat) (u : Int) (x3 : Int) (x2 : Int) (x1 : Int) (hi0 : 0 ≤ u) (hi1 : u ≤ M 13) (hex3 : x3 = sumZ (gnF M) u) (hex2 : x2 = sumZ (scF M) u) (hex1 : x1 = sumZ (mnF M) u) (hn9 : M 13 - u < (j_1 : Int)) (H : Heap) (locs : List Loc) (hW : OW D cy A0 s.heap o M n K H locs) (ls : Array Slot) (hl : lv_has ls 11 [(4, .int (iI u)), (3, .int (iI x3)), (2, .int (iI x2)), (1, .int (iI x1)), (0, .ref o)]), W p l e { frames := 8, cells := 0, slots := 0, locals := 201 } s m ([.ref o] : List Value).toArray below meth c H locs 0 0 Q (F0 m 9 ls []) := by
    intro j_1
    induction j_1 with
    | zero => intro u x3 x2 x1 hi0 hi1 hex3 hex2 hex1 hn9 H locs hW ls hl; exfalso; omega
    | succ j_1 ih9 =>
      intro u x3 x2 x1 hi0 hi1 hex3 hex2 hex1 hn9 H locs hW ls hl
      subst hex3
      subst hex2
      subst hex1
      have hmb := mc_bd hI hi0 hi1
      refine lv_iload hx hb dL_matches_9 (lv_at hl 0 rfl) ?_
      refine lv_aload_n hx hb dL_matches_11 rfl (lv_at hl 4 rfl) ?_
      refine k_iconst hx hb dL_matches_12 ?_
      refine q_call0 (As := [.int (iI 1)]) (rest := [.int (iI u)]) ⟨hx, hb, hml, hown, hts⟩ hGX hA (ck_ans (k_whole l D cy o M n K 1 (show 0 ≤ (1 : Int) ∧ (1 : Int) ≤ 10 from by omega)) (show whW M (1 : Int) = M 13 from wh_1 M)) gkL_matches_L_whole rfl ⟨rfl, rfl⟩ 2 rfl (by decide +kernel) ⟨Nat.le_of_ble_eq_true rfl, Nat.le_of_ble_eq_true rfl⟩ hW hl.1 rfl (Nat.le_of_ble_eq_true rfl) ⟨Nat.le_of_ble_eq_true rfl, Nat.le_of_ble_eq_true rfl⟩ dL_matches_13 (fun r_2 M_2 n_2 K_2 H locs hp hW => ?_)
      obtain ⟨rfl, rfl, rfl, rfl⟩ := hp
      refine k_icmp_ge (tgt := 224) hx hb dL_matches_16 (by decide) (by omega) (by omega) (fun c_3 => ?_) (fun c_3 => ?_)
      · skip
        have hue : u = M 13 := by omega
        have he1 : sumZ (mnF M) u = sumZ (mnF M) (M 13) := by rw [hue]
        have he2 : sumZ (scF M) u = sumZ (scF M) (M 13) := by rw [hue]
        have he3 : sumZ (gnF M) u = sumZ (gnF M) (M 13) := by rw [hue]
        refine k_iconst hx hb dL_matches_224 ?_
        refine lv_istore (lv' := [(4, .int (iI 0)), (3, .int (iI (sumZ (gnF M) u))), (2, .int (iI (sumZ (scF M) u))), (1, .int (iI (sumZ (mnF M) u))), (0, .ref o)]) hx hb dL_matches_225 hl (by decide) rfl (fun ls hl => ?_)
        have loop227 : ∀ (j_4 : Nat) (t : Int) (ht0 : 0 ≤ t) (ht1 : t ≤ M 12) (hn227 : M 12 - t < (j_4 : Int)) (H : Heap) (locs : List Loc) (hW : OW D cy A0 s.heap o M n K H locs) (ls : Array Slot) (hl : lv_has ls 11 [(4, .int (iI t)), (3, .int (iI (sumZ (gnF M) u))), (2, .int (iI (sumZ (scF M) u))), (1, .int (iI (sumZ (mnF M) u))), (0, .ref o)]), W p l e { frames := 8, cells := 0, slots := 0, locals := 201 } s m ([.ref o] : List Value).toArray below meth c H locs 0 0 Q (F0 m 227 ls []) := by
          intro j_4
          induction j_4 with
          | zero => intro t ht0 ht1 hn227 H locs hW ls hl; exfalso; omega
          | succ j_4 ih227 =>
            intro t ht0 ht1 hn227 H locs hW ls hl
            refine lv_iload hx hb dL_matches_227 (lv_at hl 0 rfl) ?_
            refine lv_aload_n hx hb dL_matches_229 rfl (lv_at hl 4 rfl) ?_
            refine k_iconst hx hb dL_matches_230 ?_
            refine q_call0 (As := [.int (iI 0)]) (rest := [.int (iI t)]) ⟨hx, hb, hml, hown, hts⟩ hGX hA (ck_ans (k_whole l D cy o M n K 0 (show 0 ≤ (0 : Int) ∧ (0 : Int) ≤ 10 from by omega)) (show whW M (0 : Int) = M 12 from wh_0 M)) gkL_matches_L_whole rfl ⟨rfl, rfl⟩ 2 rfl (by decide +kernel) ⟨Nat.le_of_ble_eq_true rfl, Nat.le_of_ble_eq_true rfl⟩ hW hl.1 rfl (Nat.le_of_ble_eq_true rfl) ⟨Nat.le_of_ble_eq_true rfl, Nat.le_of_ble_eq_true rfl⟩ dL_matches_231 (fun r_5 M_5 n_5 K_5 H locs hp hW => ?_)
            obtain ⟨rfl, rfl, rfl, rfl⟩ := hp
            refine k_icmp_ge (tgt := 425) hx hb dL_matches_234 (by decide) (by omega) (by omega) (fun c_6 => ?_) (fun c_6 => ?_)
            · skip
              have hms := msc_no hI
              have hmt := mn_tot hI
              have hmb2 := mn_bd hI
              have hn1 := no_sp (msc M)
              have hn2 := ze_sp (sumZ (mnF M) u)
              have hmtb := mat_bd (M 8) hI
              refine lv_aload_n hx hb dL_matches_425 rfl (lv_at hl 4 rfl) ?_
              refine qv_meanScale ⟨hx, hb, hml, hown, hts⟩ hGX hA gkL_matches_X6_meanScale ⟨Nat.le_of_ble_eq_true rfl, Nat.le_of_ble_eq_true rfl⟩ hW hl.1 (Nat.le_of_ble_eq_true rfl) ⟨Nat.le_of_ble_eq_true rfl, Nat.le_of_ble_eq_true rfl⟩ dL_matches_426 (fun H locs hW => ?_)
              refine lv_istore (lv' := [(4, .int (iI (msc M))), (3, .int (iI (sumZ (gnF M) u))), (2, .int (iI (sumZ (scF M) u))), (1, .int (iI (sumZ (mnF M) u))), (0, .ref o)]) hx hb dL_matches_429 hl (by decide) rfl (fun ls hl => ?_)
              refine lv_aload_n hx hb dL_matches_431 rfl (lv_at hl 4 rfl) ?_
              refine k_bipush hx hb dL_matches_432 (by decide +kernel) ?_
              refine q_call0 (As := [.int (iI 6)]) (rest := []) ⟨hx, hb, hml, hown, hts⟩ hGX hA (ck_ans (k_whole l D cy o M n K 6 (show 0 ≤ (6 : Int) ∧ (6 : Int) ≤ 10 from by omega)) (show whW M (6 : Int) = (mat M (M 8)).2.2.1 from wh_6 M)) gkL_matches_L_whole rfl ⟨rfl, rfl⟩ 2 rfl (by decide +kernel) ⟨Nat.le_of_ble_eq_true rfl, Nat.le_of_ble_eq_true rfl⟩ hW hl.1 rfl (Nat.le_of_ble_eq_true rfl) ⟨Nat.le_of_ble_eq_true rfl, Nat.le_of_ble_eq_true rfl⟩ dL_matches_434 (fun r_7 M_7 n_7 K_7 H locs hp hW => ?_)
              obtain ⟨rfl, rfl, rfl, rfl⟩ := hp
              refine lv_iload_n hx hb dL_matches_437 rfl (lv_at hl 3 rfl) ?_
              refine k_icmp_ne (tgt := 517) hx hb dL_matches_438 (by decide) (by omega) (by omega) (fun c_8 => ?_) (fun c_8 => ?_)
              · exfalso; omega
              · skip
                refine lv_aload_n hx hb dL_matches_441 rfl (lv_at hl 4 rfl) ?_
                refine k_bipush hx hb dL_matches_442 (by decide +kernel) ?_
                refine q_call0 (As := [.int (iI 7)]) (rest := []) ⟨hx, hb, hml, hown, hts⟩ hGX hA (ck_ans (k_whole l D cy o M n K 7 (show 0 ≤ (7 : Int) ∧ (7 : Int) ≤ 10 from by omega)) (show whW M (7 : Int) = (mat M (M 8)).2.2.2 from wh_7 M)) gkL_matches_L_whole rfl ⟨rfl, rfl⟩ 2 rfl (by decide +kernel) ⟨Nat.le_of_ble_eq_true rfl, Nat.le_of_ble_eq_true rfl⟩ hW hl.1 rfl (Nat.le_of_ble_eq_true rfl) ⟨Nat.le_of_ble_eq_true rfl, Nat.le_of_ble_eq_true rfl⟩ dL_matches_444 (fun r_9 M_9 n_9 K_9 H locs hp hW => ?_)
                obtain ⟨rfl, rfl, rfl, rfl⟩ := hp
                refine lv_iload_n hx hb dL_matches_447 rfl (lv_at hl 2 rfl) ?_
                refine k_icmp_ne (tgt := 517) hx hb dL_matches_448 (by decide) (by omega) (by omega) (fun c_10 => ?_) (fun c_10 => ?_)
                · exfalso; omega
                · skip
                  refine lv_aload_n hx hb dL_matches_451 rfl (lv_at hl 4 rfl) ?_
                  refine k_bipush hx hb dL_matches_452 (by decide +kernel) ?_
                  refine q_call0 (As := [.int (iI 8)]) (rest := []) ⟨hx, hb, hml, hown, hts⟩ hGX hA (ck_ans (k_whole l D cy o M n K 8 (show 0 ≤ (8 : Int) ∧ (8 : Int) ≤ 10 from by omega)) (show whW M (8 : Int) = sumZ (gnF M) (M 13) from wh_gn M)) gkL_matches_L_whole rfl ⟨rfl, rfl⟩ 2 rfl (by decide +kernel) ⟨Nat.le_of_ble_eq_true rfl, Nat.le_of_ble_eq_true rfl⟩ hW hl.1 rfl (Nat.le_of_ble_eq_true rfl) ⟨Nat.le_of_ble_eq_true rfl, Nat.le_of_ble_eq_true rfl⟩ dL_matches_454 (fun r_11 M_11 n_11 K_11 H locs hp hW => ?_)
                  obtain ⟨rfl, rfl, rfl, rfl⟩ := hp
                  refine lv_iload_n hx hb dL_matches_457 rfl (lv_at hl 1 rfl) ?_
                  refine k_icmp_ne (tgt := 517) hx hb dL_matches_458 (by decide) (by omega) (by omega) (fun c_12 => ?_) (fun c_12 => ?_)
                  · exfalso; omega
                  · skip
                    refine lv_aload_n hx hb dL_matches_461 rfl (lv_at hl 4 rfl) ?_
                    refine lv_iload_n hx hb dL_matches_462 rfl (lv_at hl 1 rfl) ?_
                    refine q_call0 (As := [.int (iI (sumZ (gnF M) u))]) (rest := []) ⟨hx, hb, hml, hown, hts⟩ hGX hA (ck_ans (k_missing l D cy o M n K (sumZ (gnF M) u) (show 0 ≤ (sumZ (gnF M) u) ∧ (sumZ (gnF M) u) ≤ 2147483647 from by omega)) (show misF M (sumZ (gnF M) u) = (-1000000000) from by rw [hue]; exact mis_end hS12.2.1)) gkL_matches_L_missing rfl ⟨rfl, rfl⟩ 2 rfl (by decide +kernel) ⟨Nat.le_of_ble_eq_true rfl, Nat.le_of_ble_eq_true rfl⟩ hW hl.1 rfl (Nat.le_of_ble_eq_true rfl) ⟨Nat.le_of_ble_eq_true rfl, Nat.le_of_ble_eq_true rfl⟩ dL_matches_463 (fun r_13 M_13 n_13 K_13 H locs hp hW => ?_)
                    obtain ⟨rfl, rfl, rfl, rfl⟩ := hp
                    refine k_ldc (z := (-1000000000)) hx hb hown hmw0 (by decide +kernel) dL_matches_466 ?_
                    refine k_icmp_ne (tgt := 517) hx hb dL_matches_468 (by decide) (by omega) (by omega) (fun c_14 => ?_) (fun c_14 => ?_)
                    · exfalso; omega
                    · skip
                      refine lv_iload_n hx hb dL_matches_471 rfl (lv_at hl 3 rfl) ?_
                      refine lv_aload_n hx hb dL_matches_472 rfl (lv_at hl 4 rfl) ?_
                      refine k_iconst hx hb dL_matches_473 ?_
                      refine q_call0 (As := [.int (iI 0)]) (rest := [.int (iI (sumZ (mnF M) u))]) ⟨hx, hb, hml, hown, hts⟩ hGX hA (ck_ans (k_whole l D cy o M n K 0 (show 0 ≤ (0 : Int) ∧ (0 : Int) ≤ 10 from by omega)) (show whW M (0 : Int) = M 12 from wh_0 M)) gkL_matches_L_whole rfl ⟨rfl, rfl⟩ 2 rfl (by decide +kernel) ⟨Nat.le_of_ble_eq_true rfl, Nat.le_of_ble_eq_true rfl⟩ hW hl.1 rfl (Nat.le_of_ble_eq_true rfl) ⟨Nat.le_of_ble_eq_true rfl, Nat.le_of_ble_eq_true rfl⟩ dL_matches_474 (fun r_15 M_15 n_15 K_15 H locs hp hW => ?_)
                      obtain ⟨rfl, rfl, rfl, rfl⟩ := hp
                      refine k_icmp_gt (tgt := 517) hx hb dL_matches_477 (by decide) (by omega) (by omega) (fun c_16 => ?_) (fun c_16 => ?_)
                      · exfalso; omega
                      · skip
                        refine lv_iload_n hx hb dL_matches_480 rfl (lv_at hl 3 rfl) ?_
                        refine lv_aload_n hx hb dL_matches_481 rfl (lv_at hl 4 rfl) ?_
                        refine k_iconst hx hb dL_matches_482 ?_
                        refine q_call0 (As := [.int (iI 1)]) (rest := [.int (iI (sumZ (mnF M) u))]) ⟨hx, hb, hml, hown, hts⟩ hGX hA (ck_ans (k_whole l D cy o M n K 1 (show 0 ≤ (1 : Int) ∧ (1 : Int) ≤ 10 from by omega)) (show whW M (1 : Int) = M 13 from wh_1 M)) gkL_matches_L_whole rfl ⟨rfl, rfl⟩ 2 rfl (by decide +kernel) ⟨Nat.le_of_ble_eq_true rfl, Nat.le_of_ble_eq_true rfl⟩ hW hl.1 rfl (Nat.le_of_ble_eq_true rfl) ⟨Nat.le_of_ble_eq_true rfl, Nat.le_of_ble_eq_true rfl⟩ dL_matches_483 (fun r_17 M_17 n_17 K_17 H locs hp hW => ?_)
                        obtain ⟨rfl, rfl, rfl, rfl⟩ := hp
                        refine k_icmp_gt (tgt := 517) hx hb dL_matches_486 (by decide) (by omega) (by omega) (fun c_18 => ?_) (fun c_18 => ?_)
                        · exfalso; omega
                        · skip
                          refine lv_iload hx hb dL_matches_489 (lv_at hl 0 rfl) ?_
                          refine k_ldc (z := (-1000000000)) hx hb hown hmw0 (by decide +kernel) dL_matches_491 ?_
                          have join501 : ∀ (z0 : Int) (jez0 : z0 = noF (msc M)) (ls : Array Slot) (hl : lv_has ls 11 [(4, .int (iI (msc M))), (3, .int (iI (sumZ (gnF M) u))), (2, .int (iI (sumZ (scF M) u))), (1, .int (iI (sumZ (mnF M) u))), (0, .ref o)]), W p l e { frames := 8, cells := 0, slots := 0, locals := 201 } s m ([.ref o] : List Value).toArray below meth c H locs 0 0 Q (F0 m 501 ls [.int (iI z0)]) := by
                            intro z0 jez0 ls hl
                            subst jez0
                            refine lv_iload_n hx hb dL_matches_501 rfl (lv_at hl 3 rfl) ?_
                            have join510 : ∀ (z0 : Int) (jez0 : z0 = zeF (sumZ (mnF M) u)) (ls : Array Slot) (hl : lv_has ls 11 [(4, .int (iI (msc M))), (3, .int (iI (sumZ (gnF M) u))), (2, .int (iI (sumZ (scF M) u))), (1, .int (iI (sumZ (mnF M) u))), (0, .ref o)]), W p l e { frames := 8, cells := 0, slots := 0, locals := 201 } s m ([.ref o] : List Value).toArray below meth c H locs 0 0 Q (F0 m 510 ls [.int (iI z0), .int (iI (noF (msc M)))]) := by
                              intro z0 jez0 ls hl
                              subst jez0
                              refine k_icmp_ne (tgt := 517) hx hb dL_matches_510 (by decide) (by omega) (by omega) (fun c_19 => ?_) (fun c_19 => ?_)
                              · exfalso; omega
                              · skip
                                refine k_iconst hx hb dL_matches_513 ?_
                                refine lv_goto (tgt := 518) hx hb dL_matches_514 (by decide) ?_
                                exact hret 1 _ _ _ H locs _ _ 518 ls (⟨rfl, rfl, rfl, rfl⟩) hW ⟨Nat.le_of_ble_eq_true rfl, Nat.le_of_ble_eq_true rfl⟩ (Or.inr ⟨rfl, Or.inr rfl⟩) dL_matches_518
                            refine k_if_ne (tgt := 509) hx hb dL_matches_502 (by decide) (by omega) (fun c_20 => ?_) (fun c_20 => ?_)
                            · skip
                              refine k_iconst hx hb dL_matches_509 ?_
                              exact join510 0 (by first | rfl | omega) ls (lv_sub hl [0, 1, 2, 3, 4] rfl)
                            · skip
                              refine k_iconst hx hb dL_matches_505 ?_
                              refine lv_goto (tgt := 510) hx hb dL_matches_506 (by decide) ?_
                              exact join510 1 (by first | rfl | omega) ls (lv_sub hl [0, 1, 2, 3, 4] rfl)
                          refine k_icmp_ne (tgt := 500) hx hb dL_matches_493 (by decide) (by omega) (by omega) (fun c_21 => ?_) (fun c_21 => ?_)
                          · skip
                            refine k_iconst hx hb dL_matches_500 ?_
                            exact join501 0 (by first | rfl | omega) ls (lv_sub hl [0, 1, 2, 3, 4] rfl)
                          · skip
                            refine k_iconst hx hb dL_matches_496 ?_
                            refine lv_goto (tgt := 501) hx hb dL_matches_497 (by decide) ?_
                            exact join501 1 (by first | rfl | omega) ls (lv_sub hl [0, 1, 2, 3, 4] rfl)
            · skip
              have hso9 := so_ok hI ht0 (show t < M 12 by omega)
              have hpt := inv_pts hI ht0 (show t < M 12 by omega)
              refine lv_aload_n hx hb dL_matches_237 rfl (lv_at hl 4 rfl) ?_
              refine lv_iload hx hb dL_matches_238 (lv_at hl 0 rfl) ?_
              refine k_bipush hx hb dL_matches_240 (by decide +kernel) ?_
              refine q_call0 (As := [.int (iI t), .int (iI 8)]) (rest := []) ⟨hx, hb, hml, hown, hts⟩ hGX hA (ck_ans (k_trail l D cy o M n K t 8 (show 0 ≤ t from by omega) (show t < M 12 from by omega) (show 0 ≤ (8 : Int) ∧ (8 : Int) ≤ 8 from by omega)) (show trV M (mat M (M 8)).1 t (8 : Int) = soF M t from tr_so M t)) gkL_matches_L_trail rfl ⟨rfl, rfl⟩ 3 rfl (by decide +kernel) ⟨Nat.le_of_ble_eq_true rfl, Nat.le_of_ble_eq_true rfl⟩ hW hl.1 rfl (Nat.le_of_ble_eq_true rfl) ⟨Nat.le_of_ble_eq_true rfl, Nat.le_of_ble_eq_true rfl⟩ dL_matches_242 (fun r_22 M_22 n_22 K_22 H locs hp hW => ?_)
              obtain ⟨rfl, rfl, rfl, rfl⟩ := hp
              refine lv_istore (lv' := [(5, .int (iI (soF M t))), (4, .int (iI t)), (3, .int (iI (sumZ (gnF M) u))), (2, .int (iI (sumZ (scF M) u))), (1, .int (iI (sumZ (mnF M) u))), (0, .ref o)]) hx hb dL_matches_245 hl (by decide) rfl (fun ls hl => ?_)
              refine lv_iload hx hb dL_matches_247 (lv_at hl 0 rfl) ?_
              refine k_ldc (z := (-1000000000)) hx hb hown hmw0 (by decide +kernel) dL_matches_249 ?_
              have join268 : ∀  (H : Heap) (locs : List Loc) (hW : OW D cy A0 s.heap o M n K H locs) (ls : Array Slot) (hl : lv_has ls 11 [(5, .int (iI (soF M t))), (4, .int (iI t)), (3, .int (iI (sumZ (gnF M) u))), (2, .int (iI (sumZ (scF M) u))), (1, .int (iI (sumZ (mnF M) u))), (0, .ref o)]), W p l e { frames := 8, cells := 0, slots := 0, locals := 201 } s m ([.ref o] : List Value).toArray below meth c H locs 0 0 Q (F0 m 268 ls []) := by
                intro H locs hW ls hl
                refine k_iconst hx hb dL_matches_268 ?_
                refine lv_istore (lv' := [(6, .int (iI 0)), (5, .int (iI (soF M t))), (4, .int (iI t)), (3, .int (iI (sumZ (gnF M) u))), (2, .int (iI (sumZ (scF M) u))), (1, .int (iI (sumZ (mnF M) u))), (0, .ref o)]) hx hb dL_matches_269 hl (by decide) rfl (fun ls hl => ?_)
                have loop271 : ∀ (j_23 : Nat) (v : Int) (hv0 : 0 ≤ v) (hv1 : v ≤ M 13) (hn271 : M 13 - v < (j_23 : Int)) (H : Heap) (locs : List Loc) (hW : OW D cy A0 s.heap o M n K H locs) (ls : Array Slot) (hl : lv_has ls 11 [(6, .int (iI v)), (5, .int (iI (soF M t))), (4, .int (iI t)), (3, .int (iI (sumZ (gnF M) u))), (2, .int (iI (sumZ (scF M) u))), (1, .int (iI (sumZ (mnF M) u))), (0, .ref o)]), W p l e { frames := 8, cells := 0, slots := 0, locals := 201 } s m ([.ref o] : List Value).toArray below meth c H locs 0 0 Q (F0 m 271 ls []) := by
                  intro j_23
                  induction j_23 with
                  | zero => intro v hv0 hv1 hn271 H locs hW ls hl; exfalso; omega
                  | succ j_23 ih271 =>
                    intro v hv0 hv1 hn271 H locs hW ls hl
                    refine lv_iload hx hb dL_matches_271 (lv_at hl 0 rfl) ?_
                    refine lv_aload_n hx hb dL_matches_273 rfl (lv_at hl 6 rfl) ?_
                    refine k_iconst hx hb dL_matches_274 ?_
                    refine q_call0 (As := [.int (iI 1)]) (rest := [.int (iI v)]) ⟨hx, hb, hml, hown, hts⟩ hGX hA (ck_ans (k_whole l D cy o M n K 1 (show 0 ≤ (1 : Int) ∧ (1 : Int) ≤ 10 from by omega)) (show whW M (1 : Int) = M 13 from wh_1 M)) gkL_matches_L_whole rfl ⟨rfl, rfl⟩ 2 rfl (by decide +kernel) ⟨Nat.le_of_ble_eq_true rfl, Nat.le_of_ble_eq_true rfl⟩ hW hl.1 rfl (Nat.le_of_ble_eq_true rfl) ⟨Nat.le_of_ble_eq_true rfl, Nat.le_of_ble_eq_true rfl⟩ dL_matches_275 (fun r_24 M_24 n_24 K_24 H locs hp hW => ?_)
                    obtain ⟨rfl, rfl, rfl, rfl⟩ := hp
                    refine k_icmp_ge (tgt := 419) hx hb dL_matches_278 (by decide) (by omega) (by omega) (fun c_25 => ?_) (fun c_25 => ?_)
                    · skip
                      refine lv_iinc (v := iI (t + 1)) (lv' := [(4, .int (iI (t + 1))), (6, .int (iI v)), (5, .int (iI (soF M t))), (3, .int (iI (sumZ (gnF M) u))), (2, .int (iI (sumZ (scF M) u))), (1, .int (iI (sumZ (mnF M) u))), (0, .ref o)]) hx hb dL_matches_419 hl (k := 2) rfl (iI_add _ _) (by decide) rfl (fun ls hl => ?_)
                      refine lv_goto (tgt := 227) hx hb dL_matches_422 (by decide) ?_
                      exact ih227 (t + 1)  (by omega) (by omega) (by omega) H locs hW ls (lv_sub hl [0, 3, 4, 5, 6] rfl)
                    · skip
                      have htv := ts_ok hI hv0 (show v < M 13 by omega)
                      have hpr := pr_sp hI ht0 (show t < M 12 by omega) hv0 (show v < M 13 by omega)
                      have hch := ch_sp M (prF M t v)
                      have htk := tk_sp M t v (prF M t v)
                      have hn1 := no_sp (prF M t v)
                      have hn2 := ze_sp (pts M t)
                      refine lv_aload_n hx hb dL_matches_281 rfl (lv_at hl 6 rfl) ?_
                      refine lv_iload hx hb dL_matches_282 (lv_at hl 2 rfl) ?_
                      refine lv_iload hx hb dL_matches_284 (lv_at hl 0 rfl) ?_
                      refine q_call0 (As := [.int (iI t), .int (iI v)]) (rest := []) ⟨hx, hb, hml, hown, hts⟩ hGX hA (k_cost_a l D cy o M n K t v (show 0 ≤ t from by omega) (show t < M 12 from by omega) (show 0 ≤ v from by omega) (show v < M 13 from by omega)) gkL_matches_L_cost rfl ⟨rfl, rfl⟩ 3 rfl (by decide +kernel) ⟨Nat.le_of_ble_eq_true rfl, Nat.le_of_ble_eq_true rfl⟩ hW hl.1 rfl (Nat.le_of_ble_eq_true rfl) ⟨Nat.le_of_ble_eq_true rfl, Nat.le_of_ble_eq_true rfl⟩ dL_matches_286 (fun r_26 M_26 n_26 K_26 H locs hp hW => ?_)
                      obtain ⟨rfl, rfl, rfl, rfl⟩ := hp
                      refine lv_istore (lv' := [(7, .int (iI (prF M t v))), (6, .int (iI v)), (5, .int (iI (soF M t))), (4, .int (iI t)), (3, .int (iI (sumZ (gnF M) u))), (2, .int (iI (sumZ (scF M) u))), (1, .int (iI (sumZ (mnF M) u))), (0, .ref o)]) hx hb dL_matches_289 hl (by decide) rfl (fun ls hl => ?_)
                      refine lv_aload_n hx hb dL_matches_291 rfl (lv_at hl 7 rfl) ?_
                      refine lv_iload hx hb dL_matches_292 (lv_at hl 1 rfl) ?_
                      refine k_iconst hx hb dL_matches_294 ?_
                      refine q_call0 (As := [.int (iI v), .int (iI 4)]) (rest := []) ⟨hx, hb, hml, hown, hts⟩ hGX hA (ck_ans (k_star l D cy o M n K v 4 (show 0 ≤ v from by omega) (show v < M 13 from by omega) (show 0 ≤ (4 : Int) ∧ (4 : Int) ≤ 6 from by omega)) (show stW M v (4 : Int) = tsF M v from st_4 M v)) gkL_matches_L_star rfl ⟨rfl, rfl⟩ 3 rfl (by decide +kernel) ⟨Nat.le_of_ble_eq_true rfl, Nat.le_of_ble_eq_true rfl⟩ hW hl.1 rfl (Nat.le_of_ble_eq_true rfl) ⟨Nat.le_of_ble_eq_true rfl, Nat.le_of_ble_eq_true rfl⟩ dL_matches_295 (fun r_27 M_27 n_27 K_27 H locs hp hW => ?_)
                      obtain ⟨rfl, rfl, rfl, rfl⟩ := hp
                      refine lv_istore (lv' := [(8, .int (iI (tsF M v))), (7, .int (iI (prF M t v))), (6, .int (iI v)), (5, .int (iI (soF M t))), (4, .int (iI t)), (3, .int (iI (sumZ (gnF M) u))), (2, .int (iI (sumZ (scF M) u))), (1, .int (iI (sumZ (mnF M) u))), (0, .ref o)]) hx hb dL_matches_298 hl (by decide) rfl (fun ls hl => ?_)
                      refine lv_iload hx hb dL_matches_300 (lv_at hl 1 rfl) ?_
                      refine k_ldc (z := (-1000000000)) hx hb hown hmw0 (by decide +kernel) dL_matches_302 ?_
                      have join322 : ∀ (z0 : Int) (jez0 : z0 = chF M (prF M t v)) (H : Heap) (locs : List Loc) (hW : OW D cy A0 s.heap o M n K H locs) (ls : Array Slot) (hl : lv_has ls 11 [(8, .int (iI (tsF M v))), (7, .int (iI (prF M t v))), (6, .int (iI v)), (5, .int (iI (soF M t))), (4, .int (iI t)), (3, .int (iI (sumZ (gnF M) u))), (2, .int (iI (sumZ (scF M) u))), (1, .int (iI (sumZ (mnF M) u))), (0, .ref o)]), W p l e { frames := 8, cells := 0, slots := 0, locals := 201 } s m ([.ref o] : List Value).toArray below meth c H locs 0 0 Q (F0 m 322 ls [.int (iI z0)]) := by
                        intro z0 jez0 H locs hW ls hl
                        subst jez0
                        refine lv_istore (lv' := [(9, .int (iI (chF M (prF M t v)))), (8, .int (iI (tsF M v))), (7, .int (iI (prF M t v))), (6, .int (iI v)), (5, .int (iI (soF M t))), (4, .int (iI t)), (3, .int (iI (sumZ (gnF M) u))), (2, .int (iI (sumZ (scF M) u))), (1, .int (iI (sumZ (mnF M) u))), (0, .ref o)]) hx hb dL_matches_322 hl (by decide) rfl (fun ls hl => ?_)
                        refine lv_iload hx hb dL_matches_324 (lv_at hl 4 rfl) ?_
                        refine k_ldc (z := (-1000000000)) hx hb hown hmw0 (by decide +kernel) dL_matches_326 ?_
                        have join369 : ∀ (z0 : Int) (jez0 : z0 = tkF M t v (prF M t v)) (H : Heap) (locs : List Loc) (hW : OW D cy A0 s.heap o M n K H locs) (ls : Array Slot) (hl : lv_has ls 11 [(9, .int (iI (chF M (prF M t v)))), (8, .int (iI (tsF M v))), (7, .int (iI (prF M t v))), (6, .int (iI v)), (5, .int (iI (soF M t))), (4, .int (iI t)), (3, .int (iI (sumZ (gnF M) u))), (2, .int (iI (sumZ (scF M) u))), (1, .int (iI (sumZ (mnF M) u))), (0, .ref o)]), W p l e { frames := 8, cells := 0, slots := 0, locals := 201 } s m ([.ref o] : List Value).toArray below meth c H locs 0 0 Q (F0 m 369 ls [.int (iI z0)]) := by
                          intro z0 jez0 H locs hW ls hl
                          subst jez0
                          refine lv_istore (lv' := [(10, .int (iI (tkF M t v (prF M t v)))), (9, .int (iI (chF M (prF M t v)))), (8, .int (iI (tsF M v))), (7, .int (iI (prF M t v))), (6, .int (iI v)), (5, .int (iI (soF M t))), (4, .int (iI t)), (3, .int (iI (sumZ (gnF M) u))), (2, .int (iI (sumZ (scF M) u))), (1, .int (iI (sumZ (mnF M) u))), (0, .ref o)]) hx hb dL_matches_369 hl (by decide) rfl (fun ls hl => ?_)
                          refine lv_iload hx hb dL_matches_371 (lv_at hl 3 rfl) ?_
                          refine k_ldc (z := (-1000000000)) hx hb hown hmw0 (by decide +kernel) dL_matches_373 ?_
                          have join383 : ∀ (z0 : Int) (jez0 : z0 = noF (prF M t v)) (ls : Array Slot) (hl : lv_has ls 11 [(10, .int (iI (tkF M t v (prF M t v)))), (9, .int (iI (chF M (prF M t v)))), (8, .int (iI (tsF M v))), (7, .int (iI (prF M t v))), (6, .int (iI v)), (5, .int (iI (soF M t))), (4, .int (iI t)), (3, .int (iI (sumZ (gnF M) u))), (2, .int (iI (sumZ (scF M) u))), (1, .int (iI (sumZ (mnF M) u))), (0, .ref o)]), W p l e { frames := 8, cells := 0, slots := 0, locals := 201 } s m ([.ref o] : List Value).toArray below meth c H locs 0 0 Q (F0 m 383 ls [.int (iI z0)]) := by
                            intro z0 jez0 ls hl
                            subst jez0
                            refine lv_aload_n hx hb dL_matches_383 rfl (lv_at hl 10 rfl) ?_
                            refine lv_iload hx hb dL_matches_384 (lv_at hl 6 rfl) ?_
                            refine k_iconst hx hb dL_matches_386 ?_
                            refine q_call0 (As := [.int (iI t), .int (iI 0)]) (rest := [.int (iI (noF (prF M t v)))]) ⟨hx, hb, hml, hown, hts⟩ hGX hA (ck_ans (k_trail l D cy o M n K t 0 (show 0 ≤ t from by omega) (show t < M 12 from by omega) (show 0 ≤ (0 : Int) ∧ (0 : Int) ≤ 8 from by omega)) (show trV M (mat M (M 8)).1 t (0 : Int) = pts M t from tr_0 M _ t)) gkL_matches_L_trail rfl ⟨rfl, rfl⟩ 3 rfl (by decide +kernel) ⟨Nat.le_of_ble_eq_true rfl, Nat.le_of_ble_eq_true rfl⟩ hW hl.1 rfl (Nat.le_of_ble_eq_true rfl) ⟨Nat.le_of_ble_eq_true rfl, Nat.le_of_ble_eq_true rfl⟩ dL_matches_387 (fun r_28 M_28 n_28 K_28 H locs hp hW => ?_)
                            obtain ⟨rfl, rfl, rfl, rfl⟩ := hp
                            have join398 : ∀ (z0 : Int) (jez0 : z0 = zeF (pts M t)) (ls : Array Slot) (hl : lv_has ls 11 [(10, .int (iI (tkF M t v (prF M t v)))), (9, .int (iI (chF M (prF M t v)))), (8, .int (iI (tsF M v))), (7, .int (iI (prF M t v))), (6, .int (iI v)), (5, .int (iI (soF M t))), (4, .int (iI t)), (3, .int (iI (sumZ (gnF M) u))), (2, .int (iI (sumZ (scF M) u))), (1, .int (iI (sumZ (mnF M) u))), (0, .ref o)]), W p l e { frames := 8, cells := 0, slots := 0, locals := 201 } s m ([.ref o] : List Value).toArray below meth c H locs 0 0 Q (F0 m 398 ls [.int (iI z0), .int (iI (noF (prF M t v)))]) := by
                              intro z0 jez0 ls hl
                              subst jez0
                              refine k_icmp_ne (tgt := 411) hx hb dL_matches_398 (by decide) (by omega) (by omega) (fun c_29 => ?_) (fun c_29 => ?_)
                              · exfalso; omega
                              · skip
                                refine lv_iload hx hb dL_matches_401 (lv_at hl 1 rfl) ?_
                                have join413 : ∀   (ls : Array Slot) (hl : lv_has ls 11 [(10, .int (iI (tkF M t v (prF M t v)))), (9, .int (iI (chF M (prF M t v)))), (8, .int (iI (tsF M v))), (7, .int (iI (prF M t v))), (6, .int (iI v)), (5, .int (iI (soF M t))), (4, .int (iI t)), (3, .int (iI (sumZ (gnF M) u))), (2, .int (iI (sumZ (scF M) u))), (1, .int (iI (sumZ (mnF M) u))), (0, .ref o)]), W p l e { frames := 8, cells := 0, slots := 0, locals := 201 } s m ([.ref o] : List Value).toArray below meth c H locs 0 0 Q (F0 m 413 ls []) := by
                                  intro ls hl
                                  refine lv_iinc (v := iI (v + 1)) (lv' := [(6, .int (iI (v + 1))), (10, .int (iI (tkF M t v (prF M t v)))), (9, .int (iI (chF M (prF M t v)))), (8, .int (iI (tsF M v))), (7, .int (iI (prF M t v))), (5, .int (iI (soF M t))), (4, .int (iI t)), (3, .int (iI (sumZ (gnF M) u))), (2, .int (iI (sumZ (scF M) u))), (1, .int (iI (sumZ (mnF M) u))), (0, .ref o)]) hx hb dL_matches_413 hl (k := 4) rfl (iI_add _ _) (by decide) rfl (fun ls hl => ?_)
                                  refine lv_goto (tgt := 271) hx hb dL_matches_416 (by decide) ?_
                                  exact ih271 (v + 1)  (by omega) (by omega) (by omega) H locs hW ls (lv_sub hl [0, 5, 6, 7, 8, 9, 10] rfl)
                                refine k_if_eq (tgt := 413) hx hb dL_matches_403 (by decide) (by omega) (fun c_30 => ?_) (fun c_30 => ?_)
                                · skip
                                  exact join413   ls (lv_sub hl [0, 1, 2, 3, 4, 5, 6, 7, 8, 9, 10] rfl)
                                · skip
                                  have hgr := mat_gr hI ht0 (show t < M 12 by omega) (by omega) hv0 (show v < M 13 by omega) (by omega)
                                  refine lv_iload hx hb dL_matches_406 (lv_at hl 0 rfl) ?_
                                  refine k_if_ne (tgt := 413) hx hb dL_matches_408 (by decide) (by omega) (fun c_31 => ?_) (fun c_31 => ?_)
                                  · skip
                                    exact join413   ls (lv_sub hl [0, 1, 2, 3, 4, 5, 6, 7, 8, 9, 10] rfl)
                                  · exfalso; omega
                            refine k_if_ne (tgt := 397) hx hb dL_matches_390 (by decide) (by omega) (fun c_32 => ?_) (fun c_32 => ?_)
                            · skip
                              refine k_iconst hx hb dL_matches_397 ?_
                              exact join398 0 (by first | rfl | omega) ls (lv_sub hl [0, 1, 2, 3, 4, 5, 6, 7, 8, 9, 10] rfl)
                            · skip
                              refine k_iconst hx hb dL_matches_393 ?_
                              refine lv_goto (tgt := 398) hx hb dL_matches_394 (by decide) ?_
                              exact join398 1 (by first | rfl | omega) ls (lv_sub hl [0, 1, 2, 3, 4, 5, 6, 7, 8, 9, 10] rfl)
                          refine k_icmp_ne (tgt := 382) hx hb dL_matches_375 (by decide) (by omega) (by omega) (fun c_33 => ?_) (fun c_33 => ?_)
                          · skip
                            refine k_iconst hx hb dL_matches_382 ?_
                            exact join383 0 (by first | rfl | omega) ls (lv_sub hl [0, 1, 2, 3, 4, 5, 6, 7, 8, 9, 10] rfl)
                          · skip
                            refine k_iconst hx hb dL_matches_378 ?_
                            refine lv_goto (tgt := 383) hx hb dL_matches_379 (by decide) ?_
                            exact join383 1 (by first | rfl | omega) ls (lv_sub hl [0, 1, 2, 3, 4, 5, 6, 7, 8, 9, 10] rfl)
                        refine k_icmp_eq (tgt := 344) hx hb dL_matches_328 (by decide) (by omega) (by omega) (fun c_34 => ?_) (fun c_34 => ?_)
                        · skip
                          refine lv_iload hx hb dL_matches_344 (lv_at hl 1 rfl) ?_
                          refine k_ldc (z := (-1000000000)) hx hb hown hmw0 (by decide +kernel) dL_matches_346 ?_
                          refine k_icmp_eq (tgt := 368) hx hb dL_matches_348 (by decide) (by omega) (by omega) (fun c_35 => ?_) (fun c_35 => ?_)
                          · skip
                            refine k_iconst hx hb dL_matches_368 ?_
                            exact join369 0 (by first | rfl | omega) H locs hW ls (lv_sub hl [0, 1, 2, 3, 4, 5, 6, 7, 8, 9] rfl)
                          · skip
                            have hcb2 := (inv_cst hI (M 8) (show 0 ≤ tsF M v by omega) (show tsF M v < M 12 by omega) (by omega) hv0 (show v < M 13 by omega)).2.2
                            refine lv_aload_n hx hb dL_matches_351 rfl (lv_at hl 9 rfl) ?_
                            refine lv_iload hx hb dL_matches_352 (lv_at hl 1 rfl) ?_
                            refine lv_iload hx hb dL_matches_354 (lv_at hl 3 rfl) ?_
                            refine q_call0 (As := [.int (iI (tsF M v)), .int (iI v)]) (rest := []) ⟨hx, hb, hml, hown, hts⟩ hGX hA (k_cost l D cy o M n K (tsF M v) v (show 0 ≤ (tsF M v) from by omega) (show (tsF M v) < M 12 from by omega) (show 0 < pts M (tsF M v) from by omega) (show 0 ≤ v from by omega) (show v < M 13 from by omega)) gkL_matches_L_cost rfl ⟨rfl, rfl⟩ 3 rfl (by decide +kernel) ⟨Nat.le_of_ble_eq_true rfl, Nat.le_of_ble_eq_true rfl⟩ hW hl.1 rfl (Nat.le_of_ble_eq_true rfl) ⟨Nat.le_of_ble_eq_true rfl, Nat.le_of_ble_eq_true rfl⟩ dL_matches_356 (fun r_36 M_36 n_36 K_36 H locs hp hW => ?_)
                            obtain ⟨rfl, rfl, rfl, rfl⟩ := hp
                            refine lv_iload hx hb dL_matches_359 (lv_at hl 2 rfl) ?_
                            refine k_icmp_gt (tgt := 368) hx hb dL_matches_361 (by decide) (by omega) (by omega) (fun c_37 => ?_) (fun c_37 => ?_)
                            · skip
                              refine k_iconst hx hb dL_matches_368 ?_
                              exact join369 0 (by first | rfl | omega) H locs hW ls (lv_sub hl [0, 1, 2, 3, 4, 5, 6, 7, 8, 9] rfl)
                            · skip
                              refine k_iconst hx hb dL_matches_364 ?_
                              refine lv_goto (tgt := 369) hx hb dL_matches_365 (by decide) ?_
                              exact join369 1 (by first | rfl | omega) H locs hW ls (lv_sub hl [0, 1, 2, 3, 4, 5, 6, 7, 8, 9] rfl)
                        · skip
                          have hcb := (inv_cst hI (M 8) ht0 (show t < M 12 by omega) (by omega) (show 0 ≤ soF M t by omega) (show soF M t < M 13 by omega)).2.2
                          refine lv_aload_n hx hb dL_matches_331 rfl (lv_at hl 9 rfl) ?_
                          refine lv_iload hx hb dL_matches_332 (lv_at hl 5 rfl) ?_
                          refine lv_iload hx hb dL_matches_334 (lv_at hl 4 rfl) ?_
                          refine q_call0 (As := [.int (iI t), .int (iI (soF M t))]) (rest := []) ⟨hx, hb, hml, hown, hts⟩ hGX hA (k_cost l D cy o M n K t (soF M t) (show 0 ≤ t from by omega) (show t < M 12 from by omega) (show 0 < pts M t from by omega) (show 0 ≤ (soF M t) from by omega) (show (soF M t) < M 13 from by omega)) gkL_matches_L_cost rfl ⟨rfl, rfl⟩ 3 rfl (by decide +kernel) ⟨Nat.le_of_ble_eq_true rfl, Nat.le_of_ble_eq_true rfl⟩ hW hl.1 rfl (Nat.le_of_ble_eq_true rfl) ⟨Nat.le_of_ble_eq_true rfl, Nat.le_of_ble_eq_true rfl⟩ dL_matches_336 (fun r_38 M_38 n_38 K_38 H locs hp hW => ?_)
                          obtain ⟨rfl, rfl, rfl, rfl⟩ := hp
                          refine lv_iload hx hb dL_matches_339 (lv_at hl 2 rfl) ?_
                          refine k_icmp_le (tgt := 364) hx hb dL_matches_341 (by decide) (by omega) (by omega) (fun c_39 => ?_) (fun c_39 => ?_)
                          · skip
                            refine k_iconst hx hb dL_matches_364 ?_
                            refine lv_goto (tgt := 369) hx hb dL_matches_365 (by decide) ?_
                            exact join369 1 (by first | rfl | omega) H locs hW ls (lv_sub hl [0, 1, 2, 3, 4, 5, 6, 7, 8, 9] rfl)
                          · skip
                            refine lv_iload hx hb dL_matches_344 (lv_at hl 1 rfl) ?_
                            refine k_ldc (z := (-1000000000)) hx hb hown hmw0 (by decide +kernel) dL_matches_346 ?_
                            refine k_icmp_eq (tgt := 368) hx hb dL_matches_348 (by decide) (by omega) (by omega) (fun c_40 => ?_) (fun c_40 => ?_)
                            · skip
                              refine k_iconst hx hb dL_matches_368 ?_
                              exact join369 0 (by first | rfl | omega) H locs hW ls (lv_sub hl [0, 1, 2, 3, 4, 5, 6, 7, 8, 9] rfl)
                            · skip
                              have hcb2 := (inv_cst hI (M 8) (show 0 ≤ tsF M v by omega) (show tsF M v < M 12 by omega) (by omega) hv0 (show v < M 13 by omega)).2.2
                              refine lv_aload_n hx hb dL_matches_351 rfl (lv_at hl 9 rfl) ?_
                              refine lv_iload hx hb dL_matches_352 (lv_at hl 1 rfl) ?_
                              refine lv_iload hx hb dL_matches_354 (lv_at hl 3 rfl) ?_
                              refine q_call0 (As := [.int (iI (tsF M v)), .int (iI v)]) (rest := []) ⟨hx, hb, hml, hown, hts⟩ hGX hA (k_cost l D cy o M n K (tsF M v) v (show 0 ≤ (tsF M v) from by omega) (show (tsF M v) < M 12 from by omega) (show 0 < pts M (tsF M v) from by omega) (show 0 ≤ v from by omega) (show v < M 13 from by omega)) gkL_matches_L_cost rfl ⟨rfl, rfl⟩ 3 rfl (by decide +kernel) ⟨Nat.le_of_ble_eq_true rfl, Nat.le_of_ble_eq_true rfl⟩ hW hl.1 rfl (Nat.le_of_ble_eq_true rfl) ⟨Nat.le_of_ble_eq_true rfl, Nat.le_of_ble_eq_true rfl⟩ dL_matches_356 (fun r_41 M_41 n_41 K_41 H locs hp hW => ?_)
                              obtain ⟨rfl, rfl, rfl, rfl⟩ := hp
                              refine lv_iload hx hb dL_matches_359 (lv_at hl 2 rfl) ?_
                              refine k_icmp_gt (tgt := 368) hx hb dL_matches_361 (by decide) (by omega) (by omega) (fun c_42 => ?_) (fun c_42 => ?_)
                              · skip
                                refine k_iconst hx hb dL_matches_368 ?_
                                exact join369 0 (by first | rfl | omega) H locs hW ls (lv_sub hl [0, 1, 2, 3, 4, 5, 6, 7, 8, 9] rfl)
                              · skip
                                refine k_iconst hx hb dL_matches_364 ?_
                                refine lv_goto (tgt := 369) hx hb dL_matches_365 (by decide) ?_
                                exact join369 1 (by first | rfl | omega) H locs hW ls (lv_sub hl [0, 1, 2, 3, 4, 5, 6, 7, 8, 9] rfl)
                      refine k_icmp_eq (tgt := 321) hx hb dL_matches_304 (by decide) (by omega) (by omega) (fun c_43 => ?_) (fun c_43 => ?_)
                      · skip
                        refine k_iconst hx hb dL_matches_321 ?_
                        exact join322 0 (by first | rfl | omega) H locs hW ls (lv_sub hl [0, 1, 2, 3, 4, 5, 6, 7, 8] rfl)
                      · skip
                        refine lv_iload hx hb dL_matches_307 (lv_at hl 1 rfl) ?_
                        refine lv_aload_n hx hb dL_matches_309 rfl (lv_at hl 8 rfl) ?_
                        refine k_iconst hx hb dL_matches_310 ?_
                        refine q_call0 (As := [.int (iI 5)]) (rest := [.int (iI (prF M t v))]) ⟨hx, hb, hml, hown, hts⟩ hGX hA (k_setting l D cy o M n K 5 (show 0 ≤ (5 : Int) ∧ (5 : Int) ≤ 9 from by omega)) gkL_matches_L_setting rfl ⟨rfl, rfl⟩ 2 rfl (by decide +kernel) ⟨Nat.le_of_ble_eq_true rfl, Nat.le_of_ble_eq_true rfl⟩ hW hl.1 rfl (Nat.le_of_ble_eq_true rfl) ⟨Nat.le_of_ble_eq_true rfl, Nat.le_of_ble_eq_true rfl⟩ dL_matches_311 (fun r_44 M_44 n_44 K_44 H locs hp hW => ?_)
                        obtain ⟨rfl, rfl, rfl, rfl⟩ := hp
                        refine k_icmp_gt (tgt := 321) hx hb dL_matches_314 (by decide) (by omega) (by omega) (fun c_45 => ?_) (fun c_45 => ?_)
                        · skip
                          refine k_iconst hx hb dL_matches_321 ?_
                          exact join322 0 (by first | rfl | omega) H locs hW ls (lv_sub hl [0, 1, 2, 3, 4, 5, 6, 7, 8] rfl)
                        · skip
                          refine k_iconst hx hb dL_matches_317 ?_
                          refine lv_goto (tgt := 322) hx hb dL_matches_318 (by decide) ?_
                          exact join322 1 (by first | rfl | omega) H locs hW ls (lv_sub hl [0, 1, 2, 3, 4, 5, 6, 7, 8] rfl)
                exact loop271 ((M 13 - 0 : Int) + 1).toNat 0  (by omega) (by omega) (by omega) H locs hW ls (lv_sub hl [0, 1, 2, 3, 4, 5, 6] rfl)
              refine k_icmp_eq (tgt := 268) hx hb dL_matches_251 (by decide) (by omega) (by omega) (fun c_46 => ?_) (fun c_46 => ?_)
              · skip
                exact join268   H locs hW ls (lv_sub hl [0, 1, 2, 3, 4, 5] rfl)
              · skip
                refine lv_aload_n hx hb dL_matches_254 rfl (lv_at hl 5 rfl) ?_
                refine lv_iload hx hb dL_matches_255 (lv_at hl 0 rfl) ?_
                refine k_iconst hx hb dL_matches_257 ?_
                refine q_call0 (As := [.int (iI (soF M t)), .int (iI 4)]) (rest := []) ⟨hx, hb, hml, hown, hts⟩ hGX hA (ck_ans (k_star l D cy o M n K (soF M t) 4 (show 0 ≤ (soF M t) from by omega) (show (soF M t) < M 13 from by omega) (show 0 ≤ (4 : Int) ∧ (4 : Int) ≤ 6 from by omega)) (show stW M (soF M t) (4 : Int) = tsF M (soF M t) from st_4 M (soF M t))) gkL_matches_L_star rfl ⟨rfl, rfl⟩ 3 rfl (by decide +kernel) ⟨Nat.le_of_ble_eq_true rfl, Nat.le_of_ble_eq_true rfl⟩ hW hl.1 rfl (Nat.le_of_ble_eq_true rfl) ⟨Nat.le_of_ble_eq_true rfl, Nat.le_of_ble_eq_true rfl⟩ dL_matches_258 (fun r_47 M_47 n_47 K_47 H locs hp hW => ?_)
                obtain ⟨rfl, rfl, rfl, rfl⟩ := hp
                refine lv_iload hx hb dL_matches_261 (lv_at hl 1 rfl) ?_
                refine k_icmp_eq (tgt := 268) hx hb dL_matches_263 (by decide) (by omega) (by omega) (fun c_48 => ?_) (fun c_48 => ?_)
                · skip
                  exact join268   H locs hW ls (lv_sub hl [0, 1, 2, 3, 4, 5] rfl)
                · exfalso; omega
        exact loop227 ((M 12 - 0 : Int) + 1).toNat 0  (by omega) (by omega) (by omega) H locs hW ls (lv_sub hl [0, 1, 2, 3, 4] rfl)
      · skip
        have hts9 := ts_ok hI hi0 (show u < M 13 by omega)
        have hmn := mn_sp M u
        have hsc := sc_sp M u
        have hgn := gn_sp M u
        have hg01 := gn_01 M u
        have hcm := mc_bd hI (show 0 ≤ u + 1 by omega) (show u + 1 ≤ M 13 by omega)
        have hst3 := (hI.2.2 u hi0 (show u < M 13 by omega)).2.2
        refine lv_aload_n hx hb dL_matches_19 rfl (lv_at hl 4 rfl) ?_
        refine lv_iload hx hb dL_matches_20 (lv_at hl 0 rfl) ?_
        refine k_iconst hx hb dL_matches_22 ?_
        refine q_call0 (As := [.int (iI u), .int (iI 4)]) (rest := []) ⟨hx, hb, hml, hown, hts⟩ hGX hA (ck_ans (k_star l D cy o M n K u 4 (show 0 ≤ u from by omega) (show u < M 13 from by omega) (show 0 ≤ (4 : Int) ∧ (4 : Int) ≤ 6 from by omega)) (show stW M u (4 : Int) = tsF M u from st_4 M u)) gkL_matches_L_star rfl ⟨rfl, rfl⟩ 3 rfl (by decide +kernel) ⟨Nat.le_of_ble_eq_true rfl, Nat.le_of_ble_eq_true rfl⟩ hW hl.1 rfl (Nat.le_of_ble_eq_true rfl) ⟨Nat.le_of_ble_eq_true rfl, Nat.le_of_ble_eq_true rfl⟩ dL_matches_23 (fun r_49 M_49 n_49 K_49 H locs hp hW => ?_)
        obtain ⟨rfl, rfl, rfl, rfl⟩ := hp
        refine lv_istore (lv' := [(5, .int (iI (tsF M u))), (4, .int (iI u)), (3, .int (iI (sumZ (gnF M) u))), (2, .int (iI (sumZ (scF M) u))), (1, .int (iI (sumZ (mnF M) u))), (0, .ref o)]) hx hb dL_matches_26 hl (by decide) rfl (fun ls hl => ?_)
        refine lv_iload_n hx hb dL_matches_28 rfl (lv_at hl 4 rfl) ?_
        refine lv_iload hx hb dL_matches_29 (lv_at hl 0 rfl) ?_
        refine k_ldc (z := (-1000000000)) hx hb hown hmw0 (by decide +kernel) dL_matches_31 ?_
        have join41 : ∀ (z0 : Int) (jez0 : z0 = mnF M u) (ls : Array Slot) (hl : lv_has ls 11 [(5, .int (iI (tsF M u))), (4, .int (iI u)), (3, .int (iI (sumZ (gnF M) u))), (2, .int (iI (sumZ (scF M) u))), (1, .int (iI (sumZ (mnF M) u))), (0, .ref o)]), W p l e { frames := 8, cells := 0, slots := 0, locals := 201 } s m ([.ref o] : List Value).toArray below meth c H locs 0 0 Q (F0 m 41 ls [.int (iI z0), .int (iI (sumZ (mnF M) u))]) := by
          intro z0 jez0 ls hl
          subst jez0
          refine k_iadd hx hb dL_matches_41 ?_
          refine lv_istore_n (lv' := [(1, .int (iI ((sumZ (mnF M) u) + (mnF M u)))), (5, .int (iI (tsF M u))), (4, .int (iI u)), (3, .int (iI (sumZ (gnF M) u))), (2, .int (iI (sumZ (scF M) u))), (0, .ref o)]) hx hb dL_matches_42 rfl hl (by decide) rfl (fun ls hl => ?_)
          refine lv_iload_n hx hb dL_matches_43 rfl (lv_at hl 4 rfl) ?_
          refine lv_iload hx hb dL_matches_44 (lv_at hl 1 rfl) ?_
          refine k_ldc (z := (-1000000000)) hx hb hown hmw0 (by decide +kernel) dL_matches_46 ?_
          have join62 : ∀ (z0 : Int) (jez0 : z0 = scF M u) (H : Heap) (locs : List Loc) (hW : OW D cy A0 s.heap o M n K H locs) (ls : Array Slot) (hl : lv_has ls 11 [(1, .int (iI ((sumZ (mnF M) u) + (mnF M u)))), (5, .int (iI (tsF M u))), (4, .int (iI u)), (3, .int (iI (sumZ (gnF M) u))), (2, .int (iI (sumZ (scF M) u))), (0, .ref o)]), W p l e { frames := 8, cells := 0, slots := 0, locals := 201 } s m ([.ref o] : List Value).toArray below meth c H locs 0 0 Q (F0 m 62 ls [.int (iI z0), .int (iI (sumZ (scF M) u))]) := by
            intro z0 jez0 H locs hW ls hl
            subst jez0
            refine k_iadd hx hb dL_matches_62 ?_
            refine lv_istore_n (lv' := [(2, .int (iI ((sumZ (scF M) u) + (scF M u)))), (1, .int (iI ((sumZ (mnF M) u) + (mnF M u)))), (5, .int (iI (tsF M u))), (4, .int (iI u)), (3, .int (iI (sumZ (gnF M) u))), (0, .ref o)]) hx hb dL_matches_63 rfl hl (by decide) rfl (fun ls hl => ?_)
            refine lv_iload hx hb dL_matches_64 (lv_at hl 2 rfl) ?_
            refine k_ldc (z := (-1000000000)) hx hb hown hmw0 (by decide +kernel) dL_matches_66 ?_
            have join92 : ∀ (z0 : Int) (jez0 : z0 = gnF M u) (H : Heap) (locs : List Loc) (hW : OW D cy A0 s.heap o M n K H locs) (ls : Array Slot) (hl : lv_has ls 11 [(2, .int (iI ((sumZ (scF M) u) + (scF M u)))), (1, .int (iI ((sumZ (mnF M) u) + (mnF M u)))), (5, .int (iI (tsF M u))), (4, .int (iI u)), (3, .int (iI (sumZ (gnF M) u))), (0, .ref o)]), W p l e { frames := 8, cells := 0, slots := 0, locals := 201 } s m ([.ref o] : List Value).toArray below meth c H locs 0 0 Q (F0 m 92 ls [.int (iI z0)]) := by
              intro z0 jez0 H locs hW ls hl
              subst jez0
              refine lv_istore (lv' := [(6, .int (iI (gnF M u))), (2, .int (iI ((sumZ (scF M) u) + (scF M u)))), (1, .int (iI ((sumZ (mnF M) u) + (mnF M u)))), (5, .int (iI (tsF M u))), (4, .int (iI u)), (3, .int (iI (sumZ (gnF M) u))), (0, .ref o)]) hx hb dL_matches_92 hl (by decide) rfl (fun ls hl => ?_)
              refine lv_iload hx hb dL_matches_94 (lv_at hl 3 rfl) ?_
              refine k_ldc (z := (-1000000000)) hx hb hown hmw0 (by decide +kernel) dL_matches_96 ?_
              have join147 : ∀  (H : Heap) (locs : List Loc) (hW : OW D cy A0 s.heap o M n K H locs) (ls : Array Slot) (hl : lv_has ls 11 [(6, .int (iI (gnF M u))), (2, .int (iI ((sumZ (scF M) u) + (scF M u)))), (1, .int (iI ((sumZ (mnF M) u) + (mnF M u)))), (5, .int (iI (tsF M u))), (4, .int (iI u)), (3, .int (iI (sumZ (gnF M) u))), (0, .ref o)]), W p l e { frames := 8, cells := 0, slots := 0, locals := 201 } s m ([.ref o] : List Value).toArray below meth c H locs 0 0 Q (F0 m 147 ls []) := by
                intro H locs hW ls hl
                refine lv_iload hx hb dL_matches_147 (lv_at hl 3 rfl) ?_
                refine k_ldc (z := (-1000000000)) hx hb hown hmw0 (by decide +kernel) dL_matches_149 ?_
                have join166 : ∀  (H : Heap) (locs : List Loc) (hW : OW D cy A0 s.heap o M n K H locs) (ls : Array Slot) (hl : lv_has ls 11 [(6, .int (iI (gnF M u))), (2, .int (iI ((sumZ (scF M) u) + (scF M u)))), (1, .int (iI ((sumZ (mnF M) u) + (mnF M u)))), (5, .int (iI (tsF M u))), (4, .int (iI u)), (3, .int (iI (sumZ (gnF M) u))), (0, .ref o)]), W p l e { frames := 8, cells := 0, slots := 0, locals := 201 } s m ([.ref o] : List Value).toArray below meth c H locs 0 0 Q (F0 m 166 ls []) := by
                  intro H locs hW ls hl
                  refine lv_aload_n hx hb dL_matches_166 rfl (lv_at hl 6 rfl) ?_
                  refine lv_iload hx hb dL_matches_167 (lv_at hl 4 rfl) ?_
                  refine k_bipush hx hb dL_matches_169 (by decide +kernel) ?_
                  refine q_call0 (As := [.int (iI u), .int (iI 6)]) (rest := []) ⟨hx, hb, hml, hown, hts⟩ hGX hA (ck_ans (k_star l D cy o M n K u 6 (show 0 ≤ u from by omega) (show u < M 13 from by omega) (show 0 ≤ (6 : Int) ∧ (6 : Int) ≤ 6 from by omega)) (show stW M u (6 : Int) = gnF M u from st_6 M u)) gkL_matches_L_star rfl ⟨rfl, rfl⟩ 3 rfl (by decide +kernel) ⟨Nat.le_of_ble_eq_true rfl, Nat.le_of_ble_eq_true rfl⟩ hW hl.1 rfl (Nat.le_of_ble_eq_true rfl) ⟨Nat.le_of_ble_eq_true rfl, Nat.le_of_ble_eq_true rfl⟩ dL_matches_171 (fun r_50 M_50 n_50 K_50 H locs hp hW => ?_)
                  obtain ⟨rfl, rfl, rfl, rfl⟩ := hp
                  refine k_iconst hx hb dL_matches_174 ?_
                  have join183 : ∀ (z0 : Int) (jez0 : z0 = gnF M u) (ls : Array Slot) (hl : lv_has ls 11 [(6, .int (iI (gnF M u))), (2, .int (iI ((sumZ (scF M) u) + (scF M u)))), (1, .int (iI ((sumZ (mnF M) u) + (mnF M u)))), (5, .int (iI (tsF M u))), (4, .int (iI u)), (3, .int (iI (sumZ (gnF M) u))), (0, .ref o)]), W p l e { frames := 8, cells := 0, slots := 0, locals := 201 } s m ([.ref o] : List Value).toArray below meth c H locs 0 0 Q (F0 m 183 ls [.int (iI z0)]) := by
                    intro z0 jez0 ls hl
                    subst jez0
                    refine lv_iload hx hb dL_matches_183 (lv_at hl 0 rfl) ?_
                    refine k_icmp_ne (tgt := 203) hx hb dL_matches_185 (by decide) (by omega) (by omega) (fun c_51 => ?_) (fun c_51 => ?_)
                    · exfalso; omega
                    · skip
                      refine lv_iload hx hb dL_matches_188 (lv_at hl 0 rfl) ?_
                      have join205 : ∀  (H : Heap) (locs : List Loc) (hW : OW D cy A0 s.heap o M n K H locs) (ls : Array Slot) (hl : lv_has ls 11 [(6, .int (iI (gnF M u))), (2, .int (iI ((sumZ (scF M) u) + (scF M u)))), (1, .int (iI ((sumZ (mnF M) u) + (mnF M u)))), (5, .int (iI (tsF M u))), (4, .int (iI u)), (3, .int (iI (sumZ (gnF M) u))), (0, .ref o)]), W p l e { frames := 8, cells := 0, slots := 0, locals := 201 } s m ([.ref o] : List Value).toArray below meth c H locs 0 0 Q (F0 m 205 ls []) := by
                        intro H locs hW ls hl
                        refine lv_iload_n hx hb dL_matches_205 rfl (lv_at hl 5 rfl) ?_
                        refine lv_iload hx hb dL_matches_206 (lv_at hl 0 rfl) ?_
                        have join216 : ∀ (z0 : Int) (jez0 : z0 = gnF M u) (ls : Array Slot) (hl : lv_has ls 11 [(6, .int (iI (gnF M u))), (2, .int (iI ((sumZ (scF M) u) + (scF M u)))), (1, .int (iI ((sumZ (mnF M) u) + (mnF M u)))), (5, .int (iI (tsF M u))), (4, .int (iI u)), (3, .int (iI (sumZ (gnF M) u))), (0, .ref o)]), W p l e { frames := 8, cells := 0, slots := 0, locals := 201 } s m ([.ref o] : List Value).toArray below meth c H locs 0 0 Q (F0 m 216 ls [.int (iI z0), .int (iI (sumZ (gnF M) u))]) := by
                          intro z0 jez0 ls hl
                          subst jez0
                          refine k_iadd hx hb dL_matches_216 ?_
                          refine lv_istore_n (lv' := [(3, .int (iI ((sumZ (gnF M) u) + (gnF M u)))), (6, .int (iI (gnF M u))), (2, .int (iI ((sumZ (scF M) u) + (scF M u)))), (1, .int (iI ((sumZ (mnF M) u) + (mnF M u)))), (5, .int (iI (tsF M u))), (4, .int (iI u)), (0, .ref o)]) hx hb dL_matches_217 rfl hl (by decide) rfl (fun ls hl => ?_)
                          refine lv_iinc (v := iI (u + 1)) (lv' := [(4, .int (iI (u + 1))), (3, .int (iI ((sumZ (gnF M) u) + (gnF M u)))), (6, .int (iI (gnF M u))), (2, .int (iI ((sumZ (scF M) u) + (scF M u)))), (1, .int (iI ((sumZ (mnF M) u) + (mnF M u)))), (5, .int (iI (tsF M u))), (0, .ref o)]) hx hb dL_matches_218 hl (k := 5) rfl (iI_add _ _) (by decide) rfl (fun ls hl => ?_)
                          refine lv_goto (tgt := 9) hx hb dL_matches_221 (by decide) ?_
                          exact ih9 (u + 1) ((sumZ (gnF M) u) + (gnF M u)) ((sumZ (scF M) u) + (scF M u)) ((sumZ (mnF M) u) + (mnF M u)) (by omega) (by omega) ((sumZ_s _ hi0).symm) ((sumZ_s _ hi0).symm) ((sumZ_s _ hi0).symm) (by omega) H locs hW ls (lv_sub hl [0, 1, 3, 4, 6] rfl)
                        refine k_if_eq (tgt := 215) hx hb dL_matches_208 (by decide) (by omega) (fun c_52 => ?_) (fun c_52 => ?_)
                        · skip
                          refine k_iconst hx hb dL_matches_215 ?_
                          exact join216 0 (by first | rfl | omega) ls (lv_sub hl [0, 1, 2, 3, 4, 5, 6] rfl)
                        · skip
                          refine k_iconst hx hb dL_matches_211 ?_
                          refine lv_goto (tgt := 216) hx hb dL_matches_212 (by decide) ?_
                          exact join216 1 (by first | rfl | omega) ls (lv_sub hl [0, 1, 2, 3, 4, 5, 6] rfl)
                      refine k_if_eq (tgt := 205) hx hb dL_matches_190 (by decide) (by omega) (fun c_53 => ?_) (fun c_53 => ?_)
                      · skip
                        exact join205   H locs hW ls (lv_sub hl [0, 1, 2, 3, 4, 5, 6] rfl)
                      · skip
                        refine lv_aload_n hx hb dL_matches_193 rfl (lv_at hl 6 rfl) ?_
                        refine lv_iload_n hx hb dL_matches_194 rfl (lv_at hl 5 rfl) ?_
                        refine q_call0 (As := [.int (iI (sumZ (gnF M) u))]) (rest := []) ⟨hx, hb, hml, hown, hts⟩ hGX hA (ck_ans (k_missing l D cy o M n K (sumZ (gnF M) u) (show 0 ≤ (sumZ (gnF M) u) ∧ (sumZ (gnF M) u) ≤ 2147483647 from by omega)) (show misF M (sumZ (gnF M) u) = u from mis_at hi0 (by omega) (by omega))) gkL_matches_L_missing rfl ⟨rfl, rfl⟩ 2 rfl (by decide +kernel) ⟨Nat.le_of_ble_eq_true rfl, Nat.le_of_ble_eq_true rfl⟩ hW hl.1 rfl (Nat.le_of_ble_eq_true rfl) ⟨Nat.le_of_ble_eq_true rfl, Nat.le_of_ble_eq_true rfl⟩ dL_matches_195 (fun r_54 M_54 n_54 K_54 H locs hp hW => ?_)
                        obtain ⟨rfl, rfl, rfl, rfl⟩ := hp
                        refine lv_iload hx hb dL_matches_198 (lv_at hl 4 rfl) ?_
                        refine k_icmp_eq (tgt := 205) hx hb dL_matches_200 (by decide) (by omega) (by omega) (fun c_55 => ?_) (fun c_55 => ?_)
                        · skip
                          exact join205   H locs hW ls (lv_sub hl [0, 1, 2, 3, 4, 5, 6] rfl)
                        · exfalso; omega
                  refine k_icmp_ne (tgt := 182) hx hb dL_matches_175 (by decide) (by omega) (by omega) (fun c_56 => ?_) (fun c_56 => ?_)
                  · skip
                    refine k_iconst hx hb dL_matches_182 ?_
                    exact join183 0 (by first | rfl | omega) ls (lv_sub hl [0, 1, 2, 3, 4, 5, 6] rfl)
                  · skip
                    refine k_iconst hx hb dL_matches_178 ?_
                    refine lv_goto (tgt := 183) hx hb dL_matches_179 (by decide) ?_
                    exact join183 1 (by first | rfl | omega) ls (lv_sub hl [0, 1, 2, 3, 4, 5, 6] rfl)
                refine k_icmp_ne (tgt := 166) hx hb dL_matches_151 (by decide) (by omega) (by omega) (fun c_57 => ?_) (fun c_57 => ?_)
                · skip
                  exact join166   H locs hW ls (lv_sub hl [0, 1, 2, 3, 4, 5, 6] rfl)
                · skip
                  refine lv_aload_n hx hb dL_matches_154 rfl (lv_at hl 6 rfl) ?_
                  refine lv_iload hx hb dL_matches_155 (lv_at hl 4 rfl) ?_
                  refine k_iconst hx hb dL_matches_157 ?_
                  refine q_call0 (As := [.int (iI u), .int (iI 5)]) (rest := []) ⟨hx, hb, hml, hown, hts⟩ hGX hA (ck_ans (k_star l D cy o M n K u 5 (show 0 ≤ u from by omega) (show u < M 13 from by omega) (show 0 ≤ (5 : Int) ∧ (5 : Int) ≤ 6 from by omega)) (show stW M u (5 : Int) = s5F M u from st_5 (show 0 ≤ u by omega) (show u < 12 by omega))) gkL_matches_L_star rfl ⟨rfl, rfl⟩ 3 rfl (by decide +kernel) ⟨Nat.le_of_ble_eq_true rfl, Nat.le_of_ble_eq_true rfl⟩ hW hl.1 rfl (Nat.le_of_ble_eq_true rfl) ⟨Nat.le_of_ble_eq_true rfl, Nat.le_of_ble_eq_true rfl⟩ dL_matches_158 (fun r_58 M_58 n_58 K_58 H locs hp hW => ?_)
                  obtain ⟨rfl, rfl, rfl, rfl⟩ := hp
                  refine k_ldc (z := (-1000000000)) hx hb hown hmw0 (by decide +kernel) dL_matches_161 ?_
                  refine k_icmp_ne (tgt := 203) hx hb dL_matches_163 (by decide) (by omega) (by omega) (fun c_59 => ?_) (fun c_59 => ?_)
                  · exfalso; omega
                  · skip
                    exact join166   H locs hW ls (lv_sub hl [0, 1, 2, 3, 4, 5, 6] rfl)
              refine k_icmp_eq (tgt := 147) hx hb dL_matches_98 (by decide) (by omega) (by omega) (fun c_60 => ?_) (fun c_60 => ?_)
              · skip
                exact join147   H locs hW ls (lv_sub hl [0, 1, 2, 3, 4, 5, 6] rfl)
              · skip
                have hcb := (inv_cst hI (M 8) (show 0 ≤ tsF M u by omega) (show tsF M u < M 12 by omega) (by omega) hi0 (show u < M 13 by omega)).2.2
                have htl := ts_tol hI (show tsF M u ≠ -1000000000 by omega)
                refine lv_aload_n hx hb dL_matches_101 rfl (lv_at hl 6 rfl) ?_
                refine lv_iload hx hb dL_matches_102 (lv_at hl 3 rfl) ?_
                refine k_bipush hx hb dL_matches_104 (by decide +kernel) ?_
                refine q_call0 (As := [.int (iI (tsF M u)), .int (iI 8)]) (rest := []) ⟨hx, hb, hml, hown, hts⟩ hGX hA (ck_ans (k_trail l D cy o M n K (tsF M u) 8 (show 0 ≤ (tsF M u) from by omega) (show (tsF M u) < M 12 from by omega) (show 0 ≤ (8 : Int) ∧ (8 : Int) ≤ 8 from by omega)) (show trV M (mat M (M 8)).1 (tsF M u) (8 : Int) = soF M (tsF M u) from tr_so M (tsF M u))) gkL_matches_L_trail rfl ⟨rfl, rfl⟩ 3 rfl (by decide +kernel) ⟨Nat.le_of_ble_eq_true rfl, Nat.le_of_ble_eq_true rfl⟩ hW hl.1 rfl (Nat.le_of_ble_eq_true rfl) ⟨Nat.le_of_ble_eq_true rfl, Nat.le_of_ble_eq_true rfl⟩ dL_matches_106 (fun r_61 M_61 n_61 K_61 H locs hp hW => ?_)
                obtain ⟨rfl, rfl, rfl, rfl⟩ := hp
                refine lv_iload hx hb dL_matches_109 (lv_at hl 4 rfl) ?_
                refine k_icmp_ne (tgt := 203) hx hb dL_matches_111 (by decide) (by omega) (by omega) (fun c_62 => ?_) (fun c_62 => ?_)
                · exfalso; omega
                · skip
                  refine lv_aload_n hx hb dL_matches_114 rfl (lv_at hl 6 rfl) ?_
                  refine lv_iload hx hb dL_matches_115 (lv_at hl 4 rfl) ?_
                  refine k_iconst hx hb dL_matches_117 ?_
                  refine q_call0 (As := [.int (iI u), .int (iI 5)]) (rest := []) ⟨hx, hb, hml, hown, hts⟩ hGX hA (ck_ans (k_star l D cy o M n K u 5 (show 0 ≤ u from by omega) (show u < M 13 from by omega) (show 0 ≤ (5 : Int) ∧ (5 : Int) ≤ 6 from by omega)) (show stW M u (5 : Int) = s5F M u from st_5 (show 0 ≤ u by omega) (show u < 12 by omega))) gkL_matches_L_star rfl ⟨rfl, rfl⟩ 3 rfl (by decide +kernel) ⟨Nat.le_of_ble_eq_true rfl, Nat.le_of_ble_eq_true rfl⟩ hW hl.1 rfl (Nat.le_of_ble_eq_true rfl) ⟨Nat.le_of_ble_eq_true rfl, Nat.le_of_ble_eq_true rfl⟩ dL_matches_118 (fun r_63 M_63 n_63 K_63 H locs hp hW => ?_)
                  obtain ⟨rfl, rfl, rfl, rfl⟩ := hp
                  refine lv_aload_n hx hb dL_matches_121 rfl (lv_at hl 6 rfl) ?_
                  refine lv_iload hx hb dL_matches_122 (lv_at hl 3 rfl) ?_
                  refine lv_iload hx hb dL_matches_124 (lv_at hl 4 rfl) ?_
                  refine q_call0 (As := [.int (iI (tsF M u)), .int (iI u)]) (rest := [.int (iI (s5F M u))]) ⟨hx, hb, hml, hown, hts⟩ hGX hA (k_cost l D cy o M n K (tsF M u) u (show 0 ≤ (tsF M u) from by omega) (show (tsF M u) < M 12 from by omega) (show 0 < pts M (tsF M u) from by omega) (show 0 ≤ u from by omega) (show u < M 13 from by omega)) gkL_matches_L_cost rfl ⟨rfl, rfl⟩ 3 rfl (by decide +kernel) ⟨Nat.le_of_ble_eq_true rfl, Nat.le_of_ble_eq_true rfl⟩ hW hl.1 rfl (Nat.le_of_ble_eq_true rfl) ⟨Nat.le_of_ble_eq_true rfl, Nat.le_of_ble_eq_true rfl⟩ dL_matches_126 (fun r_64 M_64 n_64 K_64 H locs hp hW => ?_)
                  obtain ⟨rfl, rfl, rfl, rfl⟩ := hp
                  refine k_icmp_ne (tgt := 203) hx hb dL_matches_129 (by decide) (by omega) (by omega) (fun c_65 => ?_) (fun c_65 => ?_)
                  · exfalso; omega
                  · skip
                    refine lv_aload_n hx hb dL_matches_132 rfl (lv_at hl 6 rfl) ?_
                    refine lv_iload hx hb dL_matches_133 (lv_at hl 4 rfl) ?_
                    refine k_iconst hx hb dL_matches_135 ?_
                    refine q_call0 (As := [.int (iI u), .int (iI 5)]) (rest := []) ⟨hx, hb, hml, hown, hts⟩ hGX hA (ck_ans (k_star l D cy o M n K u 5 (show 0 ≤ u from by omega) (show u < M 13 from by omega) (show 0 ≤ (5 : Int) ∧ (5 : Int) ≤ 6 from by omega)) (show stW M u (5 : Int) = s5F M u from st_5 (show 0 ≤ u by omega) (show u < 12 by omega))) gkL_matches_L_star rfl ⟨rfl, rfl⟩ 3 rfl (by decide +kernel) ⟨Nat.le_of_ble_eq_true rfl, Nat.le_of_ble_eq_true rfl⟩ hW hl.1 rfl (Nat.le_of_ble_eq_true rfl) ⟨Nat.le_of_ble_eq_true rfl, Nat.le_of_ble_eq_true rfl⟩ dL_matches_136 (fun r_66 M_66 n_66 K_66 H locs hp hW => ?_)
                    obtain ⟨rfl, rfl, rfl, rfl⟩ := hp
                    refine lv_aload_n hx hb dL_matches_139 rfl (lv_at hl 6 rfl) ?_
                    refine k_iconst hx hb dL_matches_140 ?_
                    refine q_call0 (As := [.int (iI 5)]) (rest := [.int (iI (s5F M u))]) ⟨hx, hb, hml, hown, hts⟩ hGX hA (k_setting l D cy o M n K 5 (show 0 ≤ (5 : Int) ∧ (5 : Int) ≤ 9 from by omega)) gkL_matches_L_setting rfl ⟨rfl, rfl⟩ 2 rfl (by decide +kernel) ⟨Nat.le_of_ble_eq_true rfl, Nat.le_of_ble_eq_true rfl⟩ hW hl.1 rfl (Nat.le_of_ble_eq_true rfl) ⟨Nat.le_of_ble_eq_true rfl, Nat.le_of_ble_eq_true rfl⟩ dL_matches_141 (fun r_67 M_67 n_67 K_67 H locs hp hW => ?_)
                    obtain ⟨rfl, rfl, rfl, rfl⟩ := hp
                    refine k_icmp_gt (tgt := 203) hx hb dL_matches_144 (by decide) (by omega) (by omega) (fun c_68 => ?_) (fun c_68 => ?_)
                    · exfalso; omega
                    · skip
                      exact join147   H locs hW ls (lv_sub hl [0, 1, 2, 3, 4, 5, 6] rfl)
            refine k_icmp_ne (tgt := 91) hx hb dL_matches_68 (by decide) (by omega) (by omega) (fun c_69 => ?_) (fun c_69 => ?_)
            · skip
              refine k_iconst hx hb dL_matches_91 ?_
              exact join92 0 (by first | rfl | omega) H locs hW ls (lv_sub hl [0, 1, 2, 3, 4, 5] rfl)
            · skip
              refine lv_aload_n hx hb dL_matches_71 rfl (lv_at hl 5 rfl) ?_
              refine lv_iload hx hb dL_matches_72 (lv_at hl 3 rfl) ?_
              refine k_iconst hx hb dL_matches_74 ?_
              refine q_call0 (As := [.int (iI u), .int (iI 2)]) (rest := []) ⟨hx, hb, hml, hown, hts⟩ hGX hA (ck_ans (k_star l D cy o M n K u 2 (show 0 ≤ u from by omega) (show u < M 13 from by omega) (show 0 ≤ (2 : Int) ∧ (2 : Int) ≤ 6 from by omega)) (show stW M u (2 : Int) = M (458 + 3 * u + 2) from st_2 M u)) gkL_matches_L_star rfl ⟨rfl, rfl⟩ 3 rfl (by decide +kernel) ⟨Nat.le_of_ble_eq_true rfl, Nat.le_of_ble_eq_true rfl⟩ hW hl.1 rfl (Nat.le_of_ble_eq_true rfl) ⟨Nat.le_of_ble_eq_true rfl, Nat.le_of_ble_eq_true rfl⟩ dL_matches_75 (fun r_70 M_70 n_70 K_70 H locs hp hW => ?_)
              obtain ⟨rfl, rfl, rfl, rfl⟩ := hp
              refine lv_aload_n hx hb dL_matches_78 rfl (lv_at hl 5 rfl) ?_
              refine k_bipush hx hb dL_matches_79 (by decide +kernel) ?_
              refine q_call0 (As := [.int (iI 9)]) (rest := [.int (iI (M (458 + 3 * u + 2)))]) ⟨hx, hb, hml, hown, hts⟩ hGX hA (k_setting l D cy o M n K 9 (show 0 ≤ (9 : Int) ∧ (9 : Int) ≤ 9 from by omega)) gkL_matches_L_setting rfl ⟨rfl, rfl⟩ 2 rfl (by decide +kernel) ⟨Nat.le_of_ble_eq_true rfl, Nat.le_of_ble_eq_true rfl⟩ hW hl.1 rfl (Nat.le_of_ble_eq_true rfl) ⟨Nat.le_of_ble_eq_true rfl, Nat.le_of_ble_eq_true rfl⟩ dL_matches_81 (fun r_71 M_71 n_71 K_71 H locs hp hW => ?_)
              obtain ⟨rfl, rfl, rfl, rfl⟩ := hp
              refine k_icmp_lt (tgt := 91) hx hb dL_matches_84 (by decide) (by omega) (by omega) (fun c_72 => ?_) (fun c_72 => ?_)
              · skip
                refine k_iconst hx hb dL_matches_91 ?_
                exact join92 0 (by first | rfl | omega) H locs hW ls (lv_sub hl [0, 1, 2, 3, 4, 5] rfl)
              · skip
                refine k_iconst hx hb dL_matches_87 ?_
                refine lv_goto (tgt := 92) hx hb dL_matches_88 (by decide) ?_
                exact join92 1 (by first | rfl | omega) H locs hW ls (lv_sub hl [0, 1, 2, 3, 4, 5] rfl)
          refine k_icmp_ne (tgt := 55) hx hb dL_matches_48 (by decide) (by omega) (by omega) (fun c_73 => ?_) (fun c_73 => ?_)
          · skip
            have hcb := (inv_cst hI (M 8) (show 0 ≤ tsF M u by omega) (show tsF M u < M 12 by omega) (by omega) hi0 (show u < M 13 by omega)).2.2
            refine lv_aload_n hx hb dL_matches_55 rfl (lv_at hl 5 rfl) ?_
            refine lv_iload hx hb dL_matches_56 (lv_at hl 2 rfl) ?_
            refine k_iconst hx hb dL_matches_58 ?_
            refine q_call0 (As := [.int (iI u), .int (iI 5)]) (rest := [.int (iI (sumZ (scF M) u))]) ⟨hx, hb, hml, hown, hts⟩ hGX hA (ck_ans (k_star l D cy o M n K u 5 (show 0 ≤ u from by omega) (show u < M 13 from by omega) (show 0 ≤ (5 : Int) ∧ (5 : Int) ≤ 6 from by omega)) (show stW M u (5 : Int) = s5F M u from st_5 (show 0 ≤ u by omega) (show u < 12 by omega))) gkL_matches_L_star rfl ⟨rfl, rfl⟩ 3 rfl (by decide +kernel) ⟨Nat.le_of_ble_eq_true rfl, Nat.le_of_ble_eq_true rfl⟩ hW hl.1 rfl (Nat.le_of_ble_eq_true rfl) ⟨Nat.le_of_ble_eq_true rfl, Nat.le_of_ble_eq_true rfl⟩ dL_matches_59 (fun r_74 M_74 n_74 K_74 H locs hp hW => ?_)
            obtain ⟨rfl, rfl, rfl, rfl⟩ := hp
            exact join62 (s5F M u) (by first | rfl | omega) H locs hW ls (lv_sub hl [0, 1, 2, 3, 4, 5] rfl)
          · skip
            refine k_iconst hx hb dL_matches_51 ?_
            refine lv_goto (tgt := 62) hx hb dL_matches_52 (by decide) ?_
            exact join62 0 (by first | rfl | omega) H locs hW ls (lv_sub hl [0, 1, 2, 3, 4, 5] rfl)
        refine k_icmp_ne (tgt := 40) hx hb dL_matches_33 (by decide) (by omega) (by omega) (fun c_75 => ?_) (fun c_75 => ?_)
        · skip
          refine k_iconst hx hb dL_matches_40 ?_
          exact join41 1 (by first | rfl | omega) ls (lv_sub hl [0, 1, 2, 3, 4, 5] rfl)
        · skip
          refine k_iconst hx hb dL_matches_36 ?_
          refine lv_goto (tgt := 41) hx hb dL_matches_37 (by decide) ?_
          exact join41 0 (by first | rfl | omega) ls (lv_sub hl [0, 1, 2, 3, 4, 5] rfl)
  exact loop9 ((M 13 - 0 : Int) + 1).toNat 0 0 0 0 (by omega) (by omega) (rfl) (rfl) (rfl) (by omega) H locs hW ls (lv_sub hl [0, 1, 2, 3, 4] rfl)
