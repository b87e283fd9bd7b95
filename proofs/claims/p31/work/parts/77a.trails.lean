/-! the law's first check: points in order, radii, spreads, sweeps, gaps -/
set_option maxHeartbeats 8000000 in
set_option maxRecDepth 100000 in
theorem k_trails (l : Launch) (hst : l.stackTraces = false) (D : va_G) (cy : Nat → ClassId) (o : Nat) (M : Int → Int) (n : Int) (K : Nat → Int → Int)  : CKs l D cy yL_trails wkL_trails { frames := 9, cells := 12, slots := 72, locals := 201 } o [] M n K (fun r M' n' K' => 1 = r ∧ M = M' ∧ n = n' ∧ K = K') 12 72 := by
  refine ck_start (cc := cL_trails) (maxL := 19) (ret := (some .boolean)) (by decide) rfl (Nat.le_of_ble_eq_true rfl) ?_
  intro p e s m below meth c A0 Q hx hb hr hlocks hml hts hown hA hGX hret H ls hW hl
  have hl : lv_has ls 19 [(0, .ref o)] := hl
  have hI := hW.inv
  have hS12 := inv_S12 hI
  have hS0 := hI.1
  unfold InvS at hS0
  have hnn := hW.nn
  generalize ([] : List Loc) = locs at hW ⊢
  have hmw0 := hts (.constant RL 109 (-1000000000)) (ckL_trails _ (by decide +kernel))
  have hmw1 := hts (.constant RL 96 (1000000)) (ckL_trails _ (by decide +kernel))
  have hmw2 := hts (.constant RL 24 (-9030000)) (ckL_trails _ (by decide +kernel))
  have hmw3 := hts (.constant RL 105 (359999)) (ckL_trails _ (by decide +kernel))
  have hmw4 := hts (.constant RL 100 (180000)) (ckL_trails _ (by decide +kernel))
  have hmw5 := hts (.constant RL 102 (-180000)) (ckL_trails _ (by decide +kernel))
  have hmw6 := hts (.constant RL 101 (360000)) (ckL_trails _ (by decide +kernel))
  refine k_iconst hx hb dL_trails_0 ?_
  refine lv_istore_n (lv' := [(1, .int (iI 0)), (0, .ref o)]) hx hb dL_trails_1 rfl hl (by decide) rfl (fun ls hl => ?_)
  refine k_iconst hx hb dL_trails_2 ?_
  refine lv_istore_n (lv' := [(2, .int (iI 0)), (1, .int (iI 0)), (0, .ref o)]) hx hb dL_trails_3 rfl hl (by decide) rfl (fun ls hl => ?_)
  refine k_iconst hx hb dL_trails_4 ?_
  refine lv_istore_n (lv' := [(3, .int (iI 0)), (2, .int (iI 0)), (1, .int (iI 0)), (0, .ref o)]) hx hb dL_trails_5 rfl hl (by decide) rfl (fun ls hl => ?_)
  refine k_iconst hx hb dL_trails_6 ?_
  refine lv_istore (lv' := [(4, .int (iI 0)), (3, .int (iI 0)), (2, .int (iI 0)), (1, .int (iI 0)), (0, .ref o)]) hx hb dL_trails_7 hl (by decide) rfl (fun ls hl => ?_)
  refine k_iconst hx hb dL_trails_9 ?_
  refine lv_istore (lv' := [(5, .int (iI 0)), (4, .int (iI 0)), (3, .int (iI 0)), (2, .int (iI 0)), (1, .int (iI 0)), (0, .ref o)]) hx hb dL_trails_10 hl (by decide) rfl (fun ls hl => ?_)
  have loop12 : ∀ (j_1 : Nat) (t : Int) (x4 : Int) (x3 : Int) (x2 : Int) (x1 : Int) (cells slots : Nat) (hi0 : 0 ≤ t) (hi1 : t ≤ M 12) (hex4 : x4 = sumZ (spF M) t) (hex3 : x3 = sumZ (goodN M) t) (hex2 : x2 = sumZ (gapN M) t) (hex1 : x1 = sumZ (pts M) t) (hn12 : M 12 - t < (j_1 : Int)) (hcs : (cells : Int) ≤ t ∧ (slots : Int) ≤ 6 * t) (H : Heap) (locs : List Loc) (hW : OW D cy A0 s.heap o M n K H locs) (ls : Array Slot) (hl : lv_has ls 19 [(5, .int (iI t)), (4, .int (iI x4)), (3, .int (iI x3)), (2, .int (iI x2)), (1, .int (iI x1)), (0, .ref o)]), W p l e { frames := 9, cells := 12, slots := 72, locals := 201 } s m ([.ref o] : List Value).toArray below meth c H locs cells slots Q (F0 m 12 ls []) := by
    intro j_1
    induction j_1 with
    | zero => intro t x4 x3 x2 x1 cells slots hi0 hi1 hex4 hex3 hex2 hex1 hn12 hcs H locs hW ls hl; exfalso; omega
    | succ j_1 ih12 =>
      intro t x4 x3 x2 x1 cells slots hi0 hi1 hex4 hex3 hex2 hex1 hn12 hcs H locs hW ls hl
      subst hex4
      subst hex3
      subst hex2
      subst hex1
      have htot := tot_bd hI hi0 hi1
      refine lv_iload hx hb dL_trails_12 (lv_at hl 0 rfl) ?_
      refine lv_aload_n hx hb dL_trails_14 rfl (lv_at hl 5 rfl) ?_
      refine k_iconst hx hb dL_trails_15 ?_
      refine q_call0 (As := [.int (iI 0)]) (rest := [.int (iI t)]) ⟨hx, hb, hml, hown, hts⟩ hGX hA (ck_ans (k_whole l D cy o M n K 0 (show 0 ≤ (0 : Int) ∧ (0 : Int) ≤ 10 from by omega)) (show whW M (0 : Int) = M 12 from wh_0 M)) gkL_trails_L_whole rfl ⟨rfl, rfl⟩ 2 rfl (by decide +kernel) ⟨Nat.le_of_ble_eq_true rfl, Nat.le_of_ble_eq_true rfl⟩ hW hl.1 rfl (Nat.le_of_ble_eq_true rfl) ⟨show cells ≤ 12 by omega, show slots ≤ 72 by omega⟩ dL_trails_16 (fun r_2 M_2 n_2 K_2 H locs hp hW => ?_)
      obtain ⟨rfl, rfl, rfl, rfl⟩ := hp
      refine k_icmp_ge (tgt := 647) hx hb dL_trails_19 (by decide) (by omega) (by omega) (fun c_3 => ?_) (fun c_3 => ?_)
      · skip
        have hte : t = M 12 := by omega
        have he1 : sumZ (spF M) t = pcost M := by rw [hte]; rfl
        have he2 : sumZ (goodN M) t = sumZ (goodN M) (M 12) := by rw [hte]
        have he3 : sumZ (pts M) t = sumZ (pts M) (M 12) := by rw [hte]
        have he4 : sumZ (gapN M) t = sumZ (gapN M) (M 12) := by rw [hte]
        have hmr := mrt_no hI
        have hn1 := no_sp (mrt M)
        have hn2 := ze_sp (sumZ (goodN M) t)
        refine lv_aload_n hx hb dL_trails_647 rfl (lv_at hl 5 rfl) ?_
        refine qv_meanRate ⟨hx, hb, hml, hown, hts⟩ hGX hA gkL_trails_X6_meanRate ⟨Nat.le_of_ble_eq_true rfl, Nat.le_of_ble_eq_true rfl⟩ hW hl.1 (Nat.le_of_ble_eq_true rfl) ⟨show cells ≤ 12 by omega, show slots ≤ 72 by omega⟩ dL_trails_648 (fun H locs hW => ?_)
        refine lv_istore (lv' := [(5, .int (iI (mrt M))), (4, .int (iI (sumZ (spF M) t))), (3, .int (iI (sumZ (goodN M) t))), (2, .int (iI (sumZ (gapN M) t))), (1, .int (iI (sumZ (pts M) t))), (0, .ref o)]) hx hb dL_trails_651 hl (by decide) rfl (fun ls hl => ?_)
        refine lv_aload_n hx hb dL_trails_653 rfl (lv_at hl 5 rfl) ?_
        refine k_iconst hx hb dL_trails_654 ?_
        refine q_call0 (As := [.int (iI 4)]) (rest := []) ⟨hx, hb, hml, hown, hts⟩ hGX hA (ck_ans (k_whole l D cy o M n K 4 (show 0 ≤ (4 : Int) ∧ (4 : Int) ≤ 10 from by omega)) (show whW M (4 : Int) = pcost M from wh_4 M)) gkL_trails_L_whole rfl ⟨rfl, rfl⟩ 2 rfl (by decide +kernel) ⟨Nat.le_of_ble_eq_true rfl, Nat.le_of_ble_eq_true rfl⟩ hW hl.1 rfl (Nat.le_of_ble_eq_true rfl) ⟨show cells ≤ 12 by omega, show slots ≤ 72 by omega⟩ dL_trails_655 (fun r_4 M_4 n_4 K_4 H locs hp hW => ?_)
        obtain ⟨rfl, rfl, rfl, rfl⟩ := hp
        refine lv_iload hx hb dL_trails_658 (lv_at hl 1 rfl) ?_
        refine k_icmp_ne (tgt := 739) hx hb dL_trails_660 (by decide) (by omega) (by omega) (fun c_5 => ?_) (fun c_5 => ?_)
        · exfalso; omega
        · skip
          refine lv_aload_n hx hb dL_trails_663 rfl (lv_at hl 5 rfl) ?_
          refine k_iconst hx hb dL_trails_664 ?_
          refine q_call0 (As := [.int (iI 5)]) (rest := []) ⟨hx, hb, hml, hown, hts⟩ hGX hA (ck_ans (k_whole l D cy o M n K 5 (show 0 ≤ (5 : Int) ∧ (5 : Int) ≤ 10 from by omega)) (show whW M (5 : Int) = sumZ (goodN M) (M 12) from wh_5 M)) gkL_trails_L_whole rfl ⟨rfl, rfl⟩ 2 rfl (by decide +kernel) ⟨Nat.le_of_ble_eq_true rfl, Nat.le_of_ble_eq_true rfl⟩ hW hl.1 rfl (Nat.le_of_ble_eq_true rfl) ⟨show cells ≤ 12 by omega, show slots ≤ 72 by omega⟩ dL_trails_665 (fun r_6 M_6 n_6 K_6 H locs hp hW => ?_)
          obtain ⟨rfl, rfl, rfl, rfl⟩ := hp
          refine lv_iload_n hx hb dL_trails_668 rfl (lv_at hl 2 rfl) ?_
          refine k_icmp_ne (tgt := 739) hx hb dL_trails_669 (by decide) (by omega) (by omega) (fun c_7 => ?_) (fun c_7 => ?_)
          · exfalso; omega
          · skip
            refine lv_aload_n hx hb dL_trails_672 rfl (lv_at hl 5 rfl) ?_
            refine k_bipush hx hb dL_trails_673 (by decide +kernel) ?_
            refine q_call0 (As := [.int (iI 9)]) (rest := []) ⟨hx, hb, hml, hown, hts⟩ hGX hA (ck_ans (k_whole l D cy o M n K 9 (show 0 ≤ (9 : Int) ∧ (9 : Int) ≤ 10 from by omega)) (show whW M (9 : Int) = sumZ (pts M) (M 12) from wh_9 M)) gkL_trails_L_whole rfl ⟨rfl, rfl⟩ 2 rfl (by decide +kernel) ⟨Nat.le_of_ble_eq_true rfl, Nat.le_of_ble_eq_true rfl⟩ hW hl.1 rfl (Nat.le_of_ble_eq_true rfl) ⟨show cells ≤ 12 by omega, show slots ≤ 72 by omega⟩ dL_trails_675 (fun r_8 M_8 n_8 K_8 H locs hp hW => ?_)
            obtain ⟨rfl, rfl, rfl, rfl⟩ := hp
            refine lv_iload_n hx hb dL_trails_678 rfl (lv_at hl 4 rfl) ?_
            refine k_icmp_ne (tgt := 739) hx hb dL_trails_679 (by decide) (by omega) (by omega) (fun c_9 => ?_) (fun c_9 => ?_)
            · exfalso; omega
            · skip
              refine lv_aload_n hx hb dL_trails_682 rfl (lv_at hl 5 rfl) ?_
              refine k_bipush hx hb dL_trails_683 (by decide +kernel) ?_
              refine q_call0 (As := [.int (iI 10)]) (rest := []) ⟨hx, hb, hml, hown, hts⟩ hGX hA (ck_ans (k_whole l D cy o M n K 10 (show 0 ≤ (10 : Int) ∧ (10 : Int) ≤ 10 from by omega)) (show whW M (10 : Int) = sumZ (gapN M) (M 12) from wh_10 M)) gkL_trails_L_whole rfl ⟨rfl, rfl⟩ 2 rfl (by decide +kernel) ⟨Nat.le_of_ble_eq_true rfl, Nat.le_of_ble_eq_true rfl⟩ hW hl.1 rfl (Nat.le_of_ble_eq_true rfl) ⟨show cells ≤ 12 by omega, show slots ≤ 72 by omega⟩ dL_trails_685 (fun r_10 M_10 n_10 K_10 H locs hp hW => ?_)
              obtain ⟨rfl, rfl, rfl, rfl⟩ := hp
              refine lv_iload_n hx hb dL_trails_688 rfl (lv_at hl 3 rfl) ?_
              refine k_icmp_ne (tgt := 739) hx hb dL_trails_689 (by decide) (by omega) (by omega) (fun c_11 => ?_) (fun c_11 => ?_)
              · exfalso; omega
              · skip
                refine lv_aload_n hx hb dL_trails_692 rfl (lv_at hl 5 rfl) ?_
                refine lv_aload_n hx hb dL_trails_693 rfl (lv_at hl 5 rfl) ?_
                refine k_iconst hx hb dL_trails_694 ?_
                refine q_call0 (As := [.int (iI 2)]) (rest := [.ref o]) ⟨hx, hb, hml, hown, hts⟩ hGX hA (ck_ans (k_whole l D cy o M n K 2 (show 0 ≤ (2 : Int) ∧ (2 : Int) ≤ 10 from by omega)) (show whW M (2 : Int) = M 10 from wh_2 M)) gkL_trails_L_whole rfl ⟨rfl, rfl⟩ 2 rfl (by decide +kernel) ⟨Nat.le_of_ble_eq_true rfl, Nat.le_of_ble_eq_true rfl⟩ hW hl.1 rfl (Nat.le_of_ble_eq_true rfl) ⟨show cells ≤ 12 by omega, show slots ≤ 72 by omega⟩ dL_trails_695 (fun r_12 M_12 n_12 K_12 H locs hp hW => ?_)
                obtain ⟨rfl, rfl, rfl, rfl⟩ := hp
                refine lv_aload_n hx hb dL_trails_698 rfl (lv_at hl 5 rfl) ?_
                refine k_iconst hx hb dL_trails_699 ?_
                refine q_call0 (As := [.int (iI 3)]) (rest := [.int (iI (M 10)), .ref o]) ⟨hx, hb, hml, hown, hts⟩ hGX hA (ck_ans (k_whole l D cy o M n K 3 (show 0 ≤ (3 : Int) ∧ (3 : Int) ≤ 10 from by omega)) (show whW M (3 : Int) = M 11 from wh_3 M)) gkL_trails_L_whole rfl ⟨rfl, rfl⟩ 2 rfl (by decide +kernel) ⟨Nat.le_of_ble_eq_true rfl, Nat.le_of_ble_eq_true rfl⟩ hW hl.1 rfl (Nat.le_of_ble_eq_true rfl) ⟨show cells ≤ 12 by omega, show slots ≤ 72 by omega⟩ dL_trails_700 (fun r_13 M_13 n_13 K_13 H locs hp hW => ?_)
                obtain ⟨rfl, rfl, rfl, rfl⟩ := hp
                refine q_call0 (As := [.int (iI (M 10)), .int (iI (M 11))]) (rest := []) ⟨hx, hb, hml, hown, hts⟩ hGX hA (ck_ans (k_costAt l D cy o M n K (M 10) (M 11) (show poleOK (M 10) (M 11) from by unfold poleOK; omega)) (show pcost (tPo M (M 10) (M 11)) = pcost M from by rw [tPo_id])) gkL_trails_L_costAt rfl ⟨rfl, rfl⟩ 3 rfl (by decide +kernel) ⟨Nat.le_of_ble_eq_true rfl, Nat.le_of_ble_eq_true rfl⟩ hW hl.1 rfl (Nat.le_of_ble_eq_true rfl) ⟨show cells ≤ 12 by omega, show slots ≤ 72 by omega⟩ dL_trails_703 (fun r_14 M_14 n_14 K_14 H locs hp hW => ?_)
                obtain ⟨rfl, rfl, rfl, rfl⟩ := hp
                refine lv_iload hx hb dL_trails_706 (lv_at hl 1 rfl) ?_
                refine k_icmp_ne (tgt := 739) hx hb dL_trails_708 (by decide) (by omega) (by omega) (fun c_15 => ?_) (fun c_15 => ?_)
                · exfalso; omega
                · skip
                  refine lv_iload hx hb dL_trails_711 (lv_at hl 0 rfl) ?_
                  refine k_ldc (z := (-1000000000)) hx hb hown hmw0 (by decide +kernel) dL_trails_713 ?_
                  have join723 : ∀ (z0 : Int) (jez0 : z0 = noF (mrt M)) (ls : Array Slot) (hl : lv_has ls 19 [(5, .int (iI (mrt M))), (4, .int (iI (sumZ (spF M) t))), (3, .int (iI (sumZ (goodN M) t))), (2, .int (iI (sumZ (gapN M) t))), (1, .int (iI (sumZ (pts M) t))), (0, .ref o)]), W p l e { frames := 9, cells := 12, slots := 72, locals := 201 } s m ([.ref o] : List Value).toArray below meth c H locs cells slots Q (F0 m 723 ls [.int (iI z0)]) := by
                    intro z0 jez0 ls hl
                    subst jez0
                    refine lv_iload_n hx hb dL_trails_723 rfl (lv_at hl 2 rfl) ?_
                    have join732 : ∀ (z0 : Int) (jez0 : z0 = zeF (sumZ (goodN M) t)) (ls : Array Slot) (hl : lv_has ls 19 [(5, .int (iI (mrt M))), (4, .int (iI (sumZ (spF M) t))), (3, .int (iI (sumZ (goodN M) t))), (2, .int (iI (sumZ (gapN M) t))), (1, .int (iI (sumZ (pts M) t))), (0, .ref o)]), W p l e { frames := 9, cells := 12, slots := 72, locals := 201 } s m ([.ref o] : List Value).toArray below meth c H locs cells slots Q (F0 m 732 ls [.int (iI z0), .int (iI (noF (mrt M)))]) := by
                      intro z0 jez0 ls hl
                      subst jez0
                      refine k_icmp_ne (tgt := 739) hx hb dL_trails_732 (by decide) (by omega) (by omega) (fun c_16 => ?_) (fun c_16 => ?_)
                      · exfalso; omega
                      · skip
                        refine k_iconst hx hb dL_trails_735 ?_
                        refine lv_goto (tgt := 740) hx hb dL_trails_736 (by decide) ?_
                        exact hret 1 _ _ _ H locs _ _ 740 ls (⟨rfl, rfl, rfl, rfl⟩) hW ⟨by omega, by omega⟩ (Or.inr ⟨rfl, Or.inr rfl⟩) dL_trails_740
                    refine k_if_ne (tgt := 731) hx hb dL_trails_724 (by decide) (by omega) (fun c_17 => ?_) (fun c_17 => ?_)
                    · skip
                      refine k_iconst hx hb dL_trails_731 ?_
                      exact join732 0 (by first | rfl | omega) ls (lv_sub hl [0, 1, 2, 3, 4, 5] rfl)
                    · skip
                      refine k_iconst hx hb dL_trails_727 ?_
                      refine lv_goto (tgt := 732) hx hb dL_trails_728 (by decide) ?_
                      exact join732 1 (by first | rfl | omega) ls (lv_sub hl [0, 1, 2, 3, 4, 5] rfl)
                  refine k_icmp_ne (tgt := 722) hx hb dL_trails_715 (by decide) (by omega) (by omega) (fun c_18 => ?_) (fun c_18 => ?_)
                  · skip
                    refine k_iconst hx hb dL_trails_722 ?_
                    exact join723 0 (by first | rfl | omega) ls (lv_sub hl [0, 1, 2, 3, 4, 5] rfl)
                  · skip
                    refine k_iconst hx hb dL_trails_718 ?_
                    refine lv_goto (tgt := 723) hx hb dL_trails_719 (by decide) ?_
                    exact join723 1 (by first | rfl | omega) ls (lv_sub hl [0, 1, 2, 3, 4, 5] rfl)
      · skip
        refine lv_aload_n hx hb dL_trails_22 rfl (lv_at hl 5 rfl) ?_
        refine lv_iload hx hb dL_trails_23 (lv_at hl 0 rfl) ?_
        refine k_iconst hx hb dL_trails_25 ?_
        refine q_call0 (As := [.int (iI t), .int (iI 0)]) (rest := []) ⟨hx, hb, hml, hown, hts⟩ hGX hA (ck_ans (k_trail l D cy o M n K t 0 (show 0 ≤ t from by omega) (show t < M 12 from by omega) (show 0 ≤ (0 : Int) ∧ (0 : Int) ≤ 8 from by omega)) (show trV M (mat M (M 8)).1 t (0 : Int) = pts M t from tr_0 M _ t)) gkL_trails_L_trail rfl ⟨rfl, rfl⟩ 3 rfl (by decide +kernel) ⟨Nat.le_of_ble_eq_true rfl, Nat.le_of_ble_eq_true rfl⟩ hW hl.1 rfl (Nat.le_of_ble_eq_true rfl) ⟨show cells ≤ 12 by omega, show slots ≤ 72 by omega⟩ dL_trails_26 (fun r_19 M_19 n_19 K_19 H locs hp hW => ?_)
        obtain ⟨rfl, rfl, rfl, rfl⟩ := hp
        have hpt := inv_pts hI hi0 (show t < M 12 by omega)
        refine lv_istore (lv' := [(6, .int (iI (pts M t))), (5, .int (iI t)), (4, .int (iI (sumZ (spF M) t))), (3, .int (iI (sumZ (goodN M) t))), (2, .int (iI (sumZ (gapN M) t))), (1, .int (iI (sumZ (pts M) t))), (0, .ref o)]) hx hb dL_trails_29 hl (by decide) rfl (fun ls hl => ?_)
        refine k_ldc (z := 1000000) hx hb hown hmw1 (by decide +kernel) dL_trails_31 ?_
        refine lv_istore (lv' := [(7, .int (iI 1000000)), (6, .int (iI (pts M t))), (5, .int (iI t)), (4, .int (iI (sumZ (spF M) t))), (3, .int (iI (sumZ (goodN M) t))), (2, .int (iI (sumZ (gapN M) t))), (1, .int (iI (sumZ (pts M) t))), (0, .ref o)]) hx hb dL_trails_33 hl (by decide) rfl (fun ls hl => ?_)
        refine k_iconst hx hb dL_trails_35 ?_
        refine lv_istore (lv' := [(8, .int (iI (-1))), (7, .int (iI 1000000)), (6, .int (iI (pts M t))), (5, .int (iI t)), (4, .int (iI (sumZ (spF M) t))), (3, .int (iI (sumZ (goodN M) t))), (2, .int (iI (sumZ (gapN M) t))), (1, .int (iI (sumZ (pts M) t))), (0, .ref o)]) hx hb dL_trails_36 hl (by decide) rfl (fun ls hl => ?_)
        refine k_iconst hx hb dL_trails_38 ?_
        refine lv_istore (lv' := [(9, .int (iI 0)), (8, .int (iI (-1))), (7, .int (iI 1000000)), (6, .int (iI (pts M t))), (5, .int (iI t)), (4, .int (iI (sumZ (spF M) t))), (3, .int (iI (sumZ (goodN M) t))), (2, .int (iI (sumZ (gapN M) t))), (1, .int (iI (sumZ (pts M) t))), (0, .ref o)]) hx hb dL_trails_39 hl (by decide) rfl (fun ls hl => ?_)
        refine k_iconst hx hb dL_trails_41 ?_
        refine lv_istore (lv' := [(10, .int (iI 0)), (9, .int (iI 0)), (8, .int (iI (-1))), (7, .int (iI 1000000)), (6, .int (iI (pts M t))), (5, .int (iI t)), (4, .int (iI (sumZ (spF M) t))), (3, .int (iI (sumZ (goodN M) t))), (2, .int (iI (sumZ (gapN M) t))), (1, .int (iI (sumZ (pts M) t))), (0, .ref o)]) hx hb dL_trails_42 hl (by decide) rfl (fun ls hl => ?_)
        have join315 : ∀ (y7 : Int) (y8 : Int) (y9 : Int) (y10 : Int) (jey7 : y7 = lsF (rdOf M t) (pts M t)) (jey8 : y8 = moF (rdOf M t) (pts M t)) (jey9 : y9 = gapN M t) (jey10 : y10 = swp M t) (H : Heap) (locs : List Loc) (hW : OW D cy A0 s.heap o M n K H locs) (ls : Array Slot) (hl : lv_has ls 19 [(6, .int (iI (pts M t))), (5, .int (iI t)), (4, .int (iI (sumZ (spF M) t))), (3, .int (iI (sumZ (goodN M) t))), (2, .int (iI (sumZ (gapN M) t))), (1, .int (iI (sumZ (pts M) t))), (0, .ref o), (7, .int (iI y7)), (8, .int (iI y8)), (9, .int (iI y9)), (10, .int (iI y10))]), W p l e { frames := 9, cells := 12, slots := 72, locals := 201 } s m ([.ref o] : List Value).toArray below meth c H locs cells slots Q (F0 m 315 ls []) := by
          intro y7 y8 y9 y10 jey7 jey8 jey9 jey10 H locs hW ls hl
          subst jey7
          subst jey8
          subst jey9
          subst jey10
          have hlm := lm_bd hI hi0 (show t < M 12 by omega) hpt.1 (Int.le_refl _)
          have hsp0 : 0 < pts M t → moF (rdOf M t) (pts M t) - lsF (rdOf M t) (pts M t) = sprd M t := fun h => by rw [mo_p _ h, ls_p _ h]; rfl
          have hmm0 : 0 < pts M t → lsF (rdOf M t) (pts M t) ≤ rdT M t ∧ rdT M t ≤ moF (rdOf M t) (pts M t) := fun h => by rw [mo_p _ h, ls_p _ h]; exact rdT_mm h
          have hg01 := good_01 M t
          have hspat := sp_at M t
          have hgap := inv_gap hpt
          refine lv_iload hx hb dL_trails_315 (lv_at hl 0 rfl) ?_
          have join344 : ∀ (z0 : Int) (jez0 : z0 = frF M t) (H : Heap) (locs : List Loc) (hW : OW D cy A0 s.heap o M n K H locs) (ls : Array Slot) (hl : lv_has ls 19 [(6, .int (iI (pts M t))), (5, .int (iI t)), (4, .int (iI (sumZ (spF M) t))), (3, .int (iI (sumZ (goodN M) t))), (2, .int (iI (sumZ (gapN M) t))), (1, .int (iI (sumZ (pts M) t))), (0, .ref o), (7, .int (iI (lsF (rdOf M t) (pts M t)))), (8, .int (iI (moF (rdOf M t) (pts M t)))), (9, .int (iI (gapN M t))), (10, .int (iI (swp M t)))]), W p l e { frames := 9, cells := 12, slots := 72, locals := 201 } s m ([.ref o] : List Value).toArray below meth c H locs cells slots Q (F0 m 344 ls [.int (iI z0)]) := by
            intro z0 jez0 H locs hW ls hl
            subst jez0
            refine lv_istore (lv' := [(11, .int (iI (frF M t))), (6, .int (iI (pts M t))), (5, .int (iI t)), (4, .int (iI (sumZ (spF M) t))), (3, .int (iI (sumZ (goodN M) t))), (2, .int (iI (sumZ (gapN M) t))), (1, .int (iI (sumZ (pts M) t))), (0, .ref o), (7, .int (iI (lsF (rdOf M t) (pts M t)))), (8, .int (iI (moF (rdOf M t) (pts M t)))), (9, .int (iI (gapN M t))), (10, .int (iI (swp M t)))]) hx hb dL_trails_344 hl (by decide) rfl (fun ls hl => ?_)
            refine lv_iload hx hb dL_trails_346 (lv_at hl 1 rfl) ?_
            refine k_iconst hx hb dL_trails_348 ?_
            have join392 : ∀ (z0 : Int) (jez0 : z0 = goodN M t) (H : Heap) (locs : List Loc) (hW : OW D cy A0 s.heap o M n K H locs) (ls : Array Slot) (hl : lv_has ls 19 [(11, .int (iI (frF M t))), (6, .int (iI (pts M t))), (5, .int (iI t)), (4, .int (iI (sumZ (spF M) t))), (3, .int (iI (sumZ (goodN M) t))), (2, .int (iI (sumZ (gapN M) t))), (1, .int (iI (sumZ (pts M) t))), (0, .ref o), (7, .int (iI (lsF (rdOf M t) (pts M t)))), (8, .int (iI (moF (rdOf M t) (pts M t)))), (9, .int (iI (gapN M t))), (10, .int (iI (swp M t)))]), W p l e { frames := 9, cells := 12, slots := 72, locals := 201 } s m ([.ref o] : List Value).toArray below meth c H locs cells slots Q (F0 m 392 ls [.int (iI z0)]) := by
              intro z0 jez0 H locs hW ls hl
              subst jez0
              refine lv_istore (lv' := [(12, .int (iI (goodN M t))), (11, .int (iI (frF M t))), (6, .int (iI (pts M t))), (5, .int (iI t)), (4, .int (iI (sumZ (spF M) t))), (3, .int (iI (sumZ (goodN M) t))), (2, .int (iI (sumZ (gapN M) t))), (1, .int (iI (sumZ (pts M) t))), (0, .ref o), (7, .int (iI (lsF (rdOf M t) (pts M t)))), (8, .int (iI (moF (rdOf M t) (pts M t)))), (9, .int (iI (gapN M t))), (10, .int (iI (swp M t)))]) hx hb dL_trails_392 hl (by decide) rfl (fun ls hl => ?_)
              refine lv_iload_n hx hb dL_trails_394 rfl (lv_at hl 7 rfl) ?_
              refine lv_iload hx hb dL_trails_395 (lv_at hl 2 rfl) ?_
              refine k_iadd hx hb dL_trails_397 ?_
              refine lv_istore_n (lv' := [(1, .int (iI ((sumZ (pts M) t) + (pts M t)))), (12, .int (iI (goodN M t))), (11, .int (iI (frF M t))), (6, .int (iI (pts M t))), (5, .int (iI t)), (4, .int (iI (sumZ (spF M) t))), (3, .int (iI (sumZ (goodN M) t))), (2, .int (iI (sumZ (gapN M) t))), (0, .ref o), (7, .int (iI (lsF (rdOf M t) (pts M t)))), (8, .int (iI (moF (rdOf M t) (pts M t)))), (9, .int (iI (gapN M t))), (10, .int (iI (swp M t)))]) hx hb dL_trails_398 rfl hl (by decide) rfl (fun ls hl => ?_)
              refine lv_iload_n hx hb dL_trails_399 rfl (lv_at hl 7 rfl) ?_
              refine lv_iload hx hb dL_trails_400 (lv_at hl 11 rfl) ?_
              refine k_iadd hx hb dL_trails_402 ?_
              refine lv_istore_n (lv' := [(2, .int (iI ((sumZ (gapN M) t) + (gapN M t)))), (1, .int (iI ((sumZ (pts M) t) + (pts M t)))), (12, .int (iI (goodN M t))), (11, .int (iI (frF M t))), (6, .int (iI (pts M t))), (5, .int (iI t)), (4, .int (iI (sumZ (spF M) t))), (3, .int (iI (sumZ (goodN M) t))), (0, .ref o), (7, .int (iI (lsF (rdOf M t) (pts M t)))), (8, .int (iI (moF (rdOf M t) (pts M t)))), (9, .int (iI (gapN M t))), (10, .int (iI (swp M t)))]) hx hb dL_trails_403 rfl hl (by decide) rfl (fun ls hl => ?_)
              refine lv_iload_n hx hb dL_trails_404 rfl (lv_at hl 7 rfl) ?_
              refine lv_iload hx hb dL_trails_405 (lv_at hl 2 rfl) ?_
              have join415 : ∀ (z0 : Int) (jez0 : z0 = goodN M t) (ls : Array Slot) (hl : lv_has ls 19 [(2, .int (iI ((sumZ (gapN M) t) + (gapN M t)))), (1, .int (iI ((sumZ (pts M) t) + (pts M t)))), (12, .int (iI (goodN M t))), (11, .int (iI (frF M t))), (6, .int (iI (pts M t))), (5, .int (iI t)), (4, .int (iI (sumZ (spF M) t))), (3, .int (iI (sumZ (goodN M) t))), (0, .ref o), (7, .int (iI (lsF (rdOf M t) (pts M t)))), (8, .int (iI (moF (rdOf M t) (pts M t)))), (9, .int (iI (gapN M t))), (10, .int (iI (swp M t)))]), W p l e { frames := 9, cells := 12, slots := 72, locals := 201 } s m ([.ref o] : List Value).toArray below meth c H locs cells slots Q (F0 m 415 ls [.int (iI z0), .int (iI (sumZ (goodN M) t))]) := by
                intro z0 jez0 ls hl
                subst jez0
                refine k_iadd hx hb dL_trails_415 ?_
                refine lv_istore_n (lv' := [(3, .int (iI ((sumZ (goodN M) t) + (goodN M t)))), (2, .int (iI ((sumZ (gapN M) t) + (gapN M t)))), (1, .int (iI ((sumZ (pts M) t) + (pts M t)))), (12, .int (iI (goodN M t))), (11, .int (iI (frF M t))), (6, .int (iI (pts M t))), (5, .int (iI t)), (4, .int (iI (sumZ (spF M) t))), (0, .ref o), (7, .int (iI (lsF (rdOf M t) (pts M t)))), (8, .int (iI (moF (rdOf M t) (pts M t)))), (9, .int (iI (gapN M t))), (10, .int (iI (swp M t)))]) hx hb dL_trails_416 rfl hl (by decide) rfl (fun ls hl => ?_)
                refine lv_iload hx hb dL_trails_417 (lv_at hl 7 rfl) ?_
                refine lv_iload hx hb dL_trails_419 (lv_at hl 5 rfl) ?_
                refine k_iconst hx hb dL_trails_421 ?_
                have join434 : ∀ (z0 : Int) (jez0 : z0 = spF M t) (ls : Array Slot) (hl : lv_has ls 19 [(3, .int (iI ((sumZ (goodN M) t) + (goodN M t)))), (2, .int (iI ((sumZ (gapN M) t) + (gapN M t)))), (1, .int (iI ((sumZ (pts M) t) + (pts M t)))), (12, .int (iI (goodN M t))), (11, .int (iI (frF M t))), (6, .int (iI (pts M t))), (5, .int (iI t)), (4, .int (iI (sumZ (spF M) t))), (0, .ref o), (7, .int (iI (lsF (rdOf M t) (pts M t)))), (8, .int (iI (moF (rdOf M t) (pts M t)))), (9, .int (iI (gapN M t))), (10, .int (iI (swp M t)))]), W p l e { frames := 9, cells := 12, slots := 72, locals := 201 } s m ([.ref o] : List Value).toArray below meth c H locs cells slots Q (F0 m 434 ls [.int (iI z0), .int (iI (sumZ (spF M) t))]) := by
                  intro z0 jez0 ls hl
                  subst jez0
                  refine k_iadd hx hb dL_trails_434 ?_
                  refine lv_istore (lv' := [(4, .int (iI ((sumZ (spF M) t) + (spF M t)))), (3, .int (iI ((sumZ (goodN M) t) + (goodN M t)))), (2, .int (iI ((sumZ (gapN M) t) + (gapN M t)))), (1, .int (iI ((sumZ (pts M) t) + (pts M t)))), (12, .int (iI (goodN M t))), (11, .int (iI (frF M t))), (6, .int (iI (pts M t))), (5, .int (iI t)), (0, .ref o), (7, .int (iI (lsF (rdOf M t) (pts M t)))), (8, .int (iI (moF (rdOf M t) (pts M t)))), (9, .int (iI (gapN M t))), (10, .int (iI (swp M t)))]) hx hb dL_trails_435 hl (by decide) rfl (fun ls hl => ?_)
                  refine lv_iload hx hb dL_trails_437 (lv_at hl 6 rfl) ?_
                  have join584 : ∀ (z0 : Int) (jez0 : z0 = 1) (H : Heap) (locs : List Loc) (hW : OW D cy A0 s.heap o M n K H locs) (ls : Array Slot) (hl : lv_has ls 19 [(4, .int (iI ((sumZ (spF M) t) + (spF M t)))), (3, .int (iI ((sumZ (goodN M) t) + (goodN M t)))), (2, .int (iI ((sumZ (gapN M) t) + (gapN M t)))), (1, .int (iI ((sumZ (pts M) t) + (pts M t)))), (12, .int (iI (goodN M t))), (11, .int (iI (frF M t))), (6, .int (iI (pts M t))), (5, .int (iI t)), (0, .ref o), (7, .int (iI (lsF (rdOf M t) (pts M t)))), (8, .int (iI (moF (rdOf M t) (pts M t)))), (9, .int (iI (gapN M t))), (10, .int (iI (swp M t)))]), W p l e { frames := 9, cells := 12, slots := 72, locals := 201 } s m ([.ref o] : List Value).toArray below meth c H locs cells slots Q (F0 m 584 ls [.int (iI z0)]) := by
                    intro z0 jez0 H locs hW ls hl
                    subst jez0
                    refine lv_istore (lv' := [(13, .int (iI 1)), (4, .int (iI ((sumZ (spF M) t) + (spF M t)))), (3, .int (iI ((sumZ (goodN M) t) + (goodN M t)))), (2, .int (iI ((sumZ (gapN M) t) + (gapN M t)))), (1, .int (iI ((sumZ (pts M) t) + (pts M t)))), (12, .int (iI (goodN M t))), (11, .int (iI (frF M t))), (6, .int (iI (pts M t))), (5, .int (iI t)), (0, .ref o), (7, .int (iI (lsF (rdOf M t) (pts M t)))), (8, .int (iI (moF (rdOf M t) (pts M t)))), (9, .int (iI (gapN M t))), (10, .int (iI (swp M t)))]) hx hb dL_trails_584 hl (by decide) rfl (fun ls hl => ?_)
                    refine lv_iload hx hb dL_trails_586 (lv_at hl 0 rfl) ?_
                    refine k_if_eq (tgt := 639) hx hb dL_trails_588 (by decide) (by omega) (fun c_20 => ?_) (fun c_20 => ?_)
                    · exfalso; omega
                    · skip
                      refine lv_aload_n hx hb dL_trails_591 rfl (lv_at hl 9 rfl) ?_
                      refine lv_iload hx hb dL_trails_592 (lv_at hl 8 rfl) ?_
                      refine k_bipush hx hb dL_trails_594 (by decide +kernel) ?_
                      refine q_call0 (As := [.int (iI t), .int (iI 6)]) (rest := []) ⟨hx, hb, hml, hown, hts⟩ hGX hA (ck_ans (k_trail l D cy o M n K t 6 (show 0 ≤ t from by omega) (show t < M 12 from by omega) (show 0 ≤ (6 : Int) ∧ (6 : Int) ≤ 8 from by omega)) (show trV M (mat M (M 8)).1 t (6 : Int) = goodN M t from tr_6 M _ t)) gkL_trails_L_trail rfl ⟨rfl, rfl⟩ 3 rfl (by decide +kernel) ⟨Nat.le_of_ble_eq_true rfl, Nat.le_of_ble_eq_true rfl⟩ hW hl.1 rfl (Nat.le_of_ble_eq_true rfl) ⟨show cells ≤ 12 by omega, show slots ≤ 72 by omega⟩ dL_trails_596 (fun r_21 M_21 n_21 K_21 H locs hp hW => ?_)
                      obtain ⟨rfl, rfl, rfl, rfl⟩ := hp
                      refine lv_iload hx hb dL_trails_599 (lv_at hl 5 rfl) ?_
                      have join609 : ∀ (z0 : Int) (jez0 : z0 = goodN M t) (ls : Array Slot) (hl : lv_has ls 19 [(13, .int (iI 1)), (4, .int (iI ((sumZ (spF M) t) + (spF M t)))), (3, .int (iI ((sumZ (goodN M) t) + (goodN M t)))), (2, .int (iI ((sumZ (gapN M) t) + (gapN M t)))), (1, .int (iI ((sumZ (pts M) t) + (pts M t)))), (12, .int (iI (goodN M t))), (11, .int (iI (frF M t))), (6, .int (iI (pts M t))), (5, .int (iI t)), (0, .ref o), (7, .int (iI (lsF (rdOf M t) (pts M t)))), (8, .int (iI (moF (rdOf M t) (pts M t)))), (9, .int (iI (gapN M t))), (10, .int (iI (swp M t)))]), W p l e { frames := 9, cells := 12, slots := 72, locals := 201 } s m ([.ref o] : List Value).toArray below meth c H locs cells slots Q (F0 m 609 ls [.int (iI z0), .int (iI (goodN M t))]) := by
                        intro z0 jez0 ls hl
                        subst jez0
                        refine k_icmp_ne (tgt := 639) hx hb dL_trails_609 (by decide) (by omega) (by omega) (fun c_22 => ?_) (fun c_22 => ?_)
                        · exfalso; omega
                        · skip
                          refine lv_aload_n hx hb dL_trails_612 rfl (lv_at hl 9 rfl) ?_
                          refine lv_iload hx hb dL_trails_613 (lv_at hl 8 rfl) ?_
                          refine k_bipush hx hb dL_trails_615 (by decide +kernel) ?_
                          refine q_call0 (As := [.int (iI t), .int (iI 7)]) (rest := []) ⟨hx, hb, hml, hown, hts⟩ hGX hA (ck_ans (k_trail l D cy o M n K t 7 (show 0 ≤ t from by omega) (show t < M 12 from by omega) (show 0 ≤ (7 : Int) ∧ (7 : Int) ≤ 8 from by omega)) (show trV M (mat M (M 8)).1 t (7 : Int) = gapN M t from tr_7 M _ t)) gkL_trails_L_trail rfl ⟨rfl, rfl⟩ 3 rfl (by decide +kernel) ⟨Nat.le_of_ble_eq_true rfl, Nat.le_of_ble_eq_true rfl⟩ hW hl.1 rfl (Nat.le_of_ble_eq_true rfl) ⟨show cells ≤ 12 by omega, show slots ≤ 72 by omega⟩ dL_trails_617 (fun r_23 M_23 n_23 K_23 H locs hp hW => ?_)
                          obtain ⟨rfl, rfl, rfl, rfl⟩ := hp
                          refine lv_iload hx hb dL_trails_620 (lv_at hl 12 rfl) ?_
                          refine k_icmp_ne (tgt := 639) hx hb dL_trails_622 (by decide) (by omega) (by omega) (fun c_24 => ?_) (fun c_24 => ?_)
                          · exfalso; omega
                          · skip
                            refine lv_aload_n hx hb dL_trails_625 rfl (lv_at hl 9 rfl) ?_
                            refine lv_iload hx hb dL_trails_626 (lv_at hl 8 rfl) ?_
                            refine lv_iload hx hb dL_trails_628 (lv_at hl 7 rfl) ?_
                            refine k_iconst hx hb dL_trails_630 ?_
                            refine q_call1 (As := [.int (iI t), .int (iI (pts M t)), .int (iI 0)]) (rest := []) ⟨hx, hb, hml, hown, hts⟩ hGX hA (k_point_t l hst D cy o M n K t (pts M t) 0 (show -2147483648 ≤ t ∧ t ≤ 2147483647 from by omega) (show -2147483648 ≤ (pts M t) ∧ (pts M t) ≤ 2147483647 from by omega) (show ¬ ((0 ≤ t ∧ t < M 12) ∧ 0 ≤ (pts M t) ∧ (pts M t) < pts M t) from by omega)) gkL_trails_L_point rfl ⟨rfl, rfl⟩ 4 rfl (by decide +kernel) ⟨Nat.le_of_ble_eq_true rfl, Nat.le_of_ble_eq_true rfl⟩ hW hl.1 rfl (Nat.le_of_ble_eq_true rfl) ⟨show cells + 1 ≤ 12 by omega, show slots + 6 ≤ 72 by omega⟩ dL_trails_631 (fun r_25 M_25 n_25 K_25 H locs hp hW => ?_)
                            obtain ⟨rfl, rfl, rfl, rfl⟩ := hp
                            refine k_ldc (z := (-9030000)) hx hb hown hmw2 (by decide +kernel) dL_trails_634 ?_
                            refine k_icmp_eq (tgt := 641) hx hb dL_trails_636 (by decide) (by omega) (by omega) (fun c_26 => ?_) (fun c_26 => ?_)
                            · skip
                              refine lv_iinc (v := iI (t + 1)) (lv' := [(5, .int (iI (t + 1))), (13, .int (iI 1)), (4, .int (iI ((sumZ (spF M) t) + (spF M t)))), (3, .int (iI ((sumZ (goodN M) t) + (goodN M t)))), (2, .int (iI ((sumZ (gapN M) t) + (gapN M t)))), (1, .int (iI ((sumZ (pts M) t) + (pts M t)))), (12, .int (iI (goodN M t))), (11, .int (iI (frF M t))), (6, .int (iI (pts M t))), (0, .ref o), (7, .int (iI (lsF (rdOf M t) (pts M t)))), (8, .int (iI (moF (rdOf M t) (pts M t)))), (9, .int (iI (gapN M t))), (10, .int (iI (swp M t)))]) hx hb dL_trails_641 hl (k := 8) rfl (iI_add _ _) (by decide) rfl (fun ls hl => ?_)
                              refine lv_goto (tgt := 12) hx hb dL_trails_644 (by decide) ?_
                              exact ih12 (t + 1) ((sumZ (spF M) t) + (spF M t)) ((sumZ (goodN M) t) + (goodN M t)) ((sumZ (gapN M) t) + (gapN M t)) ((sumZ (pts M) t) + (pts M t)) (cells + 1) (slots + 6) (by omega) (by omega) ((sumZ_s _ hi0).symm) ((sumZ_s _ hi0).symm) ((sumZ_s _ hi0).symm) ((sumZ_s _ hi0).symm) (by omega) (by omega) H locs hW ls (lv_sub hl [0, 2, 3, 4, 5, 9] rfl)
                            · exfalso; omega
                      refine k_if_eq (tgt := 608) hx hb dL_trails_601 (by decide) (by omega) (fun c_27 => ?_) (fun c_27 => ?_)
                      · skip
                        refine k_iconst hx hb dL_trails_608 ?_
                        exact join609 0 (by first | rfl | omega) ls (lv_sub hl [0, 1, 2, 3, 4, 5, 6, 7, 8, 9, 10, 11, 12, 13] rfl)
                      · skip
                        refine k_iconst hx hb dL_trails_604 ?_
                        refine lv_goto (tgt := 609) hx hb dL_trails_605 (by decide) ?_
                        exact join609 1 (by first | rfl | omega) ls (lv_sub hl [0, 1, 2, 3, 4, 5, 6, 7, 8, 9, 10, 11, 12, 13] rfl)
                  refine k_if_ne (tgt := 486) hx hb dL_trails_439 (by decide) (by omega) (fun c_28 => ?_) (fun c_28 => ?_)
                  · skip
                    have hpp : 0 < pts M t := by omega
                    have hfr := fr_p hpp
                    have hfm : M 0 * frF M t = M 0 * fspan M t := by rw [hfr]
                    have hmi := inv_misf hI hi0 (show t < M 12 by omega) hpp
                    have hsw2 := inv_swp2 hI hi0 (show t < M 12 by omega) hpp
                    have hspn := inv_span hI hi0 (show t < M 12 by omega) hpp
                    have hspr := inv_sprd hI hi0 (show t < M 12 by omega) hpp
                    have hrdt := inv_rdT hI hi0 (show t < M 12 by omega) hpp
                    have hsp := hsp0 hpp
                    have hmm := hmm0 hpp
                    refine lv_aload_n hx hb dL_trails_486 rfl (lv_at hl 8 rfl) ?_
                    refine lv_iload hx hb dL_trails_487 (lv_at hl 7 rfl) ?_
                    refine k_iconst hx hb dL_trails_489 ?_
                    refine q_call0 (As := [.int (iI t), .int (iI 1)]) (rest := []) ⟨hx, hb, hml, hown, hts⟩ hGX hA (ck_ans (k_trail l D cy o M n K t 1 (show 0 ≤ t from by omega) (show t < M 12 from by omega) (show 0 ≤ (1 : Int) ∧ (1 : Int) ≤ 8 from by omega)) (show trV M (mat M (M 8)).1 t (1 : Int) = rdT M t from tr_1 M _ (show 0 < pts M t by omega))) gkL_trails_L_trail rfl ⟨rfl, rfl⟩ 3 rfl (by decide +kernel) ⟨Nat.le_of_ble_eq_true rfl, Nat.le_of_ble_eq_true rfl⟩ hW hl.1 rfl (Nat.le_of_ble_eq_true rfl) ⟨show cells ≤ 12 by omega, show slots ≤ 72 by omega⟩ dL_trails_490 (fun r_29 M_29 n_29 K_29 H locs hp hW => ?_)
                    obtain ⟨rfl, rfl, rfl, rfl⟩ := hp
                    refine lv_iload hx hb dL_trails_493 (lv_at hl 9 rfl) ?_
                    refine k_icmp_lt (tgt := 583) hx hb dL_trails_495 (by decide) (by omega) (by omega) (fun c_30 => ?_) (fun c_30 => ?_)
                    · exfalso; omega
                    · skip
                      refine lv_aload_n hx hb dL_trails_498 rfl (lv_at hl 8 rfl) ?_
                      refine lv_iload hx hb dL_trails_499 (lv_at hl 7 rfl) ?_
                      refine k_iconst hx hb dL_trails_501 ?_
                      refine q_call0 (As := [.int (iI t), .int (iI 1)]) (rest := []) ⟨hx, hb, hml, hown, hts⟩ hGX hA (ck_ans (k_trail l D cy o M n K t 1 (show 0 ≤ t from by omega) (show t < M 12 from by omega) (show 0 ≤ (1 : Int) ∧ (1 : Int) ≤ 8 from by omega)) (show trV M (mat M (M 8)).1 t (1 : Int) = rdT M t from tr_1 M _ (show 0 < pts M t by omega))) gkL_trails_L_trail rfl ⟨rfl, rfl⟩ 3 rfl (by decide +kernel) ⟨Nat.le_of_ble_eq_true rfl, Nat.le_of_ble_eq_true rfl⟩ hW hl.1 rfl (Nat.le_of_ble_eq_true rfl) ⟨show cells ≤ 12 by omega, show slots ≤ 72 by omega⟩ dL_trails_502 (fun r_31 M_31 n_31 K_31 H locs hp hW => ?_)
                      obtain ⟨rfl, rfl, rfl, rfl⟩ := hp
                      refine lv_iload hx hb dL_trails_505 (lv_at hl 10 rfl) ?_
                      refine k_icmp_gt (tgt := 583) hx hb dL_trails_507 (by decide) (by omega) (by omega) (fun c_32 => ?_) (fun c_32 => ?_)
                      · exfalso; omega
                      · skip
                        refine lv_aload_n hx hb dL_trails_510 rfl (lv_at hl 8 rfl) ?_
                        refine lv_iload hx hb dL_trails_511 (lv_at hl 7 rfl) ?_
                        refine k_iconst hx hb dL_trails_513 ?_
                        refine q_call0 (As := [.int (iI t), .int (iI 2)]) (rest := []) ⟨hx, hb, hml, hown, hts⟩ hGX hA (ck_ans (k_trail l D cy o M n K t 2 (show 0 ≤ t from by omega) (show t < M 12 from by omega) (show 0 ≤ (2 : Int) ∧ (2 : Int) ≤ 8 from by omega)) (show trV M (mat M (M 8)).1 t (2 : Int) = sprd M t from tr_2 M _ (show 0 < pts M t by omega))) gkL_trails_L_trail rfl ⟨rfl, rfl⟩ 3 rfl (by decide +kernel) ⟨Nat.le_of_ble_eq_true rfl, Nat.le_of_ble_eq_true rfl⟩ hW hl.1 rfl (Nat.le_of_ble_eq_true rfl) ⟨show cells ≤ 12 by omega, show slots ≤ 72 by omega⟩ dL_trails_514 (fun r_33 M_33 n_33 K_33 H locs hp hW => ?_)
                        obtain ⟨rfl, rfl, rfl, rfl⟩ := hp
                        refine lv_iload hx hb dL_trails_517 (lv_at hl 10 rfl) ?_
                        refine lv_iload hx hb dL_trails_519 (lv_at hl 9 rfl) ?_
                        refine k_isub hx hb dL_trails_521 ?_
                        refine k_icmp_ne (tgt := 583) hx hb dL_trails_522 (by decide) (by omega) (by omega) (fun c_34 => ?_) (fun c_34 => ?_)
                        · exfalso; omega
                        · skip
                          refine lv_aload_n hx hb dL_trails_525 rfl (lv_at hl 8 rfl) ?_
                          refine lv_iload hx hb dL_trails_526 (lv_at hl 7 rfl) ?_
                          refine k_iconst hx hb dL_trails_528 ?_
                          refine q_call0 (As := [.int (iI t), .int (iI 3)]) (rest := []) ⟨hx, hb, hml, hown, hts⟩ hGX hA (ck_ans (k_trail l D cy o M n K t 3 (show 0 ≤ t from by omega) (show t < M 12 from by omega) (show 0 ≤ (3 : Int) ∧ (3 : Int) ≤ 8 from by omega)) (show trV M (mat M (M 8)).1 t (3 : Int) = swp M t from tr_3 M _ (show 0 < pts M t by omega))) gkL_trails_L_trail rfl ⟨rfl, rfl⟩ 3 rfl (by decide +kernel) ⟨Nat.le_of_ble_eq_true rfl, Nat.le_of_ble_eq_true rfl⟩ hW hl.1 rfl (Nat.le_of_ble_eq_true rfl) ⟨show cells ≤ 12 by omega, show slots ≤ 72 by omega⟩ dL_trails_529 (fun r_35 M_35 n_35 K_35 H locs hp hW => ?_)
                          obtain ⟨rfl, rfl, rfl, rfl⟩ := hp
                          refine lv_iload hx hb dL_trails_532 (lv_at hl 12 rfl) ?_
                          refine k_icmp_ne (tgt := 583) hx hb dL_trails_534 (by decide) (by omega) (by omega) (fun c_36 => ?_) (fun c_36 => ?_)
                          · exfalso; omega
                          · skip
                            refine lv_aload_n hx hb dL_trails_537 rfl (lv_at hl 8 rfl) ?_
                            refine lv_iload hx hb dL_trails_538 (lv_at hl 7 rfl) ?_
                            refine k_iconst hx hb dL_trails_540 ?_
                            refine q_call0 (As := [.int (iI t), .int (iI 4)]) (rest := []) ⟨hx, hb, hml, hown, hts⟩ hGX hA (ck_ans (k_trail l D cy o M n K t 4 (show 0 ≤ t from by omega) (show t < M 12 from by omega) (show 0 ≤ (4 : Int) ∧ (4 : Int) ≤ 8 from by omega)) (show trV M (mat M (M 8)).1 t (4 : Int) = M 0 * fspan M t from tr_4 M _ (show 0 < pts M t by omega))) gkL_trails_L_trail rfl ⟨rfl, rfl⟩ 3 rfl (by decide +kernel) ⟨Nat.le_of_ble_eq_true rfl, Nat.le_of_ble_eq_true rfl⟩ hW hl.1 rfl (Nat.le_of_ble_eq_true rfl) ⟨show cells ≤ 12 by omega, show slots ≤ 72 by omega⟩ dL_trails_541 (fun r_37 M_37 n_37 K_37 H locs hp hW => ?_)
                            obtain ⟨rfl, rfl, rfl, rfl⟩ := hp
                            refine lv_aload_n hx hb dL_trails_544 rfl (lv_at hl 8 rfl) ?_
                            refine k_iconst hx hb dL_trails_545 ?_
                            refine q_call0 (As := [.int (iI 0)]) (rest := [.int (iI (M 0 * fspan M t))]) ⟨hx, hb, hml, hown, hts⟩ hGX hA (k_setting l D cy o M n K 0 (show 0 ≤ (0 : Int) ∧ (0 : Int) ≤ 9 from by omega)) gkL_trails_L_setting rfl ⟨rfl, rfl⟩ 2 rfl (by decide +kernel) ⟨Nat.le_of_ble_eq_true rfl, Nat.le_of_ble_eq_true rfl⟩ hW hl.1 rfl (Nat.le_of_ble_eq_true rfl) ⟨show cells ≤ 12 by omega, show slots ≤ 72 by omega⟩ dL_trails_546 (fun r_38 M_38 n_38 K_38 H locs hp hW => ?_)
                            obtain ⟨rfl, rfl, rfl, rfl⟩ := hp
                            refine lv_iload hx hb dL_trails_549 (lv_at hl 5 rfl) ?_
                            refine k_imul hx hb dL_trails_551 ?_
                            refine k_icmp_ne (tgt := 583) hx hb dL_trails_552 (by decide) (by omega) (by omega) (fun c_39 => ?_) (fun c_39 => ?_)
                            · exfalso; rw [hfr] at c_39; omega
                            · skip
                              refine lv_aload_n hx hb dL_trails_555 rfl (lv_at hl 8 rfl) ?_
                              refine lv_iload hx hb dL_trails_556 (lv_at hl 7 rfl) ?_
                              refine k_iconst hx hb dL_trails_558 ?_
                              refine q_call0 (As := [.int (iI t), .int (iI 5)]) (rest := []) ⟨hx, hb, hml, hown, hts⟩ hGX hA (ck_ans (k_trail l D cy o M n K t 5 (show 0 ≤ t from by omega) (show t < M 12 from by omega) (show 0 ≤ (5 : Int) ∧ (5 : Int) ≤ 8 from by omega)) (show trV M (mat M (M 8)).1 t (5 : Int) = misf M t from tr_5 M _ (show 0 < pts M t by omega))) gkL_trails_L_trail rfl ⟨rfl, rfl⟩ 3 rfl (by decide +kernel) ⟨Nat.le_of_ble_eq_true rfl, Nat.le_of_ble_eq_true rfl⟩ hW hl.1 rfl (Nat.le_of_ble_eq_true rfl) ⟨show cells ≤ 12 by omega, show slots ≤ 72 by omega⟩ dL_trails_559 (fun r_40 M_40 n_40 K_40 H locs hp hW => ?_)
                              obtain ⟨rfl, rfl, rfl, rfl⟩ := hp
                              refine lv_iload hx hb dL_trails_562 (lv_at hl 12 rfl) ?_
                              refine lv_aload_n hx hb dL_trails_564 rfl (lv_at hl 8 rfl) ?_
                              refine k_iconst hx hb dL_trails_565 ?_
                              refine q_call0 (As := [.int (iI 0)]) (rest := [.int (iI (swp M t)), .int (iI (misf M t))]) ⟨hx, hb, hml, hown, hts⟩ hGX hA (k_setting l D cy o M n K 0 (show 0 ≤ (0 : Int) ∧ (0 : Int) ≤ 9 from by omega)) gkL_trails_L_setting rfl ⟨rfl, rfl⟩ 2 rfl (by decide +kernel) ⟨Nat.le_of_ble_eq_true rfl, Nat.le_of_ble_eq_true rfl⟩ hW hl.1 rfl (Nat.le_of_ble_eq_true rfl) ⟨show cells ≤ 12 by omega, show slots ≤ 72 by omega⟩ dL_trails_566 (fun r_41 M_41 n_41 K_41 H locs hp hW => ?_)
                              obtain ⟨rfl, rfl, rfl, rfl⟩ := hp
                              refine lv_iload hx hb dL_trails_569 (lv_at hl 5 rfl) ?_
                              refine k_imul hx hb dL_trails_571 ?_
                              refine k_isub hx hb dL_trails_572 ?_
                              refine k_roS (As := [.int (iI ((swp M t) - ((M (0 : Int)) * (frF M t))))]) (rest := [.int (iI (misf M t))]) ⟨hx, hb, hml, hown, hts⟩ (c_L_size l D ((swp M t) - ((M (0 : Int)) * (frF M t))) (by rw [hfr]; omega)) gkL_trails_L_size rfl ⟨rfl, rfl⟩ 1 rfl (by decide +kernel) ⟨Nat.le_of_ble_eq_true rfl, Nat.le_of_ble_eq_true rfl⟩ kGT_ok trivial (fun k q h => by simp at h) hl.1 rfl (Nat.le_of_ble_eq_true rfl) ⟨show cells ≤ 12 by omega, show slots ≤ 72 by omega⟩ dL_trails_573 (fun r_42 hr_42 => ?_)
                              have hr_42 : r_42 = absI ((swp M t) - ((M (0 : Int)) * (frF M t))) := hr_42
                              subst hr_42
                              have habs42 := absI_spec ((swp M t) - ((M (0 : Int)) * (frF M t)))
                              refine k_eqI (v := absI ((swp M t) - ((M (0 : Int)) * (frF M t)))) (w := misf M t) (by rw [hfr]; rfl) ?_
                              refine k_icmp_ne (tgt := 583) hx hb dL_trails_576 (by decide) (by omega) (by omega) (fun c_43 => ?_) (fun c_43 => ?_)
                              · exfalso; omega
                              · skip
                                refine k_iconst hx hb dL_trails_579 ?_
                                refine lv_goto (tgt := 584) hx hb dL_trails_580 (by decide) ?_
                                exact join584 1 (by first | rfl | omega) H locs hW ls (lv_sub hl [0, 1, 2, 3, 4, 5, 6, 7, 8, 9, 10, 11, 12] rfl)
                  · skip
                    refine lv_aload_n hx hb dL_trails_442 rfl (lv_at hl 8 rfl) ?_
                    refine lv_iload hx hb dL_trails_443 (lv_at hl 7 rfl) ?_
                    refine k_iconst hx hb dL_trails_445 ?_
                    refine q_call0 (As := [.int (iI t), .int (iI 1)]) (rest := []) ⟨hx, hb, hml, hown, hts⟩ hGX hA (ck_ans (k_trail l D cy o M n K t 1 (show 0 ≤ t from by omega) (show t < M 12 from by omega) (show 0 ≤ (1 : Int) ∧ (1 : Int) ≤ 8 from by omega)) (show trV M (mat M (M 8)).1 t (1 : Int) = (-1000000000) from tr_z M _ (by omega) (by decide) (by decide))) gkL_trails_L_trail rfl ⟨rfl, rfl⟩ 3 rfl (by decide +kernel) ⟨Nat.le_of_ble_eq_true rfl, Nat.le_of_ble_eq_true rfl⟩ hW hl.1 rfl (Nat.le_of_ble_eq_true rfl) ⟨show cells ≤ 12 by omega, show slots ≤ 72 by omega⟩ dL_trails_446 (fun r_44 M_44 n_44 K_44 H locs hp hW => ?_)
                    obtain ⟨rfl, rfl, rfl, rfl⟩ := hp
                    refine k_ldc (z := (-1000000000)) hx hb hown hmw0 (by decide +kernel) dL_trails_449 ?_
                    refine k_icmp_ne (tgt := 482) hx hb dL_trails_451 (by decide) (by omega) (by omega) (fun c_45 => ?_) (fun c_45 => ?_)
                    · exfalso; omega
                    · skip
                      refine lv_aload_n hx hb dL_trails_454 rfl (lv_at hl 8 rfl) ?_
                      refine lv_iload hx hb dL_trails_455 (lv_at hl 7 rfl) ?_
                      refine k_iconst hx hb dL_trails_457 ?_
                      refine q_call0 (As := [.int (iI t), .int (iI 2)]) (rest := []) ⟨hx, hb, hml, hown, hts⟩ hGX hA (ck_ans (k_trail l D cy o M n K t 2 (show 0 ≤ t from by omega) (show t < M 12 from by omega) (show 0 ≤ (2 : Int) ∧ (2 : Int) ≤ 8 from by omega)) (show trV M (mat M (M 8)).1 t (2 : Int) = (-1000000000) from tr_z M _ (by omega) (by decide) (by decide))) gkL_trails_L_trail rfl ⟨rfl, rfl⟩ 3 rfl (by decide +kernel) ⟨Nat.le_of_ble_eq_true rfl, Nat.le_of_ble_eq_true rfl⟩ hW hl.1 rfl (Nat.le_of_ble_eq_true rfl) ⟨show cells ≤ 12 by omega, show slots ≤ 72 by omega⟩ dL_trails_458 (fun r_46 M_46 n_46 K_46 H locs hp hW => ?_)
                      obtain ⟨rfl, rfl, rfl, rfl⟩ := hp
                      refine k_ldc (z := (-1000000000)) hx hb hown hmw0 (by decide +kernel) dL_trails_461 ?_
                      refine k_icmp_ne (tgt := 482) hx hb dL_trails_463 (by decide) (by omega) (by omega) (fun c_47 => ?_) (fun c_47 => ?_)
                      · exfalso; omega
                      · skip
                        refine lv_aload_n hx hb dL_trails_466 rfl (lv_at hl 8 rfl) ?_
                        refine lv_iload hx hb dL_trails_467 (lv_at hl 7 rfl) ?_
                        refine k_iconst hx hb dL_trails_469 ?_
                        refine q_call0 (As := [.int (iI t), .int (iI 5)]) (rest := []) ⟨hx, hb, hml, hown, hts⟩ hGX hA (ck_ans (k_trail l D cy o M n K t 5 (show 0 ≤ t from by omega) (show t < M 12 from by omega) (show 0 ≤ (5 : Int) ∧ (5 : Int) ≤ 8 from by omega)) (show trV M (mat M (M 8)).1 t (5 : Int) = (-1000000000) from tr_z M _ (by omega) (by decide) (by decide))) gkL_trails_L_trail rfl ⟨rfl, rfl⟩ 3 rfl (by decide +kernel) ⟨Nat.le_of_ble_eq_true rfl, Nat.le_of_ble_eq_true rfl⟩ hW hl.1 rfl (Nat.le_of_ble_eq_true rfl) ⟨show cells ≤ 12 by omega, show slots ≤ 72 by omega⟩ dL_trails_470 (fun r_48 M_48 n_48 K_48 H locs hp hW => ?_)
                        obtain ⟨rfl, rfl, rfl, rfl⟩ := hp
                        refine k_ldc (z := (-1000000000)) hx hb hown hmw0 (by decide +kernel) dL_trails_473 ?_
                        refine k_icmp_ne (tgt := 482) hx hb dL_trails_475 (by decide) (by omega) (by omega) (fun c_49 => ?_) (fun c_49 => ?_)
                        · exfalso; omega
                        · skip
                          refine k_iconst hx hb dL_trails_478 ?_
                          refine lv_goto (tgt := 584) hx hb dL_trails_479 (by decide) ?_
                          exact join584 1 (by first | rfl | omega) H locs hW ls (lv_sub hl [0, 1, 2, 3, 4, 5, 6, 7, 8, 9, 10, 11, 12] rfl)
                refine k_icmp_le (tgt := 433) hx hb dL_trails_422 (by decide) (by omega) (by omega) (fun c_50 => ?_) (fun c_50 => ?_)
                · skip
                  refine k_iconst hx hb dL_trails_433 ?_
                  exact join434 0 (by first | omega | (have hsp := hsp0 (by omega); omega)) ls (lv_sub hl [0, 1, 2, 3, 4, 5, 6, 7, 8, 9, 10, 11, 12] rfl)
                · skip
                  refine lv_iload hx hb dL_trails_425 (lv_at hl 10 rfl) ?_
                  refine lv_iload hx hb dL_trails_427 (lv_at hl 9 rfl) ?_
                  refine k_isub hx hb dL_trails_429 ?_
                  refine lv_goto (tgt := 434) hx hb dL_trails_430 (by decide) ?_
                  exact join434 ((moF (rdOf M t) (pts M t)) - (lsF (rdOf M t) (pts M t))) (by first | omega | (have hsp := hsp0 (by omega); omega)) ls (lv_sub hl [0, 1, 2, 3, 4, 5, 6, 7, 8, 9, 10, 11, 12] rfl)
              refine k_if_eq (tgt := 414) hx hb dL_trails_407 (by decide) (by omega) (fun c_51 => ?_) (fun c_51 => ?_)
              · skip
                refine k_iconst hx hb dL_trails_414 ?_
                exact join415 0 (by first | rfl | omega) ls (lv_sub hl [0, 1, 2, 3, 4, 5, 6, 7, 8, 9, 10, 11, 12] rfl)
              · skip
                refine k_iconst hx hb dL_trails_410 ?_
                refine lv_goto (tgt := 415) hx hb dL_trails_411 (by decide) ?_
                exact join415 1 (by first | rfl | omega) ls (lv_sub hl [0, 1, 2, 3, 4, 5, 6, 7, 8, 9, 10, 11, 12] rfl)
            refine k_icmp_le (tgt := 391) hx hb dL_trails_349 (by decide) (by omega) (by omega) (fun c_52 => ?_) (fun c_52 => ?_)
            · skip
              refine k_iconst hx hb dL_trails_391 ?_
              exact join392 0 (by first | exact (goodN_1 ⟨by omega, by omega, by omega⟩).symm | exact (goodN_0 (fun h9 => by have h91 := h9.1; have h92 := h9.2.1; have h93 := h9.2.2; omega)).symm) H locs hW ls (lv_sub hl [0, 1, 2, 3, 4, 5, 6, 7, 8, 9, 10, 11] rfl)
            · skip
              have hpp : 0 < pts M t := by omega
              have hfr := fr_p hpp
              have hfm : M 0 * frF M t = M 0 * fspan M t := by rw [hfr]
              have hmi := inv_misf hI hi0 (show t < M 12 by omega) hpp
              have hsw2 := inv_swp2 hI hi0 (show t < M 12 by omega) hpp
              have hspn := inv_span hI hi0 (show t < M 12 by omega) hpp
              have hspr := inv_sprd hI hi0 (show t < M 12 by omega) hpp
              have hrdt := inv_rdT hI hi0 (show t < M 12 by omega) hpp
              have hsp := hsp0 hpp
              have hmm := hmm0 hpp
              refine lv_iload hx hb dL_trails_352 (lv_at hl 9 rfl) ?_
              refine lv_iload hx hb dL_trails_354 (lv_at hl 8 rfl) ?_
              refine k_isub hx hb dL_trails_356 ?_
              refine lv_aload_n hx hb dL_trails_357 rfl (lv_at hl 7 rfl) ?_
              refine k_iconst hx hb dL_trails_358 ?_
              refine q_call0 (As := [.int (iI 3)]) (rest := [.int (iI ((moF (rdOf M t) (pts M t)) - (lsF (rdOf M t) (pts M t))))]) ⟨hx, hb, hml, hown, hts⟩ hGX hA (k_setting l D cy o M n K 3 (show 0 ≤ (3 : Int) ∧ (3 : Int) ≤ 9 from by omega)) gkL_trails_L_setting rfl ⟨rfl, rfl⟩ 2 rfl (by decide +kernel) ⟨Nat.le_of_ble_eq_true rfl, Nat.le_of_ble_eq_true rfl⟩ hW hl.1 rfl (Nat.le_of_ble_eq_true rfl) ⟨show cells ≤ 12 by omega, show slots ≤ 72 by omega⟩ dL_trails_359 (fun r_53 M_53 n_53 K_53 H locs hp hW => ?_)
              obtain ⟨rfl, rfl, rfl, rfl⟩ := hp
              refine k_icmp_gt (tgt := 391) hx hb dL_trails_362 (by decide) (by omega) (by omega) (fun c_54 => ?_) (fun c_54 => ?_)
              · skip
                refine k_iconst hx hb dL_trails_391 ?_
                exact join392 0 (by first | exact (goodN_1 ⟨by omega, by omega, by omega⟩).symm | exact (goodN_0 (fun h9 => by have h91 := h9.1; have h92 := h9.2.1; have h93 := h9.2.2; omega)).symm) H locs hW ls (lv_sub hl [0, 1, 2, 3, 4, 5, 6, 7, 8, 9, 10, 11] rfl)
              · skip
                refine lv_iload hx hb dL_trails_365 (lv_at hl 11 rfl) ?_
                refine lv_aload_n hx hb dL_trails_367 rfl (lv_at hl 7 rfl) ?_
                refine k_iconst hx hb dL_trails_368 ?_
                refine q_call0 (As := [.int (iI 0)]) (rest := [.int (iI (swp M t))]) ⟨hx, hb, hml, hown, hts⟩ hGX hA (k_setting l D cy o M n K 0 (show 0 ≤ (0 : Int) ∧ (0 : Int) ≤ 9 from by omega)) gkL_trails_L_setting rfl ⟨rfl, rfl⟩ 2 rfl (by decide +kernel) ⟨Nat.le_of_ble_eq_true rfl, Nat.le_of_ble_eq_true rfl⟩ hW hl.1 rfl (Nat.le_of_ble_eq_true rfl) ⟨show cells ≤ 12 by omega, show slots ≤ 72 by omega⟩ dL_trails_369 (fun r_55 M_55 n_55 K_55 H locs hp hW => ?_)
                obtain ⟨rfl, rfl, rfl, rfl⟩ := hp
                refine lv_iload hx hb dL_trails_372 (lv_at hl 0 rfl) ?_
                refine k_imul hx hb dL_trails_374 ?_
                refine k_isub hx hb dL_trails_375 ?_
                refine k_roS (As := [.int (iI ((swp M t) - ((M (0 : Int)) * (frF M t))))]) (rest := []) ⟨hx, hb, hml, hown, hts⟩ (c_L_size l D ((swp M t) - ((M (0 : Int)) * (frF M t))) (by rw [hfr]; omega)) gkL_trails_L_size rfl ⟨rfl, rfl⟩ 1 rfl (by decide +kernel) ⟨Nat.le_of_ble_eq_true rfl, Nat.le_of_ble_eq_true rfl⟩ kGT_ok trivial (fun k q h => by simp at h) hl.1 rfl (Nat.le_of_ble_eq_true rfl) ⟨show cells ≤ 12 by omega, show slots ≤ 72 by omega⟩ dL_trails_376 (fun r_56 hr_56 => ?_)
                have hr_56 : r_56 = absI ((swp M t) - ((M (0 : Int)) * (frF M t))) := hr_56
                subst hr_56
                have habs56 := absI_spec ((swp M t) - ((M (0 : Int)) * (frF M t)))
                refine k_eqI (v := absI ((swp M t) - ((M (0 : Int)) * (frF M t)))) (w := misf M t) (by rw [hfr]; rfl) ?_
                refine lv_aload_n hx hb dL_trails_379 rfl (lv_at hl 7 rfl) ?_
                refine k_iconst hx hb dL_trails_380 ?_
                refine q_call0 (As := [.int (iI 4)]) (rest := [.int (iI (misf M t))]) ⟨hx, hb, hml, hown, hts⟩ hGX hA (k_setting l D cy o M n K 4 (show 0 ≤ (4 : Int) ∧ (4 : Int) ≤ 9 from by omega)) gkL_trails_L_setting rfl ⟨rfl, rfl⟩ 2 rfl (by decide +kernel) ⟨Nat.le_of_ble_eq_true rfl, Nat.le_of_ble_eq_true rfl⟩ hW hl.1 rfl (Nat.le_of_ble_eq_true rfl) ⟨show cells ≤ 12 by omega, show slots ≤ 72 by omega⟩ dL_trails_381 (fun r_57 M_57 n_57 K_57 H locs hp hW => ?_)
                obtain ⟨rfl, rfl, rfl, rfl⟩ := hp
                refine k_icmp_gt (tgt := 391) hx hb dL_trails_384 (by decide) (by omega) (by omega) (fun c_58 => ?_) (fun c_58 => ?_)
                · skip
                  refine k_iconst hx hb dL_trails_391 ?_
                  exact join392 0 (by first | exact (goodN_1 ⟨by omega, by omega, by omega⟩).symm | exact (goodN_0 (fun h9 => by have h91 := h9.1; have h92 := h9.2.1; have h93 := h9.2.2; omega)).symm) H locs hW ls (lv_sub hl [0, 1, 2, 3, 4, 5, 6, 7, 8, 9, 10, 11] rfl)
                · skip
                  refine k_iconst hx hb dL_trails_387 ?_
                  refine lv_goto (tgt := 392) hx hb dL_trails_388 (by decide) ?_
                  exact join392 1 (by first | exact (goodN_1 ⟨by omega, by omega, by omega⟩).symm | exact (goodN_0 (fun h9 => by have h91 := h9.1; have h92 := h9.2.1; have h93 := h9.2.2; omega)).symm) H locs hW ls (lv_sub hl [0, 1, 2, 3, 4, 5, 6, 7, 8, 9, 10, 11] rfl)
          refine k_if_ne (tgt := 324) hx hb dL_trails_317 (by decide) (by omega) (fun c_59 => ?_) (fun c_59 => ?_)
          · skip
            have hpp : 0 < pts M t := by omega
            have hfr := fr_p hpp
            have hfm : M 0 * frF M t = M 0 * fspan M t := by rw [hfr]
            have hmi := inv_misf hI hi0 (show t < M 12 by omega) hpp
            have hsw2 := inv_swp2 hI hi0 (show t < M 12 by omega) hpp
            have hspn := inv_span hI hi0 (show t < M 12 by omega) hpp
            have hspr := inv_sprd hI hi0 (show t < M 12 by omega) hpp
            have hrdt := inv_rdT hI hi0 (show t < M 12 by omega) hpp
            have hsp := hsp0 hpp
            have hmm := hmm0 hpp
            refine lv_aload_n hx hb dL_trails_324 rfl (lv_at hl 6 rfl) ?_
            refine lv_iload hx hb dL_trails_325 (lv_at hl 1 rfl) ?_
            refine lv_iload hx hb dL_trails_327 (lv_at hl 0 rfl) ?_
            refine k_iconst hx hb dL_trails_329 ?_
            refine k_isub hx hb dL_trails_330 ?_
            refine k_iconst hx hb dL_trails_331 ?_
            refine q_call0 (As := [.int (iI t), .int (iI ((pts M t) - 1)), .int (iI 0)]) (rest := []) ⟨hx, hb, hml, hown, hts⟩ hGX hA (ck_ans (k_point l D cy o M n K t ((pts M t) - 1) 0 (show 0 ≤ t from by omega) (show t < M 12 from by omega) (show 0 ≤ ((pts M t) - 1) from by omega) (show ((pts M t) - 1) < pts M t from by omega) (show 0 ≤ (0 : Int) ∧ (0 : Int) ≤ 6 from by omega)) (show ptV M t ((pts M t) - 1) (0 : Int) = frm M t (pts M t - 1) from pt_0 M t (pts M t - 1))) gkL_trails_L_point rfl ⟨rfl, rfl⟩ 4 rfl (by decide +kernel) ⟨Nat.le_of_ble_eq_true rfl, Nat.le_of_ble_eq_true rfl⟩ hW hl.1 rfl (Nat.le_of_ble_eq_true rfl) ⟨show cells ≤ 12 by omega, show slots ≤ 72 by omega⟩ dL_trails_332 (fun r_60 M_60 n_60 K_60 H locs hp hW => ?_)
            obtain ⟨rfl, rfl, rfl, rfl⟩ := hp
            refine lv_aload_n hx hb dL_trails_335 rfl (lv_at hl 6 rfl) ?_
            refine lv_iload hx hb dL_trails_336 (lv_at hl 1 rfl) ?_
            refine k_iconst hx hb dL_trails_338 ?_
            refine k_iconst hx hb dL_trails_339 ?_
            refine q_call0 (As := [.int (iI t), .int (iI 0), .int (iI 0)]) (rest := [.int (iI (frm M t (pts M t - 1)))]) ⟨hx, hb, hml, hown, hts⟩ hGX hA (ck_ans (k_point l D cy o M n K t 0 0 (show 0 ≤ t from by omega) (show t < M 12 from by omega) (show 0 ≤ (0 : Int) from by omega) (show (0 : Int) < pts M t from by omega) (show 0 ≤ (0 : Int) ∧ (0 : Int) ≤ 6 from by omega)) (show ptV M t (0 : Int) (0 : Int) = frm M t 0 from pt_0 M t 0)) gkL_trails_L_point rfl ⟨rfl, rfl⟩ 4 rfl (by decide +kernel) ⟨Nat.le_of_ble_eq_true rfl, Nat.le_of_ble_eq_true rfl⟩ hW hl.1 rfl (Nat.le_of_ble_eq_true rfl) ⟨show cells ≤ 12 by omega, show slots ≤ 72 by omega⟩ dL_trails_340 (fun r_61 M_61 n_61 K_61 H locs hp hW => ?_)
            obtain ⟨rfl, rfl, rfl, rfl⟩ := hp
            refine k_isub hx hb dL_trails_343 ?_
            exact join344 ((frm M t (pts M t - 1)) - (frm M t 0)) (by first | (rw [fr_z (by omega)]; done) | (rw [fr_p (by omega)]; rfl)) H locs hW ls (lv_sub hl [0, 1, 2, 3, 4, 5, 6, 7, 8, 9, 10] rfl)
          · skip
            refine k_iconst hx hb dL_trails_320 ?_
            refine lv_goto (tgt := 344) hx hb dL_trails_321 (by decide) ?_
            exact join344 0 (by first | (rw [fr_z (by omega)]; done) | (rw [fr_p (by omega)]; rfl)) H locs hW ls (lv_sub hl [0, 1, 2, 3, 4, 5, 6, 7, 8, 9, 10] rfl)
        refine k_iconst hx hb dL_trails_44 ?_
        refine lv_istore (lv' := [(11, .int (iI 0)), (10, .int (iI 0)), (9, .int (iI 0)), (8, .int (iI (-1))), (7, .int (iI 1000000)), (6, .int (iI (pts M t))), (5, .int (iI t)), (4, .int (iI (sumZ (spF M) t))), (3, .int (iI (sumZ (goodN M) t))), (2, .int (iI (sumZ (gapN M) t))), (1, .int (iI (sumZ (pts M) t))), (0, .ref o)]) hx hb dL_trails_45 hl (by decide) rfl (fun ls hl => ?_)
        have loop47 : ∀ (j_62 : Nat) (q : Int) (x10 : Int) (x9 : Int) (x8 : Int) (x7 : Int) (hj0 : 0 ≤ q) (hj1 : q ≤ pts M t) (hex10 : x10 = sumZ (tnF M t) (q - 1)) (hex9 : x9 = sumZ (gpF M t) (q - 1)) (hex8 : x8 = moF (rdOf M t) q) (hex7 : x7 = lsF (rdOf M t) q) (hn47 : pts M t - q < (j_62 : Int)) (H : Heap) (locs : List Loc) (hW : OW D cy A0 s.heap o M n K H locs) (ls : Array Slot) (hl : lv_has ls 19 [(11, .int (iI q)), (10, .int (iI x10)), (9, .int (iI x9)), (8, .int (iI x8)), (7, .int (iI x7)), (6, .int (iI (pts M t))), (5, .int (iI t)), (4, .int (iI (sumZ (spF M) t))), (3, .int (iI (sumZ (goodN M) t))), (2, .int (iI (sumZ (gapN M) t))), (1, .int (iI (sumZ (pts M) t))), (0, .ref o)]), W p l e { frames := 9, cells := 12, slots := 72, locals := 201 } s m ([.ref o] : List Value).toArray below meth c H locs cells slots Q (F0 m 47 ls []) := by
          intro j_62
          induction j_62 with
          | zero => intro q x10 x9 x8 x7 hj0 hj1 hex10 hex9 hex8 hex7 hn47 H locs hW ls hl; exfalso; omega
          | succ j_62 ih47 =>
            intro q x10 x9 x8 x7 hj0 hj1 hex10 hex9 hex8 hex7 hn47 H locs hW ls hl
            subst hex10
            subst hex9
            subst hex8
            subst hex7
            refine lv_iload hx hb dL_trails_47 (lv_at hl 0 rfl) ?_
            refine lv_iload hx hb dL_trails_49 (lv_at hl 5 rfl) ?_
            refine k_icmp_ge (tgt := 315) hx hb dL_trails_51 (by decide) (by omega) (by omega) (fun c_63 => ?_) (fun c_63 => ?_)
            · skip
              have hpe : q = pts M t := by omega
              exact join315 (lsF (rdOf M t) q) (moF (rdOf M t) q) (sumZ (gpF M t) (q - 1)) (sumZ (tnF M t) (q - 1)) (by rw [hpe]) (by rw [hpe]) (by rw [hpe]; rfl) (by rw [hpe]; rfl) H locs hW ls (lv_sub hl [5, 6, 7, 8, 9, 10, 11, 4, 3, 2, 1] rfl)
            · skip
              have hrd := inv_rd hI hi0 (show t < M 12 by omega) hj0 (show q < pts M t by omega)
              have han := inv_ang (M := M) t q
              have hls := ls_s (f := rdOf M t) hj0 hrd
              have hmo := mo_s (f := rdOf M t) hj0 hrd
              have hlm := lm_bd hI hi0 (show t < M 12 by omega) hj0 hj1
              have htb := tn_bd (M := M) (t := t) hj0 (by omega)
              have hfr0 := inv_frm hI hi0 (show t < M 12 by omega) hj0 (show q < pts M t by omega)
              have hdxy := inv_dxy hI hi0 (show t < M 12 by omega) hj0 (show q < pts M t by omega)
              have hsq := sum_sq hdxy.1 hdxy.2
              have hrt := rt_spec (n := (plX M t q - M 10) * (plX M t q - M 10) + (plY M t q - M 11) * (plY M t q - M 11)) (by omega)
              have hrt0 : rt ((plX M t q - M 10) * (plX M t q - M 10) + (plY M t q - M 11) * (plY M t q - M 11)) = rdOf M t q := rfl
              rw [hrt0] at hrt
              have hrq := sq_bd (d := rdOf M t q) (a := 9900) (by omega)
              have hrq1 := sq_bd (d := rdOf M t q + 1) (a := 9901) (by omega)
              refine lv_aload_n hx hb dL_trails_54 rfl (lv_at hl 11 rfl) ?_
              refine lv_iload hx hb dL_trails_55 (lv_at hl 6 rfl) ?_
              refine lv_iload hx hb dL_trails_57 (lv_at hl 0 rfl) ?_
              refine k_iconst hx hb dL_trails_59 ?_
              refine q_call0 (As := [.int (iI t), .int (iI q), .int (iI 5)]) (rest := []) ⟨hx, hb, hml, hown, hts⟩ hGX hA (ck_ans (k_point l D cy o M n K t q 5 (show 0 ≤ t from by omega) (show t < M 12 from by omega) (show 0 ≤ q from by omega) (show q < pts M t from by omega) (show 0 ≤ (5 : Int) ∧ (5 : Int) ≤ 6 from by omega)) (show ptV M t q (5 : Int) = rdOf M t q from pt_5 M t q)) gkL_trails_L_point rfl ⟨rfl, rfl⟩ 4 rfl (by decide +kernel) ⟨Nat.le_of_ble_eq_true rfl, Nat.le_of_ble_eq_true rfl⟩ hW hl.1 rfl (Nat.le_of_ble_eq_true rfl) ⟨show cells ≤ 12 by omega, show slots ≤ 72 by omega⟩ dL_trails_60 (fun r_64 M_64 n_64 K_64 H locs hp hW => ?_)
              obtain ⟨rfl, rfl, rfl, rfl⟩ := hp
              refine lv_istore (lv' := [(12, .int (iI (rdOf M t q))), (11, .int (iI q)), (10, .int (iI (sumZ (tnF M t) (q - 1)))), (9, .int (iI (sumZ (gpF M t) (q - 1)))), (8, .int (iI (moF (rdOf M t) q))), (7, .int (iI (lsF (rdOf M t) q))), (6, .int (iI (pts M t))), (5, .int (iI t)), (4, .int (iI (sumZ (spF M) t))), (3, .int (iI (sumZ (goodN M) t))), (2, .int (iI (sumZ (gapN M) t))), (1, .int (iI (sumZ (pts M) t))), (0, .ref o)]) hx hb dL_trails_63 hl (by decide) rfl (fun ls hl => ?_)
              refine lv_aload_n hx hb dL_trails_65 rfl (lv_at hl 12 rfl) ?_
              refine lv_iload hx hb dL_trails_66 (lv_at hl 7 rfl) ?_
              refine lv_iload hx hb dL_trails_68 (lv_at hl 1 rfl) ?_
              refine k_bipush hx hb dL_trails_70 (by decide +kernel) ?_
              refine q_call0 (As := [.int (iI t), .int (iI q), .int (iI 6)]) (rest := []) ⟨hx, hb, hml, hown, hts⟩ hGX hA (ck_ans (k_point l D cy o M n K t q 6 (show 0 ≤ t from by omega) (show t < M 12 from by omega) (show 0 ≤ q from by omega) (show q < pts M t from by omega) (show 0 ≤ (6 : Int) ∧ (6 : Int) ≤ 6 from by omega)) (show ptV M t q (6 : Int) = angOf M t q from pt_6 M t q)) gkL_trails_L_point rfl ⟨rfl, rfl⟩ 4 rfl (by decide +kernel) ⟨Nat.le_of_ble_eq_true rfl, Nat.le_of_ble_eq_true rfl⟩ hW hl.1 rfl (Nat.le_of_ble_eq_true rfl) ⟨show cells ≤ 12 by omega, show slots ≤ 72 by omega⟩ dL_trails_72 (fun r_65 M_65 n_65 K_65 H locs hp hW => ?_)
              obtain ⟨rfl, rfl, rfl, rfl⟩ := hp
              refine lv_istore (lv' := [(13, .int (iI (angOf M t q))), (12, .int (iI (rdOf M t q))), (11, .int (iI q)), (10, .int (iI (sumZ (tnF M t) (q - 1)))), (9, .int (iI (sumZ (gpF M t) (q - 1)))), (8, .int (iI (moF (rdOf M t) q))), (7, .int (iI (lsF (rdOf M t) q))), (6, .int (iI (pts M t))), (5, .int (iI t)), (4, .int (iI (sumZ (spF M) t))), (3, .int (iI (sumZ (goodN M) t))), (2, .int (iI (sumZ (gapN M) t))), (1, .int (iI (sumZ (pts M) t))), (0, .ref o)]) hx hb dL_trails_75 hl (by decide) rfl (fun ls hl => ?_)
              refine lv_aload_n hx hb dL_trails_77 rfl (lv_at hl 13 rfl) ?_
              refine lv_iload hx hb dL_trails_78 (lv_at hl 8 rfl) ?_
              refine lv_iload hx hb dL_trails_80 (lv_at hl 2 rfl) ?_
              refine k_iconst hx hb dL_trails_82 ?_
              refine q_call0 (As := [.int (iI t), .int (iI q), .int (iI 3)]) (rest := []) ⟨hx, hb, hml, hown, hts⟩ hGX hA (ck_ans (k_point l D cy o M n K t q 3 (show 0 ≤ t from by omega) (show t < M 12 from by omega) (show 0 ≤ q from by omega) (show q < pts M t from by omega) (show 0 ≤ (3 : Int) ∧ (3 : Int) ≤ 6 from by omega)) (show ptV M t q (3 : Int) = plX M t q from pt_3 M t q)) gkL_trails_L_point rfl ⟨rfl, rfl⟩ 4 rfl (by decide +kernel) ⟨Nat.le_of_ble_eq_true rfl, Nat.le_of_ble_eq_true rfl⟩ hW hl.1 rfl (Nat.le_of_ble_eq_true rfl) ⟨show cells ≤ 12 by omega, show slots ≤ 72 by omega⟩ dL_trails_83 (fun r_66 M_66 n_66 K_66 H locs hp hW => ?_)
              obtain ⟨rfl, rfl, rfl, rfl⟩ := hp
              refine lv_aload_n hx hb dL_trails_86 rfl (lv_at hl 13 rfl) ?_
              refine k_iconst hx hb dL_trails_87 ?_
              refine q_call0 (As := [.int (iI 2)]) (rest := [.int (iI (plX M t q))]) ⟨hx, hb, hml, hown, hts⟩ hGX hA (ck_ans (k_whole l D cy o M n K 2 (show 0 ≤ (2 : Int) ∧ (2 : Int) ≤ 10 from by omega)) (show whW M (2 : Int) = M 10 from wh_2 M)) gkL_trails_L_whole rfl ⟨rfl, rfl⟩ 2 rfl (by decide +kernel) ⟨Nat.le_of_ble_eq_true rfl, Nat.le_of_ble_eq_true rfl⟩ hW hl.1 rfl (Nat.le_of_ble_eq_true rfl) ⟨show cells ≤ 12 by omega, show slots ≤ 72 by omega⟩ dL_trails_88 (fun r_67 M_67 n_67 K_67 H locs hp hW => ?_)
              obtain ⟨rfl, rfl, rfl, rfl⟩ := hp
              refine k_isub hx hb dL_trails_91 ?_
              refine lv_istore (lv' := [(14, .int (iI ((plX M t q) - (M 10)))), (13, .int (iI (angOf M t q))), (12, .int (iI (rdOf M t q))), (11, .int (iI q)), (10, .int (iI (sumZ (tnF M t) (q - 1)))), (9, .int (iI (sumZ (gpF M t) (q - 1)))), (8, .int (iI (moF (rdOf M t) q))), (7, .int (iI (lsF (rdOf M t) q))), (6, .int (iI (pts M t))), (5, .int (iI t)), (4, .int (iI (sumZ (spF M) t))), (3, .int (iI (sumZ (goodN M) t))), (2, .int (iI (sumZ (gapN M) t))), (1, .int (iI (sumZ (pts M) t))), (0, .ref o)]) hx hb dL_trails_92 hl (by decide) rfl (fun ls hl => ?_)
              refine lv_aload_n hx hb dL_trails_94 rfl (lv_at hl 14 rfl) ?_
              refine lv_iload hx hb dL_trails_95 (lv_at hl 9 rfl) ?_
              refine lv_iload hx hb dL_trails_97 (lv_at hl 3 rfl) ?_
              refine k_iconst hx hb dL_trails_99 ?_
              refine q_call0 (As := [.int (iI t), .int (iI q), .int (iI 4)]) (rest := []) ⟨hx, hb, hml, hown, hts⟩ hGX hA (ck_ans (k_point l D cy o M n K t q 4 (show 0 ≤ t from by omega) (show t < M 12 from by omega) (show 0 ≤ q from by omega) (show q < pts M t from by omega) (show 0 ≤ (4 : Int) ∧ (4 : Int) ≤ 6 from by omega)) (show ptV M t q (4 : Int) = plY M t q from pt_4 M t q)) gkL_trails_L_point rfl ⟨rfl, rfl⟩ 4 rfl (by decide +kernel) ⟨Nat.le_of_ble_eq_true rfl, Nat.le_of_ble_eq_true rfl⟩ hW hl.1 rfl (Nat.le_of_ble_eq_true rfl) ⟨show cells ≤ 12 by omega, show slots ≤ 72 by omega⟩ dL_trails_100 (fun r_68 M_68 n_68 K_68 H locs hp hW => ?_)
              obtain ⟨rfl, rfl, rfl, rfl⟩ := hp
              refine lv_aload_n hx hb dL_trails_103 rfl (lv_at hl 14 rfl) ?_
              refine k_iconst hx hb dL_trails_104 ?_
              refine q_call0 (As := [.int (iI 3)]) (rest := [.int (iI (plY M t q))]) ⟨hx, hb, hml, hown, hts⟩ hGX hA (ck_ans (k_whole l D cy o M n K 3 (show 0 ≤ (3 : Int) ∧ (3 : Int) ≤ 10 from by omega)) (show whW M (3 : Int) = M 11 from wh_3 M)) gkL_trails_L_whole rfl ⟨rfl, rfl⟩ 2 rfl (by decide +kernel) ⟨Nat.le_of_ble_eq_true rfl, Nat.le_of_ble_eq_true rfl⟩ hW hl.1 rfl (Nat.le_of_ble_eq_true rfl) ⟨show cells ≤ 12 by omega, show slots ≤ 72 by omega⟩ dL_trails_105 (fun r_69 M_69 n_69 K_69 H locs hp hW => ?_)
              obtain ⟨rfl, rfl, rfl, rfl⟩ := hp
              refine k_isub hx hb dL_trails_108 ?_
              refine lv_istore (lv' := [(15, .int (iI ((plY M t q) - (M 11)))), (14, .int (iI ((plX M t q) - (M 10)))), (13, .int (iI (angOf M t q))), (12, .int (iI (rdOf M t q))), (11, .int (iI q)), (10, .int (iI (sumZ (tnF M t) (q - 1)))), (9, .int (iI (sumZ (gpF M t) (q - 1)))), (8, .int (iI (moF (rdOf M t) q))), (7, .int (iI (lsF (rdOf M t) q))), (6, .int (iI (pts M t))), (5, .int (iI t)), (4, .int (iI (sumZ (spF M) t))), (3, .int (iI (sumZ (goodN M) t))), (2, .int (iI (sumZ (gapN M) t))), (1, .int (iI (sumZ (pts M) t))), (0, .ref o)]) hx hb dL_trails_109 hl (by decide) rfl (fun ls hl => ?_)
              refine lv_iload hx hb dL_trails_111 (lv_at hl 1 rfl) ?_
              refine lv_iload hx hb dL_trails_113 (lv_at hl 1 rfl) ?_
              refine k_imul hx hb dL_trails_115 ?_
              refine lv_iload hx hb dL_trails_116 (lv_at hl 0 rfl) ?_
              refine lv_iload hx hb dL_trails_118 (lv_at hl 0 rfl) ?_
              refine k_imul hx hb dL_trails_120 ?_
              refine k_iadd hx hb dL_trails_121 ?_
              refine lv_istore (lv' := [(16, .int (iI ((((plX M t q) - (M 10)) * ((plX M t q) - (M 10))) + (((plY M t q) - (M 11)) * ((plY M t q) - (M 11)))))), (15, .int (iI ((plY M t q) - (M 11)))), (14, .int (iI ((plX M t q) - (M 10)))), (13, .int (iI (angOf M t q))), (12, .int (iI (rdOf M t q))), (11, .int (iI q)), (10, .int (iI (sumZ (tnF M t) (q - 1)))), (9, .int (iI (sumZ (gpF M t) (q - 1)))), (8, .int (iI (moF (rdOf M t) q))), (7, .int (iI (lsF (rdOf M t) q))), (6, .int (iI (pts M t))), (5, .int (iI t)), (4, .int (iI (sumZ (spF M) t))), (3, .int (iI (sumZ (goodN M) t))), (2, .int (iI (sumZ (gapN M) t))), (1, .int (iI (sumZ (pts M) t))), (0, .ref o)]) hx hb dL_trails_122 hl (by decide) rfl (fun ls hl => ?_)
              refine lv_iload hx hb dL_trails_124 (lv_at hl 4 rfl) ?_
              refine lv_iload hx hb dL_trails_126 (lv_at hl 9 rfl) ?_
              have join138 : ∀ (z0 : Int) (jez0 : z0 = lsF (rdOf M t) (q + 1)) (ls : Array Slot) (hl : lv_has ls 19 [(16, .int (iI ((((plX M t q) - (M 10)) * ((plX M t q) - (M 10))) + (((plY M t q) - (M 11)) * ((plY M t q) - (M 11)))))), (15, .int (iI ((plY M t q) - (M 11)))), (14, .int (iI ((plX M t q) - (M 10)))), (13, .int (iI (angOf M t q))), (12, .int (iI (rdOf M t q))), (11, .int (iI q)), (10, .int (iI (sumZ (tnF M t) (q - 1)))), (9, .int (iI (sumZ (gpF M t) (q - 1)))), (8, .int (iI (moF (rdOf M t) q))), (7, .int (iI (lsF (rdOf M t) q))), (6, .int (iI (pts M t))), (5, .int (iI t)), (4, .int (iI (sumZ (spF M) t))), (3, .int (iI (sumZ (goodN M) t))), (2, .int (iI (sumZ (gapN M) t))), (1, .int (iI (sumZ (pts M) t))), (0, .ref o)]), W p l e { frames := 9, cells := 12, slots := 72, locals := 201 } s m ([.ref o] : List Value).toArray below meth c H locs cells slots Q (F0 m 138 ls [.int (iI z0)]) := by
                intro z0 jez0 ls hl
                subst jez0
                refine lv_istore (lv' := [(7, .int (iI (lsF (rdOf M t) (q + 1)))), (16, .int (iI ((((plX M t q) - (M 10)) * ((plX M t q) - (M 10))) + (((plY M t q) - (M 11)) * ((plY M t q) - (M 11)))))), (15, .int (iI ((plY M t q) - (M 11)))), (14, .int (iI ((plX M t q) - (M 10)))), (13, .int (iI (angOf M t q))), (12, .int (iI (rdOf M t q))), (11, .int (iI q)), (10, .int (iI (sumZ (tnF M t) (q - 1)))), (9, .int (iI (sumZ (gpF M t) (q - 1)))), (8, .int (iI (moF (rdOf M t) q))), (6, .int (iI (pts M t))), (5, .int (iI t)), (4, .int (iI (sumZ (spF M) t))), (3, .int (iI (sumZ (goodN M) t))), (2, .int (iI (sumZ (gapN M) t))), (1, .int (iI (sumZ (pts M) t))), (0, .ref o)]) hx hb dL_trails_138 hl (by decide) rfl (fun ls hl => ?_)
                refine lv_iload hx hb dL_trails_140 (lv_at hl 5 rfl) ?_
                refine lv_iload hx hb dL_trails_142 (lv_at hl 9 rfl) ?_
                have join154 : ∀ (z0 : Int) (jez0 : z0 = moF (rdOf M t) (q + 1)) (ls : Array Slot) (hl : lv_has ls 19 [(7, .int (iI (lsF (rdOf M t) (q + 1)))), (16, .int (iI ((((plX M t q) - (M 10)) * ((plX M t q) - (M 10))) + (((plY M t q) - (M 11)) * ((plY M t q) - (M 11)))))), (15, .int (iI ((plY M t q) - (M 11)))), (14, .int (iI ((plX M t q) - (M 10)))), (13, .int (iI (angOf M t q))), (12, .int (iI (rdOf M t q))), (11, .int (iI q)), (10, .int (iI (sumZ (tnF M t) (q - 1)))), (9, .int (iI (sumZ (gpF M t) (q - 1)))), (8, .int (iI (moF (rdOf M t) q))), (6, .int (iI (pts M t))), (5, .int (iI t)), (4, .int (iI (sumZ (spF M) t))), (3, .int (iI (sumZ (goodN M) t))), (2, .int (iI (sumZ (gapN M) t))), (1, .int (iI (sumZ (pts M) t))), (0, .ref o)]), W p l e { frames := 9, cells := 12, slots := 72, locals := 201 } s m ([.ref o] : List Value).toArray below meth c H locs cells slots Q (F0 m 154 ls [.int (iI z0)]) := by
                  intro z0 jez0 ls hl
                  subst jez0
                  refine lv_istore (lv' := [(8, .int (iI (moF (rdOf M t) (q + 1)))), (7, .int (iI (lsF (rdOf M t) (q + 1)))), (16, .int (iI ((((plX M t q) - (M 10)) * ((plX M t q) - (M 10))) + (((plY M t q) - (M 11)) * ((plY M t q) - (M 11)))))), (15, .int (iI ((plY M t q) - (M 11)))), (14, .int (iI ((plX M t q) - (M 10)))), (13, .int (iI (angOf M t q))), (12, .int (iI (rdOf M t q))), (11, .int (iI q)), (10, .int (iI (sumZ (tnF M t) (q - 1)))), (9, .int (iI (sumZ (gpF M t) (q - 1)))), (6, .int (iI (pts M t))), (5, .int (iI t)), (4, .int (iI (sumZ (spF M) t))), (3, .int (iI (sumZ (goodN M) t))), (2, .int (iI (sumZ (gapN M) t))), (1, .int (iI (sumZ (pts M) t))), (0, .ref o)]) hx hb dL_trails_154 hl (by decide) rfl (fun ls hl => ?_)
                  refine lv_iload hx hb dL_trails_156 (lv_at hl 7 rfl) ?_
                  have join271 : ∀ (y9 : Int) (y10 : Int) (jey9 : y9 = sumZ (gpF M t) (q + 1 - 1)) (jey10 : y10 = sumZ (tnF M t) (q + 1 - 1)) (H : Heap) (locs : List Loc) (hW : OW D cy A0 s.heap o M n K H locs) (ls : Array Slot) (hl : lv_has ls 19 [(8, .int (iI (moF (rdOf M t) (q + 1)))), (7, .int (iI (lsF (rdOf M t) (q + 1)))), (16, .int (iI ((((plX M t q) - (M 10)) * ((plX M t q) - (M 10))) + (((plY M t q) - (M 11)) * ((plY M t q) - (M 11)))))), (15, .int (iI ((plY M t q) - (M 11)))), (14, .int (iI ((plX M t q) - (M 10)))), (13, .int (iI (angOf M t q))), (12, .int (iI (rdOf M t q))), (11, .int (iI q)), (6, .int (iI (pts M t))), (5, .int (iI t)), (4, .int (iI (sumZ (spF M) t))), (3, .int (iI (sumZ (goodN M) t))), (2, .int (iI (sumZ (gapN M) t))), (1, .int (iI (sumZ (pts M) t))), (0, .ref o), (9, .int (iI y9)), (10, .int (iI y10))]), W p l e { frames := 9, cells := 12, slots := 72, locals := 201 } s m ([.ref o] : List Value).toArray below meth c H locs cells slots Q (F0 m 271 ls []) := by
                    intro y9 y10 jey9 jey10 H locs hW ls hl
                    subst jey9
                    subst jey10
                    refine lv_iload hx hb dL_trails_271 (lv_at hl 6 rfl) ?_
                    refine lv_iload hx hb dL_trails_273 (lv_at hl 6 rfl) ?_
                    refine k_imul hx hb dL_trails_275 ?_
                    refine lv_iload hx hb dL_trails_276 (lv_at hl 2 rfl) ?_
                    refine k_icmp_gt (tgt := 307) hx hb dL_trails_278 (by decide) (by omega) (by omega) (fun c_70 => ?_) (fun c_70 => ?_)
                    · exfalso; omega
                    · skip
                      refine lv_iload hx hb dL_trails_281 (lv_at hl 6 rfl) ?_
                      refine k_iconst hx hb dL_trails_283 ?_
                      refine k_iadd hx hb dL_trails_284 ?_
                      refine lv_iload hx hb dL_trails_285 (lv_at hl 6 rfl) ?_
                      refine k_iconst hx hb dL_trails_287 ?_
                      refine k_iadd hx hb dL_trails_288 ?_
                      refine k_imul hx hb dL_trails_289 ?_
                      refine lv_iload hx hb dL_trails_290 (lv_at hl 2 rfl) ?_
                      refine k_icmp_le (tgt := 307) hx hb dL_trails_292 (by decide) (by omega) (by omega) (fun c_71 => ?_) (fun c_71 => ?_)
                      · exfalso; omega
                      · skip
                        refine lv_iload hx hb dL_trails_295 (lv_at hl 5 rfl) ?_
                        refine k_if_lt (tgt := 307) hx hb dL_trails_297 (by decide) (by omega) (fun c_72 => ?_) (fun c_72 => ?_)
                        · exfalso; omega
                        · skip
                          refine lv_iload hx hb dL_trails_300 (lv_at hl 5 rfl) ?_
                          refine k_ldc (z := 359999) hx hb hown hmw3 (by decide +kernel) dL_trails_302 ?_
                          refine k_icmp_le (tgt := 309) hx hb dL_trails_304 (by decide) (by omega) (by omega) (fun c_73 => ?_) (fun c_73 => ?_)
                          · skip
                            refine lv_iinc (v := iI (q + 1)) (lv' := [(11, .int (iI (q + 1))), (8, .int (iI (moF (rdOf M t) (q + 1)))), (7, .int (iI (lsF (rdOf M t) (q + 1)))), (16, .int (iI ((((plX M t q) - (M 10)) * ((plX M t q) - (M 10))) + (((plY M t q) - (M 11)) * ((plY M t q) - (M 11)))))), (15, .int (iI ((plY M t q) - (M 11)))), (14, .int (iI ((plX M t q) - (M 10)))), (13, .int (iI (angOf M t q))), (12, .int (iI (rdOf M t q))), (6, .int (iI (pts M t))), (5, .int (iI t)), (4, .int (iI (sumZ (spF M) t))), (3, .int (iI (sumZ (goodN M) t))), (2, .int (iI (sumZ (gapN M) t))), (1, .int (iI (sumZ (pts M) t))), (0, .ref o), (9, .int (iI (sumZ (gpF M t) (q + 1 - 1)))), (10, .int (iI (sumZ (tnF M t) (q + 1 - 1))))]) hx hb dL_trails_309 hl (k := 7) rfl (iI_add _ _) (by decide) rfl (fun ls hl => ?_)
                            refine lv_goto (tgt := 47) hx hb dL_trails_312 (by decide) ?_
                            exact ih47 (q + 1) (sumZ (tnF M t) (q + 1 - 1)) (sumZ (gpF M t) (q + 1 - 1)) (moF (rdOf M t) (q + 1)) (lsF (rdOf M t) (q + 1)) (by omega) (by omega) (by first | rfl | omega) (by first | rfl | omega) (by first | rfl | omega) (by first | rfl | omega) (by omega) H locs hW ls (lv_sub hl [0, 16, 15, 1, 2, 8, 9, 10, 11, 12, 13, 14] rfl)
                          · exfalso; omega
                  refine k_if_le (tgt := 271) hx hb dL_trails_158 (by decide) (by omega) (fun c_74 => ?_) (fun c_74 => ?_)
                  · skip
                    have hp0 : q = 0 := by omega
                    have hps := prev_0 (tnF M t) hp0
                    have hgs := prev_0 (gpF M t) hp0
                    exact join271 (sumZ (gpF M t) (q - 1)) (sumZ (tnF M t) (q - 1)) (by first | rfl | omega) (by first | rfl | omega) H locs hW ls (lv_sub hl [0, 1, 2, 3, 4, 5, 6, 7, 10, 11, 12, 13, 14, 15, 16, 9, 8] rfl)
                  · skip
                    have hanp := inv_ang (M := M) t (q - 1)
                    have htn := turn_sp (a := angOf M t (q - 1)) (b := angOf M t q) (by omega) (by omega)
                    rw [← tn_at] at htn
                    have hgp := gp_at M t q
                    have hps := prev_s (f := tnF M t) (p := q) (by omega)
                    have hgs := prev_s (f := gpF M t) (p := q) (by omega)
                    have hmono := ((hI.2.1 t hi0 (show t < M 12 by omega)).2 (q - 1) (by omega) (by omega)).2.2.2 (by omega)
                    rw [show q - 1 + 1 = q by omega] at hmono
                    have hfrp := inv_frm hI hi0 (show t < M 12 by omega) (show 0 ≤ q - 1 by omega) (show q - 1 < pts M t by omega)
                    have htb2 := tn_bd (M := M) (t := t) (p := q + 1) (by omega) (by omega)
                    refine lv_aload_n hx hb dL_trails_161 rfl (lv_at hl 16 rfl) ?_
                    refine lv_iload hx hb dL_trails_162 (lv_at hl 11 rfl) ?_
                    refine lv_iload hx hb dL_trails_164 (lv_at hl 7 rfl) ?_
                    refine k_iconst hx hb dL_trails_166 ?_
                    refine q_call0 (As := [.int (iI t), .int (iI q), .int (iI 0)]) (rest := []) ⟨hx, hb, hml, hown, hts⟩ hGX hA (ck_ans (k_point l D cy o M n K t q 0 (show 0 ≤ t from by omega) (show t < M 12 from by omega) (show 0 ≤ q from by omega) (show q < pts M t from by omega) (show 0 ≤ (0 : Int) ∧ (0 : Int) ≤ 6 from by omega)) (show ptV M t q (0 : Int) = frm M t q from pt_0 M t q)) gkL_trails_L_point rfl ⟨rfl, rfl⟩ 4 rfl (by decide +kernel) ⟨Nat.le_of_ble_eq_true rfl, Nat.le_of_ble_eq_true rfl⟩ hW hl.1 rfl (Nat.le_of_ble_eq_true rfl) ⟨show cells ≤ 12 by omega, show slots ≤ 72 by omega⟩ dL_trails_167 (fun r_75 M_75 n_75 K_75 H locs hp hW => ?_)
                    obtain ⟨rfl, rfl, rfl, rfl⟩ := hp
                    refine lv_aload_n hx hb dL_trails_170 rfl (lv_at hl 16 rfl) ?_
                    refine lv_iload hx hb dL_trails_171 (lv_at hl 11 rfl) ?_
                    refine lv_iload hx hb dL_trails_173 (lv_at hl 7 rfl) ?_
                    refine k_iconst hx hb dL_trails_175 ?_
                    refine k_isub hx hb dL_trails_176 ?_
                    refine k_iconst hx hb dL_trails_177 ?_
                    refine q_call0 (As := [.int (iI t), .int (iI (q - 1)), .int (iI 0)]) (rest := [.int (iI (frm M t q))]) ⟨hx, hb, hml, hown, hts⟩ hGX hA (ck_ans (k_point l D cy o M n K t (q - 1) 0 (show 0 ≤ t from by omega) (show t < M 12 from by omega) (show 0 ≤ (q - 1) from by omega) (show (q - 1) < pts M t from by omega) (show 0 ≤ (0 : Int) ∧ (0 : Int) ≤ 6 from by omega)) (show ptV M t (q - 1) (0 : Int) = frm M t (q - 1) from pt_0 M t (q - 1))) gkL_trails_L_point rfl ⟨rfl, rfl⟩ 4 rfl (by decide +kernel) ⟨Nat.le_of_ble_eq_true rfl, Nat.le_of_ble_eq_true rfl⟩ hW hl.1 rfl (Nat.le_of_ble_eq_true rfl) ⟨show cells ≤ 12 by omega, show slots ≤ 72 by omega⟩ dL_trails_178 (fun r_76 M_76 n_76 K_76 H locs hp hW => ?_)
                    obtain ⟨rfl, rfl, rfl, rfl⟩ := hp
                    refine k_isub hx hb dL_trails_181 ?_
                    refine lv_istore (lv' := [(17, .int (iI ((frm M t q) - (frm M t (q - 1))))), (8, .int (iI (moF (rdOf M t) (q + 1)))), (7, .int (iI (lsF (rdOf M t) (q + 1)))), (16, .int (iI ((((plX M t q) - (M 10)) * ((plX M t q) - (M 10))) + (((plY M t q) - (M 11)) * ((plY M t q) - (M 11)))))), (15, .int (iI ((plY M t q) - (M 11)))), (14, .int (iI ((plX M t q) - (M 10)))), (13, .int (iI (angOf M t q))), (12, .int (iI (rdOf M t q))), (11, .int (iI q)), (10, .int (iI (sumZ (tnF M t) (q - 1)))), (9, .int (iI (sumZ (gpF M t) (q - 1)))), (6, .int (iI (pts M t))), (5, .int (iI t)), (4, .int (iI (sumZ (spF M) t))), (3, .int (iI (sumZ (goodN M) t))), (2, .int (iI (sumZ (gapN M) t))), (1, .int (iI (sumZ (pts M) t))), (0, .ref o)]) hx hb dL_trails_182 hl (by decide) rfl (fun ls hl => ?_)
                    refine lv_iload hx hb dL_trails_184 (lv_at hl 6 rfl) ?_
                    refine lv_aload_n hx hb dL_trails_186 rfl (lv_at hl 17 rfl) ?_
                    refine lv_iload hx hb dL_trails_187 (lv_at hl 12 rfl) ?_
                    refine lv_iload hx hb dL_trails_189 (lv_at hl 8 rfl) ?_
                    refine k_iconst hx hb dL_trails_191 ?_
                    refine k_isub hx hb dL_trails_192 ?_
                    refine k_bipush hx hb dL_trails_193 (by decide +kernel) ?_
                    refine q_call0 (As := [.int (iI t), .int (iI (q - 1)), .int (iI 6)]) (rest := [.int (iI (angOf M t q))]) ⟨hx, hb, hml, hown, hts⟩ hGX hA (ck_ans (k_point l D cy o M n K t (q - 1) 6 (show 0 ≤ t from by omega) (show t < M 12 from by omega) (show 0 ≤ (q - 1) from by omega) (show (q - 1) < pts M t from by omega) (show 0 ≤ (6 : Int) ∧ (6 : Int) ≤ 6 from by omega)) (show ptV M t (q - 1) (6 : Int) = angOf M t (q - 1) from pt_6 M t (q - 1))) gkL_trails_L_point rfl ⟨rfl, rfl⟩ 4 rfl (by decide +kernel) ⟨Nat.le_of_ble_eq_true rfl, Nat.le_of_ble_eq_true rfl⟩ hW hl.1 rfl (Nat.le_of_ble_eq_true rfl) ⟨show cells ≤ 12 by omega, show slots ≤ 72 by omega⟩ dL_trails_195 (fun r_77 M_77 n_77 K_77 H locs hp hW => ?_)
                    obtain ⟨rfl, rfl, rfl, rfl⟩ := hp
                    refine k_isub hx hb dL_trails_198 ?_
                    refine lv_istore (lv' := [(18, .int (iI ((angOf M t q) - (angOf M t (q - 1))))), (17, .int (iI ((frm M t q) - (frm M t (q - 1))))), (8, .int (iI (moF (rdOf M t) (q + 1)))), (7, .int (iI (lsF (rdOf M t) (q + 1)))), (16, .int (iI ((((plX M t q) - (M 10)) * ((plX M t q) - (M 10))) + (((plY M t q) - (M 11)) * ((plY M t q) - (M 11)))))), (15, .int (iI ((plY M t q) - (M 11)))), (14, .int (iI ((plX M t q) - (M 10)))), (13, .int (iI (angOf M t q))), (12, .int (iI (rdOf M t q))), (11, .int (iI q)), (10, .int (iI (sumZ (tnF M t) (q - 1)))), (9, .int (iI (sumZ (gpF M t) (q - 1)))), (6, .int (iI (pts M t))), (5, .int (iI t)), (4, .int (iI (sumZ (spF M) t))), (3, .int (iI (sumZ (goodN M) t))), (2, .int (iI (sumZ (gapN M) t))), (1, .int (iI (sumZ (pts M) t))), (0, .ref o)]) hx hb dL_trails_199 hl (by decide) rfl (fun ls hl => ?_)
                    refine lv_iload hx hb dL_trails_201 (lv_at hl 0 rfl) ?_
                    refine k_ldc (z := 180000) hx hb hown hmw4 (by decide +kernel) dL_trails_203 ?_
                    have join233 : ∀ (z0 : Int) (jez0 : z0 = tnF M t (q - 1)) (ls : Array Slot) (hl : lv_has ls 19 [(18, .int (iI ((angOf M t q) - (angOf M t (q - 1))))), (17, .int (iI ((frm M t q) - (frm M t (q - 1))))), (8, .int (iI (moF (rdOf M t) (q + 1)))), (7, .int (iI (lsF (rdOf M t) (q + 1)))), (16, .int (iI ((((plX M t q) - (M 10)) * ((plX M t q) - (M 10))) + (((plY M t q) - (M 11)) * ((plY M t q) - (M 11)))))), (15, .int (iI ((plY M t q) - (M 11)))), (14, .int (iI ((plX M t q) - (M 10)))), (13, .int (iI (angOf M t q))), (12, .int (iI (rdOf M t q))), (11, .int (iI q)), (10, .int (iI (sumZ (tnF M t) (q - 1)))), (9, .int (iI (sumZ (gpF M t) (q - 1)))), (6, .int (iI (pts M t))), (5, .int (iI t)), (4, .int (iI (sumZ (spF M) t))), (3, .int (iI (sumZ (goodN M) t))), (2, .int (iI (sumZ (gapN M) t))), (1, .int (iI (sumZ (pts M) t))), (0, .ref o)]), W p l e { frames := 9, cells := 12, slots := 72, locals := 201 } s m ([.ref o] : List Value).toArray below meth c H locs cells slots Q (F0 m 233 ls [.int (iI z0)]) := by
                      intro z0 jez0 ls hl
                      subst jez0
                      refine lv_istore (lv' := [(18, .int (iI (tnF M t (q - 1)))), (17, .int (iI ((frm M t q) - (frm M t (q - 1))))), (8, .int (iI (moF (rdOf M t) (q + 1)))), (7, .int (iI (lsF (rdOf M t) (q + 1)))), (16, .int (iI ((((plX M t q) - (M 10)) * ((plX M t q) - (M 10))) + (((plY M t q) - (M 11)) * ((plY M t q) - (M 11)))))), (15, .int (iI ((plY M t q) - (M 11)))), (14, .int (iI ((plX M t q) - (M 10)))), (13, .int (iI (angOf M t q))), (12, .int (iI (rdOf M t q))), (11, .int (iI q)), (10, .int (iI (sumZ (tnF M t) (q - 1)))), (9, .int (iI (sumZ (gpF M t) (q - 1)))), (6, .int (iI (pts M t))), (5, .int (iI t)), (4, .int (iI (sumZ (spF M) t))), (3, .int (iI (sumZ (goodN M) t))), (2, .int (iI (sumZ (gapN M) t))), (1, .int (iI (sumZ (pts M) t))), (0, .ref o)]) hx hb dL_trails_233 hl (by decide) rfl (fun ls hl => ?_)
                      refine lv_iload hx hb dL_trails_235 (lv_at hl 10 rfl) ?_
                      refine lv_iload hx hb dL_trails_237 (lv_at hl 0 rfl) ?_
                      refine k_iadd hx hb dL_trails_239 ?_
                      refine lv_istore (lv' := [(10, .int (iI ((sumZ (tnF M t) (q - 1)) + (tnF M t (q - 1))))), (18, .int (iI (tnF M t (q - 1)))), (17, .int (iI ((frm M t q) - (frm M t (q - 1))))), (8, .int (iI (moF (rdOf M t) (q + 1)))), (7, .int (iI (lsF (rdOf M t) (q + 1)))), (16, .int (iI ((((plX M t q) - (M 10)) * ((plX M t q) - (M 10))) + (((plY M t q) - (M 11)) * ((plY M t q) - (M 11)))))), (15, .int (iI ((plY M t q) - (M 11)))), (14, .int (iI ((plX M t q) - (M 10)))), (13, .int (iI (angOf M t q))), (12, .int (iI (rdOf M t q))), (11, .int (iI q)), (9, .int (iI (sumZ (gpF M t) (q - 1)))), (6, .int (iI (pts M t))), (5, .int (iI t)), (4, .int (iI (sumZ (spF M) t))), (3, .int (iI (sumZ (goodN M) t))), (2, .int (iI (sumZ (gapN M) t))), (1, .int (iI (sumZ (pts M) t))), (0, .ref o)]) hx hb dL_trails_240 hl (by decide) rfl (fun ls hl => ?_)
                      refine lv_iload hx hb dL_trails_242 (lv_at hl 11 rfl) ?_
                      refine lv_iload hx hb dL_trails_244 (lv_at hl 2 rfl) ?_
                      refine lv_aload_n hx hb dL_trails_246 rfl (lv_at hl 18 rfl) ?_
                      refine k_bipush hx hb dL_trails_247 (by decide +kernel) ?_
                      refine q_call0 (As := [.int (iI 6)]) (rest := [.int (iI ((frm M t q) - (frm M t (q - 1)))), .int (iI (sumZ (gpF M t) (q - 1)))]) ⟨hx, hb, hml, hown, hts⟩ hGX hA (k_setting l D cy o M n K 6 (show 0 ≤ (6 : Int) ∧ (6 : Int) ≤ 9 from by omega)) gkL_trails_L_setting rfl ⟨rfl, rfl⟩ 2 rfl (by decide +kernel) ⟨Nat.le_of_ble_eq_true rfl, Nat.le_of_ble_eq_true rfl⟩ hW hl.1 rfl (Nat.le_of_ble_eq_true rfl) ⟨show cells ≤ 12 by omega, show slots ≤ 72 by omega⟩ dL_trails_249 (fun r_78 M_78 n_78 K_78 H locs hp hW => ?_)
                      obtain ⟨rfl, rfl, rfl, rfl⟩ := hp
                      have join260 : ∀ (z0 : Int) (jez0 : z0 = gpF M t (q - 1)) (ls : Array Slot) (hl : lv_has ls 19 [(10, .int (iI ((sumZ (tnF M t) (q - 1)) + (tnF M t (q - 1))))), (18, .int (iI (tnF M t (q - 1)))), (17, .int (iI ((frm M t q) - (frm M t (q - 1))))), (8, .int (iI (moF (rdOf M t) (q + 1)))), (7, .int (iI (lsF (rdOf M t) (q + 1)))), (16, .int (iI ((((plX M t q) - (M 10)) * ((plX M t q) - (M 10))) + (((plY M t q) - (M 11)) * ((plY M t q) - (M 11)))))), (15, .int (iI ((plY M t q) - (M 11)))), (14, .int (iI ((plX M t q) - (M 10)))), (13, .int (iI (angOf M t q))), (12, .int (iI (rdOf M t q))), (11, .int (iI q)), (9, .int (iI (sumZ (gpF M t) (q - 1)))), (6, .int (iI (pts M t))), (5, .int (iI t)), (4, .int (iI (sumZ (spF M) t))), (3, .int (iI (sumZ (goodN M) t))), (2, .int (iI (sumZ (gapN M) t))), (1, .int (iI (sumZ (pts M) t))), (0, .ref o)]), W p l e { frames := 9, cells := 12, slots := 72, locals := 201 } s m ([.ref o] : List Value).toArray below meth c H locs cells slots Q (F0 m 260 ls [.int (iI z0), .int (iI (sumZ (gpF M t) (q - 1)))]) := by
                        intro z0 jez0 ls hl
                        subst jez0
                        refine k_iadd hx hb dL_trails_260 ?_
                        refine lv_istore (lv' := [(9, .int (iI ((sumZ (gpF M t) (q - 1)) + (gpF M t (q - 1))))), (10, .int (iI ((sumZ (tnF M t) (q - 1)) + (tnF M t (q - 1))))), (18, .int (iI (tnF M t (q - 1)))), (17, .int (iI ((frm M t q) - (frm M t (q - 1))))), (8, .int (iI (moF (rdOf M t) (q + 1)))), (7, .int (iI (lsF (rdOf M t) (q + 1)))), (16, .int (iI ((((plX M t q) - (M 10)) * ((plX M t q) - (M 10))) + (((plY M t q) - (M 11)) * ((plY M t q) - (M 11)))))), (15, .int (iI ((plY M t q) - (M 11)))), (14, .int (iI ((plX M t q) - (M 10)))), (13, .int (iI (angOf M t q))), (12, .int (iI (rdOf M t q))), (11, .int (iI q)), (6, .int (iI (pts M t))), (5, .int (iI t)), (4, .int (iI (sumZ (spF M) t))), (3, .int (iI (sumZ (goodN M) t))), (2, .int (iI (sumZ (gapN M) t))), (1, .int (iI (sumZ (pts M) t))), (0, .ref o)]) hx hb dL_trails_261 hl (by decide) rfl (fun ls hl => ?_)
                        refine lv_iload hx hb dL_trails_263 (lv_at hl 3 rfl) ?_
                        refine k_iconst hx hb dL_trails_265 ?_
                        refine k_icmp_ge (tgt := 271) hx hb dL_trails_266 (by decide) (by omega) (by omega) (fun c_79 => ?_) (fun c_79 => ?_)
                        · skip
                          exact join271 ((sumZ (gpF M t) (q - 1)) + (gpF M t (q - 1))) ((sumZ (tnF M t) (q - 1)) + (tnF M t (q - 1))) (by first | rfl | omega) (by first | rfl | omega) H locs hW ls (lv_sub hl [4, 5, 6, 7, 8, 9, 10, 11, 12, 13, 14, 15, 16, 17, 18, 0, 1] rfl)
                        · exfalso; omega
                      refine k_icmp_le (tgt := 259) hx hb dL_trails_252 (by decide) (by omega) (by omega) (fun c_80 => ?_) (fun c_80 => ?_)
                      · skip
                        refine k_iconst hx hb dL_trails_259 ?_
                        exact join260 0 (by first | rfl | omega) ls (lv_sub hl [0, 1, 2, 3, 4, 5, 6, 7, 8, 9, 10, 11, 12, 13, 14, 15, 16, 17, 18] rfl)
                      · skip
                        refine k_iconst hx hb dL_trails_255 ?_
                        refine lv_goto (tgt := 260) hx hb dL_trails_256 (by decide) ?_
                        exact join260 1 (by first | rfl | omega) ls (lv_sub hl [0, 1, 2, 3, 4, 5, 6, 7, 8, 9, 10, 11, 12, 13, 14, 15, 16, 17, 18] rfl)
                    refine k_icmp_le (tgt := 216) hx hb dL_trails_205 (by decide) (by omega) (by omega) (fun c_81 => ?_) (fun c_81 => ?_)
                    · skip
                      refine lv_iload hx hb dL_trails_216 (lv_at hl 0 rfl) ?_
                      refine k_ldc (z := (-180000)) hx hb hown hmw5 (by decide +kernel) dL_trails_218 ?_
                      refine k_icmp_gt (tgt := 231) hx hb dL_trails_220 (by decide) (by omega) (by omega) (fun c_82 => ?_) (fun c_82 => ?_)
                      · skip
                        refine lv_iload hx hb dL_trails_231 (lv_at hl 0 rfl) ?_
                        exact join233 ((angOf M t q) - (angOf M t (q - 1))) (by first | rfl | omega) ls (lv_sub hl [0, 1, 2, 3, 4, 5, 6, 7, 8, 9, 10, 11, 12, 13, 14, 15, 16, 17, 18] rfl)
                      · skip
                        refine lv_iload hx hb dL_trails_223 (lv_at hl 0 rfl) ?_
                        refine k_ldc (z := 360000) hx hb hown hmw6 (by decide +kernel) dL_trails_225 ?_
                        refine k_iadd hx hb dL_trails_227 ?_
                        refine lv_goto (tgt := 233) hx hb dL_trails_228 (by decide) ?_
                        exact join233 (((angOf M t q) - (angOf M t (q - 1))) + 360000) (by first | rfl | omega) ls (lv_sub hl [0, 1, 2, 3, 4, 5, 6, 7, 8, 9, 10, 11, 12, 13, 14, 15, 16, 17, 18] rfl)
                    · skip
                      refine lv_iload hx hb dL_trails_208 (lv_at hl 0 rfl) ?_
                      refine k_ldc (z := 360000) hx hb hown hmw6 (by decide +kernel) dL_trails_210 ?_
                      refine k_isub hx hb dL_trails_212 ?_
                      refine lv_goto (tgt := 233) hx hb dL_trails_213 (by decide) ?_
                      exact join233 (((angOf M t q) - (angOf M t (q - 1))) - 360000) (by first | rfl | omega) ls (lv_sub hl [0, 1, 2, 3, 4, 5, 6, 7, 8, 9, 10, 11, 12, 13, 14, 15, 16, 17, 18] rfl)
                refine k_icmp_le (tgt := 152) hx hb dL_trails_144 (by decide) (by omega) (by omega) (fun c_83 => ?_) (fun c_83 => ?_)
                · skip
                  refine lv_iload hx hb dL_trails_152 (lv_at hl 9 rfl) ?_
                  exact join154 (moF (rdOf M t) q) (by first | rfl | omega) ls (lv_sub hl [0, 1, 2, 3, 4, 5, 6, 7, 8, 9, 10, 11, 12, 13, 14, 15, 16] rfl)
                · skip
                  refine lv_iload hx hb dL_trails_147 (lv_at hl 5 rfl) ?_
                  refine lv_goto (tgt := 154) hx hb dL_trails_149 (by decide) ?_
                  exact join154 (rdOf M t q) (by first | rfl | omega) ls (lv_sub hl [0, 1, 2, 3, 4, 5, 6, 7, 8, 9, 10, 11, 12, 13, 14, 15, 16] rfl)
              refine k_icmp_ge (tgt := 136) hx hb dL_trails_128 (by decide) (by omega) (by omega) (fun c_84 => ?_) (fun c_84 => ?_)
              · skip
                refine lv_iload hx hb dL_trails_136 (lv_at hl 9 rfl) ?_
                exact join138 (lsF (rdOf M t) q) (by first | rfl | omega) ls (lv_sub hl [0, 1, 2, 3, 4, 5, 6, 7, 8, 9, 10, 11, 12, 13, 14, 15, 16] rfl)
              · skip
                refine lv_iload hx hb dL_trails_131 (lv_at hl 4 rfl) ?_
                refine lv_goto (tgt := 138) hx hb dL_trails_133 (by decide) ?_
                exact join138 (rdOf M t q) (by first | rfl | omega) ls (lv_sub hl [0, 1, 2, 3, 4, 5, 6, 7, 8, 9, 10, 11, 12, 13, 14, 15, 16] rfl)
        exact loop47 ((pts M t - 0 : Int) + 1).toNat 0 0 0 (-1) 1000000 (by omega) (by omega) (rfl) (rfl) ((mo_0 _).symm) ((ls_0 _).symm) (by omega) H locs hW ls (lv_sub hl [0, 1, 2, 3, 4, 5, 6, 7, 8, 9, 10, 11] rfl)
  exact loop12 ((M 12 - 0 : Int) + 1).toNat 0 0 0 0 0 0 0 (by omega) (by omega) (rfl) (rfl) (rfl) (rfl) (by omega) (by omega) H locs hW ls (lv_sub hl [0, 1, 2, 3, 4, 5] rfl)
