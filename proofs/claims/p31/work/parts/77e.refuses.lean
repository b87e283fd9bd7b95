/-! the law's check of refusals -/
set_option maxHeartbeats 8000000 in
set_option maxRecDepth 100000 in
theorem k_refuses (l : Launch) (hst : l.stackTraces = false) (D : va_G) (cy : Nat → ClassId) (o : Nat) (M : Int → Int) (n : Int) (K : Nat → Int → Int)  : CKs l D cy yL_refuses wkL_refuses { frames := 9, cells := 40, slots := 240, locals := 199 } o [] M n K (fun r M' n' K' => 1 = r ∧ M = M' ∧ n = n' ∧ K = K') 40 240 := by
  refine ck_start (cc := cL_refuses) (maxL := 6) (ret := (some .boolean)) (by decide) rfl (Nat.le_of_ble_eq_true rfl) ?_
  intro p e s m below meth c A0 Q hx hb hr hlocks hml hts hown hA hGX hret H ls hW hl
  have hl : lv_has ls 6 [(0, .ref o)] := hl
  have hI := hW.inv
  have hS12 := inv_S12 hI
  have hS0 := hI.1
  unfold InvS at hS0
  have hnn := hW.nn
  generalize ([] : List Loc) = locs at hW ⊢
  have hmw0 := hts (.constant RL 24 (-9030000)) (ckL_refuses _ (by decide +kernel))
  have hmw1 := hts (.constant RL 31 (-9010000)) (ckL_refuses _ (by decide +kernel))
  have hmw2 := hts (.constant RL 152 (180001)) (ckL_refuses _ (by decide +kernel))
  have hmw3 := hts (.constant RL 101 (360000)) (ckL_refuses _ (by decide +kernel))
  have hmw4 := hts (.constant RL 157 (100001)) (ckL_refuses _ (by decide +kernel))
  refine lv_aload_n hx hb dL_refuses_0 rfl (lv_at hl 0 rfl) ?_
  refine qv_digest ⟨hx, hb, hml, hown, hts⟩ hGX hA gkL_refuses_X6_digest ⟨Nat.le_of_ble_eq_true rfl, Nat.le_of_ble_eq_true rfl⟩ hW hl.1 (Nat.le_of_ble_eq_true rfl) ⟨Nat.le_of_ble_eq_true rfl, Nat.le_of_ble_eq_true rfl⟩ dL_refuses_1 (fun H locs hW => ?_)
  refine lv_lstore_n (lv' := [(1, .long (lI (dgH M n 0 0))), (0, .ref o)]) hx hb dL_refuses_4 rfl hl (by decide) rfl (fun ls hl => ?_)
  refine lv_aload_n hx hb dL_refuses_5 rfl (lv_at hl 1 rfl) ?_
  refine k_iconst hx hb dL_refuses_6 ?_
  refine q_call0 (As := [.int (iI 0)]) (rest := []) ⟨hx, hb, hml, hown, hts⟩ hGX hA (ck_ans (k_whole l D cy o M n K 0 (show 0 ≤ (0 : Int) ∧ (0 : Int) ≤ 10 from by omega)) (show whW M (0 : Int) = M 12 from wh_0 M)) gkL_refuses_L_whole rfl ⟨rfl, rfl⟩ 2 rfl (by decide +kernel) ⟨Nat.le_of_ble_eq_true rfl, Nat.le_of_ble_eq_true rfl⟩ hW hl.1 rfl (Nat.le_of_ble_eq_true rfl) ⟨Nat.le_of_ble_eq_true rfl, Nat.le_of_ble_eq_true rfl⟩ dL_refuses_7 (fun r_1 M_1 n_1 K_1 H locs hp hW => ?_)
  obtain ⟨rfl, rfl, rfl, rfl⟩ := hp
  refine lv_istore_n (lv' := [(3, .int (iI (M 12))), (1, .long (lI (dgH M n 0 0))), (0, .ref o)]) hx hb dL_refuses_10 rfl hl (by decide) rfl (fun ls hl => ?_)
  refine lv_aload_n hx hb dL_refuses_11 rfl (lv_at hl 2 rfl) ?_
  refine k_iconst hx hb dL_refuses_12 ?_
  refine q_call0 (As := [.int (iI 1)]) (rest := []) ⟨hx, hb, hml, hown, hts⟩ hGX hA (ck_ans (k_whole l D cy o M n K 1 (show 0 ≤ (1 : Int) ∧ (1 : Int) ≤ 10 from by omega)) (show whW M (1 : Int) = M 13 from wh_1 M)) gkL_refuses_L_whole rfl ⟨rfl, rfl⟩ 2 rfl (by decide +kernel) ⟨Nat.le_of_ble_eq_true rfl, Nat.le_of_ble_eq_true rfl⟩ hW hl.1 rfl (Nat.le_of_ble_eq_true rfl) ⟨Nat.le_of_ble_eq_true rfl, Nat.le_of_ble_eq_true rfl⟩ dL_refuses_13 (fun r_2 M_2 n_2 K_2 H locs hp hW => ?_)
  obtain ⟨rfl, rfl, rfl, rfl⟩ := hp
  refine lv_istore (lv' := [(4, .int (iI (M 13))), (3, .int (iI (M 12))), (1, .long (lI (dgH M n 0 0))), (0, .ref o)]) hx hb dL_refuses_16 hl (by decide) rfl (fun ls hl => ?_)
  refine lv_aload_n hx hb dL_refuses_18 rfl (lv_at hl 3 rfl) ?_
  refine lv_iload_n hx hb dL_refuses_19 rfl (lv_at hl 1 rfl) ?_
  refine q_call1 (As := [.int (iI (M 12))]) (rest := []) ⟨hx, hb, hml, hown, hts⟩ hGX hA (k_removeTrail_t l hst D cy o M n K (M 12) (show -2147483648 ≤ (M 12) ∧ (M 12) ≤ 2147483647 from by omega) (show ¬ (0 ≤ (M 12) ∧ (M 12) < M 12) from by omega)) gkL_refuses_L_removeTrail rfl ⟨rfl, rfl⟩ 2 rfl (by decide +kernel) ⟨Nat.le_of_ble_eq_true rfl, Nat.le_of_ble_eq_true rfl⟩ hW hl.1 rfl (Nat.le_of_ble_eq_true rfl) ⟨Nat.le_of_ble_eq_true rfl, Nat.le_of_ble_eq_true rfl⟩ dL_refuses_20 (fun r_3 M_3 n_3 K_3 H locs hp hW => ?_)
  obtain ⟨rfl, rfl, rfl, rfl⟩ := hp
  refine k_ldc (z := (-9030000)) hx hb hown hmw0 (by decide +kernel) dL_refuses_23 ?_
  refine k_icmp_ne (tgt := 204) hx hb dL_refuses_25 (by decide) (by omega) (by omega) (fun c_4 => ?_) (fun c_4 => ?_)
  · exfalso; omega
  · skip
    refine lv_aload_n hx hb dL_refuses_28 rfl (lv_at hl 3 rfl) ?_
    refine lv_iload_n hx hb dL_refuses_29 rfl (lv_at hl 1 rfl) ?_
    refine k_iconst hx hb dL_refuses_30 ?_
    refine k_iconst hx hb dL_refuses_31 ?_
    refine k_iconst hx hb dL_refuses_32 ?_
    refine q_call1 (As := [.int (iI (M 12)), .int (iI (-1)), .int (iI 0), .int (iI 0)]) (rest := []) ⟨hx, hb, hml, hown, hts⟩ hGX hA (k_addPoint_t1 l hst D cy o M n K (M 12) (-1) 0 0 (show -2147483648 ≤ (M 12) ∧ (M 12) ≤ 2147483647 from by omega) (show -2147483648 ≤ (-1 : Int) ∧ (-1 : Int) ≤ 2147483647 from by omega) (show -2147483648 ≤ (0 : Int) ∧ (0 : Int) ≤ 2147483647 from by omega) (show -2147483648 ≤ (0 : Int) ∧ (0 : Int) ≤ 2147483647 from by omega) (show ¬ (0 ≤ (M 12) ∧ (M 12) < M 12) from by omega)) gkL_refuses_L_addPoint rfl ⟨rfl, rfl⟩ 5 rfl (by decide +kernel) ⟨Nat.le_of_ble_eq_true rfl, Nat.le_of_ble_eq_true rfl⟩ hW hl.1 rfl (Nat.le_of_ble_eq_true rfl) ⟨Nat.le_of_ble_eq_true rfl, Nat.le_of_ble_eq_true rfl⟩ dL_refuses_33 (fun r_5 M_5 n_5 K_5 H locs hp hW => ?_)
    obtain ⟨rfl, rfl, rfl, rfl⟩ := hp
    refine k_ldc (z := (-9030000)) hx hb hown hmw0 (by decide +kernel) dL_refuses_36 ?_
    refine k_icmp_ne (tgt := 204) hx hb dL_refuses_38 (by decide) (by omega) (by omega) (fun c_6 => ?_) (fun c_6 => ?_)
    · exfalso; omega
    · skip
      refine lv_aload_n hx hb dL_refuses_41 rfl (lv_at hl 3 rfl) ?_
      refine lv_iload_n hx hb dL_refuses_42 rfl (lv_at hl 1 rfl) ?_
      refine k_iconst hx hb dL_refuses_43 ?_
      refine q_call1 (As := [.int (iI (M 12)), .int (iI 0)]) (rest := []) ⟨hx, hb, hml, hown, hts⟩ hGX hA (k_removePoint_t l hst D cy o M n K (M 12) 0 (show -2147483648 ≤ (M 12) ∧ (M 12) ≤ 2147483647 from by omega) (show -2147483648 ≤ (0 : Int) ∧ (0 : Int) ≤ 2147483647 from by omega) (show ¬ ((0 ≤ (M 12) ∧ (M 12) < M 12) ∧ 0 ≤ (0 : Int) ∧ (0 : Int) < pts M (M 12)) from by omega)) gkL_refuses_L_removePoint rfl ⟨rfl, rfl⟩ 3 rfl (by decide +kernel) ⟨Nat.le_of_ble_eq_true rfl, Nat.le_of_ble_eq_true rfl⟩ hW hl.1 rfl (Nat.le_of_ble_eq_true rfl) ⟨Nat.le_of_ble_eq_true rfl, Nat.le_of_ble_eq_true rfl⟩ dL_refuses_44 (fun r_7 M_7 n_7 K_7 H locs hp hW => ?_)
      obtain ⟨rfl, rfl, rfl, rfl⟩ := hp
      refine k_ldc (z := (-9030000)) hx hb hown hmw0 (by decide +kernel) dL_refuses_47 ?_
      refine k_icmp_ne (tgt := 204) hx hb dL_refuses_49 (by decide) (by omega) (by omega) (fun c_8 => ?_) (fun c_8 => ?_)
      · exfalso; omega
      · skip
        refine lv_aload_n hx hb dL_refuses_52 rfl (lv_at hl 3 rfl) ?_
        refine k_bipush hx hb dL_refuses_53 (by decide +kernel) ?_
        refine k_iconst hx hb dL_refuses_55 ?_
        refine q_call1 (As := [.int (iI 10), .int (iI 0)]) (rest := []) ⟨hx, hb, hml, hown, hts⟩ hGX hA (k_set_t l hst D cy o M n K 10 0 (show -2147483648 ≤ (10 : Int) ∧ (10 : Int) ≤ 2147483647 from by omega) (show -2147483648 ≤ (0 : Int) ∧ (0 : Int) ≤ 2147483647 from by omega) (show ¬ setOK (10 : Int) (0 : Int) from fun h => absurd h.1.2 (by decide))) gkL_refuses_L_set rfl ⟨rfl, rfl⟩ 3 rfl (by decide +kernel) ⟨Nat.le_of_ble_eq_true rfl, Nat.le_of_ble_eq_true rfl⟩ hW hl.1 rfl (Nat.le_of_ble_eq_true rfl) ⟨Nat.le_of_ble_eq_true rfl, Nat.le_of_ble_eq_true rfl⟩ dL_refuses_56 (fun r_9 M_9 n_9 K_9 H locs hp hW => ?_)
        obtain ⟨rfl, rfl, rfl, rfl⟩ := hp
        refine k_ldc (z := (-9010000)) hx hb hown hmw1 (by decide +kernel) dL_refuses_59 ?_
        refine k_icmp_ne (tgt := 204) hx hb dL_refuses_61 (by decide) (by omega) (by omega) (fun c_10 => ?_) (fun c_10 => ?_)
        · exfalso; omega
        · skip
          refine lv_aload_n hx hb dL_refuses_64 rfl (lv_at hl 3 rfl) ?_
          refine k_iconst hx hb dL_refuses_65 ?_
          refine k_sipush hx hb dL_refuses_66 (by decide +kernel) ?_
          refine q_call1 (As := [.int (iI 0), .int (iI 5001)]) (rest := []) ⟨hx, hb, hml, hown, hts⟩ hGX hA (k_set_t l hst D cy o M n K 0 5001 (show -2147483648 ≤ (0 : Int) ∧ (0 : Int) ≤ 2147483647 from by omega) (show -2147483648 ≤ (5001 : Int) ∧ (5001 : Int) ≤ 2147483647 from by omega) (show ¬ setOK (0 : Int) (5001 : Int) from fun h => absurd h.2.2 (by decide))) gkL_refuses_L_set rfl ⟨rfl, rfl⟩ 3 rfl (by decide +kernel) ⟨Nat.le_of_ble_eq_true rfl, Nat.le_of_ble_eq_true rfl⟩ hW hl.1 rfl (Nat.le_of_ble_eq_true rfl) ⟨Nat.le_of_ble_eq_true rfl, Nat.le_of_ble_eq_true rfl⟩ dL_refuses_69 (fun r_11 M_11 n_11 K_11 H locs hp hW => ?_)
          obtain ⟨rfl, rfl, rfl, rfl⟩ := hp
          refine k_ldc (z := (-9010000)) hx hb hown hmw1 (by decide +kernel) dL_refuses_72 ?_
          refine k_icmp_ne (tgt := 204) hx hb dL_refuses_74 (by decide) (by omega) (by omega) (fun c_12 => ?_) (fun c_12 => ?_)
          · exfalso; omega
          · skip
            refine lv_aload_n hx hb dL_refuses_77 rfl (lv_at hl 3 rfl) ?_
            refine k_iconst hx hb dL_refuses_78 ?_
            refine k_bipush hx hb dL_refuses_79 (by decide +kernel) ?_
            refine q_call1 (As := [.int (iI 1), .int (iI 101)]) (rest := []) ⟨hx, hb, hml, hown, hts⟩ hGX hA (k_set_t l hst D cy o M n K 1 101 (show -2147483648 ≤ (1 : Int) ∧ (1 : Int) ≤ 2147483647 from by omega) (show -2147483648 ≤ (101 : Int) ∧ (101 : Int) ≤ 2147483647 from by omega) (show ¬ setOK (1 : Int) (101 : Int) from fun h => absurd h.2.2 (by decide))) gkL_refuses_L_set rfl ⟨rfl, rfl⟩ 3 rfl (by decide +kernel) ⟨Nat.le_of_ble_eq_true rfl, Nat.le_of_ble_eq_true rfl⟩ hW hl.1 rfl (Nat.le_of_ble_eq_true rfl) ⟨Nat.le_of_ble_eq_true rfl, Nat.le_of_ble_eq_true rfl⟩ dL_refuses_81 (fun r_13 M_13 n_13 K_13 H locs hp hW => ?_)
            obtain ⟨rfl, rfl, rfl, rfl⟩ := hp
            refine k_ldc (z := (-9010000)) hx hb hown hmw1 (by decide +kernel) dL_refuses_84 ?_
            refine k_icmp_ne (tgt := 204) hx hb dL_refuses_86 (by decide) (by omega) (by omega) (fun c_14 => ?_) (fun c_14 => ?_)
            · exfalso; omega
            · skip
              refine lv_aload_n hx hb dL_refuses_89 rfl (lv_at hl 3 rfl) ?_
              refine k_iconst hx hb dL_refuses_90 ?_
              refine k_sipush hx hb dL_refuses_91 (by decide +kernel) ?_
              refine q_call1 (As := [.int (iI 3), .int (iI 501)]) (rest := []) ⟨hx, hb, hml, hown, hts⟩ hGX hA (k_set_t l hst D cy o M n K 3 501 (show -2147483648 ≤ (3 : Int) ∧ (3 : Int) ≤ 2147483647 from by omega) (show -2147483648 ≤ (501 : Int) ∧ (501 : Int) ≤ 2147483647 from by omega) (show ¬ setOK (3 : Int) (501 : Int) from fun h => absurd h.2.2 (by decide))) gkL_refuses_L_set rfl ⟨rfl, rfl⟩ 3 rfl (by decide +kernel) ⟨Nat.le_of_ble_eq_true rfl, Nat.le_of_ble_eq_true rfl⟩ hW hl.1 rfl (Nat.le_of_ble_eq_true rfl) ⟨Nat.le_of_ble_eq_true rfl, Nat.le_of_ble_eq_true rfl⟩ dL_refuses_94 (fun r_15 M_15 n_15 K_15 H locs hp hW => ?_)
              obtain ⟨rfl, rfl, rfl, rfl⟩ := hp
              refine k_ldc (z := (-9010000)) hx hb hown hmw1 (by decide +kernel) dL_refuses_97 ?_
              refine k_icmp_ne (tgt := 204) hx hb dL_refuses_99 (by decide) (by omega) (by omega) (fun c_16 => ?_) (fun c_16 => ?_)
              · exfalso; omega
              · skip
                refine lv_aload_n hx hb dL_refuses_102 rfl (lv_at hl 3 rfl) ?_
                refine k_iconst hx hb dL_refuses_103 ?_
                refine k_ldc (z := 180001) hx hb hown hmw2 (by decide +kernel) dL_refuses_104 ?_
                refine q_call1 (As := [.int (iI 4), .int (iI 180001)]) (rest := []) ⟨hx, hb, hml, hown, hts⟩ hGX hA (k_set_t l hst D cy o M n K 4 180001 (show -2147483648 ≤ (4 : Int) ∧ (4 : Int) ≤ 2147483647 from by omega) (show -2147483648 ≤ (180001 : Int) ∧ (180001 : Int) ≤ 2147483647 from by omega) (show ¬ setOK (4 : Int) (180001 : Int) from fun h => absurd h.2.2 (by decide))) gkL_refuses_L_set rfl ⟨rfl, rfl⟩ 3 rfl (by decide +kernel) ⟨Nat.le_of_ble_eq_true rfl, Nat.le_of_ble_eq_true rfl⟩ hW hl.1 rfl (Nat.le_of_ble_eq_true rfl) ⟨Nat.le_of_ble_eq_true rfl, Nat.le_of_ble_eq_true rfl⟩ dL_refuses_106 (fun r_17 M_17 n_17 K_17 H locs hp hW => ?_)
                obtain ⟨rfl, rfl, rfl, rfl⟩ := hp
                refine k_ldc (z := (-9010000)) hx hb hown hmw1 (by decide +kernel) dL_refuses_109 ?_
                refine k_icmp_ne (tgt := 204) hx hb dL_refuses_111 (by decide) (by omega) (by omega) (fun c_18 => ?_) (fun c_18 => ?_)
                · exfalso; omega
                · skip
                  refine lv_aload_n hx hb dL_refuses_114 rfl (lv_at hl 3 rfl) ?_
                  refine k_iconst hx hb dL_refuses_115 ?_
                  refine k_sipush hx hb dL_refuses_116 (by decide +kernel) ?_
                  refine q_call1 (As := [.int (iI 5), .int (iI 5001)]) (rest := []) ⟨hx, hb, hml, hown, hts⟩ hGX hA (k_set_t l hst D cy o M n K 5 5001 (show -2147483648 ≤ (5 : Int) ∧ (5 : Int) ≤ 2147483647 from by omega) (show -2147483648 ≤ (5001 : Int) ∧ (5001 : Int) ≤ 2147483647 from by omega) (show ¬ setOK (5 : Int) (5001 : Int) from fun h => absurd h.2.2 (by decide))) gkL_refuses_L_set rfl ⟨rfl, rfl⟩ 3 rfl (by decide +kernel) ⟨Nat.le_of_ble_eq_true rfl, Nat.le_of_ble_eq_true rfl⟩ hW hl.1 rfl (Nat.le_of_ble_eq_true rfl) ⟨Nat.le_of_ble_eq_true rfl, Nat.le_of_ble_eq_true rfl⟩ dL_refuses_119 (fun r_19 M_19 n_19 K_19 H locs hp hW => ?_)
                  obtain ⟨rfl, rfl, rfl, rfl⟩ := hp
                  refine k_ldc (z := (-9010000)) hx hb hown hmw1 (by decide +kernel) dL_refuses_122 ?_
                  refine k_icmp_ne (tgt := 204) hx hb dL_refuses_124 (by decide) (by omega) (by omega) (fun c_20 => ?_) (fun c_20 => ?_)
                  · exfalso; omega
                  · skip
                    refine lv_aload_n hx hb dL_refuses_127 rfl (lv_at hl 3 rfl) ?_
                    refine k_bipush hx hb dL_refuses_128 (by decide +kernel) ?_
                    refine k_iconst hx hb dL_refuses_130 ?_
                    refine q_call1 (As := [.int (iI 6), .int (iI 0)]) (rest := []) ⟨hx, hb, hml, hown, hts⟩ hGX hA (k_set_t l hst D cy o M n K 6 0 (show -2147483648 ≤ (6 : Int) ∧ (6 : Int) ≤ 2147483647 from by omega) (show -2147483648 ≤ (0 : Int) ∧ (0 : Int) ≤ 2147483647 from by omega) (show ¬ setOK (6 : Int) (0 : Int) from fun h => absurd h.2.1 (by decide))) gkL_refuses_L_set rfl ⟨rfl, rfl⟩ 3 rfl (by decide +kernel) ⟨Nat.le_of_ble_eq_true rfl, Nat.le_of_ble_eq_true rfl⟩ hW hl.1 rfl (Nat.le_of_ble_eq_true rfl) ⟨Nat.le_of_ble_eq_true rfl, Nat.le_of_ble_eq_true rfl⟩ dL_refuses_131 (fun r_21 M_21 n_21 K_21 H locs hp hW => ?_)
                    obtain ⟨rfl, rfl, rfl, rfl⟩ := hp
                    refine k_ldc (z := (-9010000)) hx hb hown hmw1 (by decide +kernel) dL_refuses_134 ?_
                    refine k_icmp_ne (tgt := 204) hx hb dL_refuses_136 (by decide) (by omega) (by omega) (fun c_22 => ?_) (fun c_22 => ?_)
                    · exfalso; omega
                    · skip
                      refine lv_aload_n hx hb dL_refuses_139 rfl (lv_at hl 3 rfl) ?_
                      refine k_bipush hx hb dL_refuses_140 (by decide +kernel) ?_
                      refine k_iconst hx hb dL_refuses_142 ?_
                      refine q_call1 (As := [.int (iI 7), .int (iI 0)]) (rest := []) ⟨hx, hb, hml, hown, hts⟩ hGX hA (k_set_t l hst D cy o M n K 7 0 (show -2147483648 ≤ (7 : Int) ∧ (7 : Int) ≤ 2147483647 from by omega) (show -2147483648 ≤ (0 : Int) ∧ (0 : Int) ≤ 2147483647 from by omega) (show ¬ setOK (7 : Int) (0 : Int) from fun h => absurd h.2.1 (by decide))) gkL_refuses_L_set rfl ⟨rfl, rfl⟩ 3 rfl (by decide +kernel) ⟨Nat.le_of_ble_eq_true rfl, Nat.le_of_ble_eq_true rfl⟩ hW hl.1 rfl (Nat.le_of_ble_eq_true rfl) ⟨Nat.le_of_ble_eq_true rfl, Nat.le_of_ble_eq_true rfl⟩ dL_refuses_143 (fun r_23 M_23 n_23 K_23 H locs hp hW => ?_)
                      obtain ⟨rfl, rfl, rfl, rfl⟩ := hp
                      refine k_ldc (z := (-9010000)) hx hb hown hmw1 (by decide +kernel) dL_refuses_146 ?_
                      refine k_icmp_ne (tgt := 204) hx hb dL_refuses_148 (by decide) (by omega) (by omega) (fun c_24 => ?_) (fun c_24 => ?_)
                      · exfalso; omega
                      · skip
                        refine lv_aload_n hx hb dL_refuses_151 rfl (lv_at hl 3 rfl) ?_
                        refine k_bipush hx hb dL_refuses_152 (by decide +kernel) ?_
                        refine k_ldc (z := 360000) hx hb hown hmw3 (by decide +kernel) dL_refuses_154 ?_
                        refine q_call1 (As := [.int (iI 8), .int (iI 360000)]) (rest := []) ⟨hx, hb, hml, hown, hts⟩ hGX hA (k_set_t l hst D cy o M n K 8 360000 (show -2147483648 ≤ (8 : Int) ∧ (8 : Int) ≤ 2147483647 from by omega) (show -2147483648 ≤ (360000 : Int) ∧ (360000 : Int) ≤ 2147483647 from by omega) (show ¬ setOK (8 : Int) (360000 : Int) from fun h => absurd h.2.2 (by decide))) gkL_refuses_L_set rfl ⟨rfl, rfl⟩ 3 rfl (by decide +kernel) ⟨Nat.le_of_ble_eq_true rfl, Nat.le_of_ble_eq_true rfl⟩ hW hl.1 rfl (Nat.le_of_ble_eq_true rfl) ⟨Nat.le_of_ble_eq_true rfl, Nat.le_of_ble_eq_true rfl⟩ dL_refuses_156 (fun r_25 M_25 n_25 K_25 H locs hp hW => ?_)
                        obtain ⟨rfl, rfl, rfl, rfl⟩ := hp
                        refine k_ldc (z := (-9010000)) hx hb hown hmw1 (by decide +kernel) dL_refuses_159 ?_
                        refine k_icmp_ne (tgt := 204) hx hb dL_refuses_161 (by decide) (by omega) (by omega) (fun c_26 => ?_) (fun c_26 => ?_)
                        · exfalso; omega
                        · skip
                          refine lv_aload_n hx hb dL_refuses_164 rfl (lv_at hl 3 rfl) ?_
                          refine k_bipush hx hb dL_refuses_165 (by decide +kernel) ?_
                          refine k_bipush hx hb dL_refuses_167 (by decide +kernel) ?_
                          refine q_call1 (As := [.int (iI 9), .int (iI 10)]) (rest := []) ⟨hx, hb, hml, hown, hts⟩ hGX hA (k_set_t l hst D cy o M n K 9 10 (show -2147483648 ≤ (9 : Int) ∧ (9 : Int) ≤ 2147483647 from by omega) (show -2147483648 ≤ (10 : Int) ∧ (10 : Int) ≤ 2147483647 from by omega) (show ¬ setOK (9 : Int) (10 : Int) from fun h => absurd h.2.2 (by decide))) gkL_refuses_L_set rfl ⟨rfl, rfl⟩ 3 rfl (by decide +kernel) ⟨Nat.le_of_ble_eq_true rfl, Nat.le_of_ble_eq_true rfl⟩ hW hl.1 rfl (Nat.le_of_ble_eq_true rfl) ⟨Nat.le_of_ble_eq_true rfl, Nat.le_of_ble_eq_true rfl⟩ dL_refuses_169 (fun r_27 M_27 n_27 K_27 H locs hp hW => ?_)
                          obtain ⟨rfl, rfl, rfl, rfl⟩ := hp
                          refine k_ldc (z := (-9010000)) hx hb hown hmw1 (by decide +kernel) dL_refuses_172 ?_
                          refine k_icmp_ne (tgt := 204) hx hb dL_refuses_174 (by decide) (by omega) (by omega) (fun c_28 => ?_) (fun c_28 => ?_)
                          · exfalso; omega
                          · skip
                            refine lv_aload_n hx hb dL_refuses_177 rfl (lv_at hl 3 rfl) ?_
                            refine k_sipush hx hb dL_refuses_178 (by decide +kernel) ?_
                            refine k_iconst hx hb dL_refuses_181 ?_
                            refine q_call1 (As := [.int (iI 6001), .int (iI 0)]) (rest := []) ⟨hx, hb, hml, hown, hts⟩ hGX hA (k_setPole_t l hst D cy o M n K 6001 0 (show -2147483648 ≤ (6001 : Int) ∧ (6001 : Int) ≤ 2147483647 from by omega) (show -2147483648 ≤ (0 : Int) ∧ (0 : Int) ≤ 2147483647 from by omega) (show ¬ poleOK (6001 : Int) (0 : Int) from fun h => absurd h.1.2 (by decide))) gkL_refuses_L_setPole rfl ⟨rfl, rfl⟩ 3 rfl (by decide +kernel) ⟨Nat.le_of_ble_eq_true rfl, Nat.le_of_ble_eq_true rfl⟩ hW hl.1 rfl (Nat.le_of_ble_eq_true rfl) ⟨Nat.le_of_ble_eq_true rfl, Nat.le_of_ble_eq_true rfl⟩ dL_refuses_182 (fun r_29 M_29 n_29 K_29 H locs hp hW => ?_)
                            obtain ⟨rfl, rfl, rfl, rfl⟩ := hp
                            refine k_ldc (z := (-9010000)) hx hb hown hmw1 (by decide +kernel) dL_refuses_185 ?_
                            refine k_icmp_ne (tgt := 204) hx hb dL_refuses_187 (by decide) (by omega) (by omega) (fun c_30 => ?_) (fun c_30 => ?_)
                            · exfalso; omega
                            · skip
                              refine lv_aload_n hx hb dL_refuses_190 rfl (lv_at hl 3 rfl) ?_
                              refine k_iconst hx hb dL_refuses_191 ?_
                              refine q_call1 (As := [.int (iI 0)]) (rest := []) ⟨hx, hb, hml, hown, hts⟩ hGX hA (k_search_t l hst D cy o M n K 0 (show -2147483648 ≤ (0 : Int) ∧ (0 : Int) ≤ 2147483647 from by omega) (show ¬ (1 ≤ (0 : Int) ∧ (0 : Int) ≤ 512) from by decide)) gkL_refuses_L_search rfl ⟨rfl, rfl⟩ 2 rfl (by decide +kernel) ⟨Nat.le_of_ble_eq_true rfl, Nat.le_of_ble_eq_true rfl⟩ hW hl.1 rfl (Nat.le_of_ble_eq_true rfl) ⟨Nat.le_of_ble_eq_true rfl, Nat.le_of_ble_eq_true rfl⟩ dL_refuses_192 (fun r_31 M_31 n_31 K_31 H locs hp hW => ?_)
                              obtain ⟨rfl, rfl, rfl, rfl⟩ := hp
                              refine k_ldc (z := (-9010000)) hx hb hown hmw1 (by decide +kernel) dL_refuses_195 ?_
                              refine k_icmp_ne (tgt := 204) hx hb dL_refuses_197 (by decide) (by omega) (by omega) (fun c_32 => ?_) (fun c_32 => ?_)
                              · exfalso; omega
                              · skip
                                refine k_iconst hx hb dL_refuses_200 ?_
                                refine lv_goto (tgt := 205) hx hb dL_refuses_201 (by decide) ?_
                                refine lv_istore (lv' := [(5, .int (iI 1)), (4, .int (iI (M 13))), (3, .int (iI (M 12))), (1, .long (lI (dgH M n 0 0))), (0, .ref o)]) hx hb dL_refuses_205 hl (by decide) rfl (fun ls hl => ?_)
                                refine lv_iload hx hb dL_refuses_207 (lv_at hl 0 rfl) ?_
                                refine k_if_eq (tgt := 405) hx hb dL_refuses_209 (by decide) (by omega) (fun c_33 => ?_) (fun c_33 => ?_)
                                · exfalso; omega
                                · skip
                                  refine lv_aload_n hx hb dL_refuses_212 rfl (lv_at hl 4 rfl) ?_
                                  refine k_iconst hx hb dL_refuses_213 ?_
                                  refine k_iconst hx hb dL_refuses_214 ?_
                                  refine k_iconst hx hb dL_refuses_215 ?_
                                  refine q_call1 (As := [.int (iI 0), .int (iI 0), .int (iI 0)]) (rest := []) ⟨hx, hb, hml, hown, hts⟩ hGX hA (k_addStar_t2 l hst D cy o M n K 0 0 0 (show -2147483648 ≤ (0 : Int) ∧ (0 : Int) ≤ 2147483647 from by omega) (show -2147483648 ≤ (0 : Int) ∧ (0 : Int) ≤ 2147483647 from by omega) (show -2147483648 ≤ (0 : Int) ∧ (0 : Int) ≤ 2147483647 from by omega) (show ¬ starOK (0 : Int) (0 : Int) (0 : Int) from fun h => absurd h.1.1 (by decide))) gkL_refuses_L_addStar rfl ⟨rfl, rfl⟩ 4 rfl (by decide +kernel) ⟨Nat.le_of_ble_eq_true rfl, Nat.le_of_ble_eq_true rfl⟩ hW hl.1 rfl (Nat.le_of_ble_eq_true rfl) ⟨Nat.le_of_ble_eq_true rfl, Nat.le_of_ble_eq_true rfl⟩ dL_refuses_216 (fun r_34 M_34 n_34 K_34 H locs hp hW => ?_)
                                  obtain ⟨rfl, rfl, rfl, rfl⟩ := hp
                                  refine k_ldc (z := (-9010000)) hx hb hown hmw1 (by decide +kernel) dL_refuses_219 ?_
                                  refine k_icmp_ne (tgt := 405) hx hb dL_refuses_221 (by decide) (by omega) (by omega) (fun c_35 => ?_) (fun c_35 => ?_)
                                  · exfalso; omega
                                  · skip
                                    refine lv_aload_n hx hb dL_refuses_224 rfl (lv_at hl 4 rfl) ?_
                                    refine k_ldc (z := 100001) hx hb hown hmw4 (by decide +kernel) dL_refuses_225 ?_
                                    refine k_iconst hx hb dL_refuses_227 ?_
                                    refine k_iconst hx hb dL_refuses_228 ?_
                                    refine q_call1 (As := [.int (iI 100001), .int (iI 0), .int (iI 0)]) (rest := []) ⟨hx, hb, hml, hown, hts⟩ hGX hA (k_addStar_t2 l hst D cy o M n K 100001 0 0 (show -2147483648 ≤ (100001 : Int) ∧ (100001 : Int) ≤ 2147483647 from by omega) (show -2147483648 ≤ (0 : Int) ∧ (0 : Int) ≤ 2147483647 from by omega) (show -2147483648 ≤ (0 : Int) ∧ (0 : Int) ≤ 2147483647 from by omega) (show ¬ starOK (100001 : Int) (0 : Int) (0 : Int) from fun h => absurd h.1.2 (by decide))) gkL_refuses_L_addStar rfl ⟨rfl, rfl⟩ 4 rfl (by decide +kernel) ⟨Nat.le_of_ble_eq_true rfl, Nat.le_of_ble_eq_true rfl⟩ hW hl.1 rfl (Nat.le_of_ble_eq_true rfl) ⟨Nat.le_of_ble_eq_true rfl, Nat.le_of_ble_eq_true rfl⟩ dL_refuses_229 (fun r_36 M_36 n_36 K_36 H locs hp hW => ?_)
                                    obtain ⟨rfl, rfl, rfl, rfl⟩ := hp
                                    refine k_ldc (z := (-9010000)) hx hb hown hmw1 (by decide +kernel) dL_refuses_232 ?_
                                    refine k_icmp_ne (tgt := 405) hx hb dL_refuses_234 (by decide) (by omega) (by omega) (fun c_37 => ?_) (fun c_37 => ?_)
                                    · exfalso; omega
                                    · skip
                                      refine lv_aload_n hx hb dL_refuses_237 rfl (lv_at hl 4 rfl) ?_
                                      refine k_iconst hx hb dL_refuses_238 ?_
                                      refine k_iconst hx hb dL_refuses_239 ?_
                                      refine k_iconst hx hb dL_refuses_240 ?_
                                      refine q_call1 (As := [.int (iI 1), .int (iI (-1)), .int (iI 0)]) (rest := []) ⟨hx, hb, hml, hown, hts⟩ hGX hA (k_addStar_t2 l hst D cy o M n K 1 (-1) 0 (show -2147483648 ≤ (1 : Int) ∧ (1 : Int) ≤ 2147483647 from by omega) (show -2147483648 ≤ (-1 : Int) ∧ (-1 : Int) ≤ 2147483647 from by omega) (show -2147483648 ≤ (0 : Int) ∧ (0 : Int) ≤ 2147483647 from by omega) (show ¬ starOK (1 : Int) (-1 : Int) (0 : Int) from fun h => absurd h.2.1.1 (by decide))) gkL_refuses_L_addStar rfl ⟨rfl, rfl⟩ 4 rfl (by decide +kernel) ⟨Nat.le_of_ble_eq_true rfl, Nat.le_of_ble_eq_true rfl⟩ hW hl.1 rfl (Nat.le_of_ble_eq_true rfl) ⟨Nat.le_of_ble_eq_true rfl, Nat.le_of_ble_eq_true rfl⟩ dL_refuses_241 (fun r_38 M_38 n_38 K_38 H locs hp hW => ?_)
                                      obtain ⟨rfl, rfl, rfl, rfl⟩ := hp
                                      refine k_ldc (z := (-9010000)) hx hb hown hmw1 (by decide +kernel) dL_refuses_244 ?_
                                      refine k_icmp_ne (tgt := 405) hx hb dL_refuses_246 (by decide) (by omega) (by omega) (fun c_39 => ?_) (fun c_39 => ?_)
                                      · exfalso; omega
                                      · skip
                                        refine lv_aload_n hx hb dL_refuses_249 rfl (lv_at hl 4 rfl) ?_
                                        refine lv_iload hx hb dL_refuses_250 (lv_at hl 1 rfl) ?_
                                        refine q_call1 (As := [.int (iI (M 13))]) (rest := []) ⟨hx, hb, hml, hown, hts⟩ hGX hA (k_removeStar_t l hst D cy o M n K (M 13) (show -2147483648 ≤ (M 13) ∧ (M 13) ≤ 2147483647 from by omega) (show ¬ (0 ≤ (M 13) ∧ (M 13) < M 13) from by omega)) gkL_refuses_L_removeStar rfl ⟨rfl, rfl⟩ 2 rfl (by decide +kernel) ⟨Nat.le_of_ble_eq_true rfl, Nat.le_of_ble_eq_true rfl⟩ hW hl.1 rfl (Nat.le_of_ble_eq_true rfl) ⟨Nat.le_of_ble_eq_true rfl, Nat.le_of_ble_eq_true rfl⟩ dL_refuses_252 (fun r_40 M_40 n_40 K_40 H locs hp hW => ?_)
                                        obtain ⟨rfl, rfl, rfl, rfl⟩ := hp
                                        refine k_ldc (z := (-9030000)) hx hb hown hmw0 (by decide +kernel) dL_refuses_255 ?_
                                        refine k_icmp_ne (tgt := 405) hx hb dL_refuses_257 (by decide) (by omega) (by omega) (fun c_41 => ?_) (fun c_41 => ?_)
                                        · exfalso; omega
                                        · skip
                                          refine lv_aload_n hx hb dL_refuses_260 rfl (lv_at hl 4 rfl) ?_
                                          refine lv_iload_n hx hb dL_refuses_261 rfl (lv_at hl 2 rfl) ?_
                                          refine k_iconst hx hb dL_refuses_262 ?_
                                          refine k_bipush hx hb dL_refuses_263 (by decide +kernel) ?_
                                          refine q_call1 (As := [.int (iI (M 12)), .int (iI 0), .int (iI 99)]) (rest := []) ⟨hx, hb, hml, hown, hts⟩ hGX hA (k_point_t l hst D cy o M n K (M 12) 0 99 (show -2147483648 ≤ (M 12) ∧ (M 12) ≤ 2147483647 from by omega) (show -2147483648 ≤ (0 : Int) ∧ (0 : Int) ≤ 2147483647 from by omega) (show ¬ ((0 ≤ (M 12) ∧ (M 12) < M 12) ∧ 0 ≤ (0 : Int) ∧ (0 : Int) < pts M (M 12)) from by omega)) gkL_refuses_L_point rfl ⟨rfl, rfl⟩ 4 rfl (by decide +kernel) ⟨Nat.le_of_ble_eq_true rfl, Nat.le_of_ble_eq_true rfl⟩ hW hl.1 rfl (Nat.le_of_ble_eq_true rfl) ⟨Nat.le_of_ble_eq_true rfl, Nat.le_of_ble_eq_true rfl⟩ dL_refuses_265 (fun r_42 M_42 n_42 K_42 H locs hp hW => ?_)
                                          obtain ⟨rfl, rfl, rfl, rfl⟩ := hp
                                          refine k_ldc (z := (-9030000)) hx hb hown hmw0 (by decide +kernel) dL_refuses_268 ?_
                                          refine k_icmp_ne (tgt := 405) hx hb dL_refuses_270 (by decide) (by omega) (by omega) (fun c_43 => ?_) (fun c_43 => ?_)
                                          · exfalso; omega
                                          · skip
                                            refine lv_aload_n hx hb dL_refuses_273 rfl (lv_at hl 4 rfl) ?_
                                            refine lv_iload_n hx hb dL_refuses_274 rfl (lv_at hl 2 rfl) ?_
                                            refine k_bipush hx hb dL_refuses_275 (by decide +kernel) ?_
                                            refine q_call1 (As := [.int (iI (M 12)), .int (iI 99)]) (rest := []) ⟨hx, hb, hml, hown, hts⟩ hGX hA (k_trail_t l hst D cy o M n K (M 12) 99 (show -2147483648 ≤ (M 12) ∧ (M 12) ≤ 2147483647 from by omega) (show ¬ (0 ≤ (M 12) ∧ (M 12) < M 12) from by omega)) gkL_refuses_L_trail rfl ⟨rfl, rfl⟩ 3 rfl (by decide +kernel) ⟨Nat.le_of_ble_eq_true rfl, Nat.le_of_ble_eq_true rfl⟩ hW hl.1 rfl (Nat.le_of_ble_eq_true rfl) ⟨Nat.le_of_ble_eq_true rfl, Nat.le_of_ble_eq_true rfl⟩ dL_refuses_277 (fun r_44 M_44 n_44 K_44 H locs hp hW => ?_)
                                            obtain ⟨rfl, rfl, rfl, rfl⟩ := hp
                                            refine k_ldc (z := (-9030000)) hx hb hown hmw0 (by decide +kernel) dL_refuses_280 ?_
                                            refine k_icmp_ne (tgt := 405) hx hb dL_refuses_282 (by decide) (by omega) (by omega) (fun c_45 => ?_) (fun c_45 => ?_)
                                            · exfalso; omega
                                            · skip
                                              refine lv_aload_n hx hb dL_refuses_285 rfl (lv_at hl 4 rfl) ?_
                                              refine lv_iload hx hb dL_refuses_286 (lv_at hl 1 rfl) ?_
                                              refine k_bipush hx hb dL_refuses_288 (by decide +kernel) ?_
                                              refine q_call1 (As := [.int (iI (M 13)), .int (iI 99)]) (rest := []) ⟨hx, hb, hml, hown, hts⟩ hGX hA (k_star_t l hst D cy o M n K (M 13) 99 (show -2147483648 ≤ (M 13) ∧ (M 13) ≤ 2147483647 from by omega) (show ¬ (0 ≤ (M 13) ∧ (M 13) < M 13) from by omega)) gkL_refuses_L_star rfl ⟨rfl, rfl⟩ 3 rfl (by decide +kernel) ⟨Nat.le_of_ble_eq_true rfl, Nat.le_of_ble_eq_true rfl⟩ hW hl.1 rfl (Nat.le_of_ble_eq_true rfl) ⟨Nat.le_of_ble_eq_true rfl, Nat.le_of_ble_eq_true rfl⟩ dL_refuses_290 (fun r_46 M_46 n_46 K_46 H locs hp hW => ?_)
                                              obtain ⟨rfl, rfl, rfl, rfl⟩ := hp
                                              refine k_ldc (z := (-9030000)) hx hb hown hmw0 (by decide +kernel) dL_refuses_293 ?_
                                              refine k_icmp_ne (tgt := 405) hx hb dL_refuses_295 (by decide) (by omega) (by omega) (fun c_47 => ?_) (fun c_47 => ?_)
                                              · exfalso; omega
                                              · skip
                                                refine lv_aload_n hx hb dL_refuses_298 rfl (lv_at hl 4 rfl) ?_
                                                refine lv_iload hx hb dL_refuses_299 (lv_at hl 1 rfl) ?_
                                                refine k_iconst hx hb dL_refuses_301 ?_
                                                refine q_call1 (As := [.int (iI (M 13)), .int (iI (-1))]) (rest := []) ⟨hx, hb, hml, hown, hts⟩ hGX hA (k_starAngle_t l hst D cy o M n K (M 13) (-1) (show -2147483648 ≤ (M 13) ∧ (M 13) ≤ 2147483647 from by omega) (show ¬ (0 ≤ (M 13) ∧ (M 13) < M 13) from by omega)) gkL_refuses_L_starAngle rfl ⟨rfl, rfl⟩ 3 rfl (by decide +kernel) ⟨Nat.le_of_ble_eq_true rfl, Nat.le_of_ble_eq_true rfl⟩ hW hl.1 rfl (Nat.le_of_ble_eq_true rfl) ⟨Nat.le_of_ble_eq_true rfl, Nat.le_of_ble_eq_true rfl⟩ dL_refuses_302 (fun r_48 M_48 n_48 K_48 H locs hp hW => ?_)
                                                obtain ⟨rfl, rfl, rfl, rfl⟩ := hp
                                                refine k_ldc (z := (-9030000)) hx hb hown hmw0 (by decide +kernel) dL_refuses_305 ?_
                                                refine k_icmp_ne (tgt := 405) hx hb dL_refuses_307 (by decide) (by omega) (by omega) (fun c_49 => ?_) (fun c_49 => ?_)
                                                · exfalso; omega
                                                · skip
                                                  refine lv_aload_n hx hb dL_refuses_310 rfl (lv_at hl 4 rfl) ?_
                                                  refine lv_iload_n hx hb dL_refuses_311 rfl (lv_at hl 2 rfl) ?_
                                                  refine k_iconst hx hb dL_refuses_312 ?_
                                                  refine q_call1 (As := [.int (iI (M 12)), .int (iI 0)]) (rest := []) ⟨hx, hb, hml, hown, hts⟩ hGX hA (k_cost_t l hst D cy o M n K (M 12) 0 (show -2147483648 ≤ (M 12) ∧ (M 12) ≤ 2147483647 from by omega) (show -2147483648 ≤ (0 : Int) ∧ (0 : Int) ≤ 2147483647 from by omega) (show ¬ ((0 ≤ (M 12) ∧ (M 12) < M 12) ∧ 0 ≤ (0 : Int) ∧ (0 : Int) < M 13) from by omega)) gkL_refuses_L_cost rfl ⟨rfl, rfl⟩ 3 rfl (by decide +kernel) ⟨Nat.le_of_ble_eq_true rfl, Nat.le_of_ble_eq_true rfl⟩ hW hl.1 rfl (Nat.le_of_ble_eq_true rfl) ⟨Nat.le_of_ble_eq_true rfl, Nat.le_of_ble_eq_true rfl⟩ dL_refuses_313 (fun r_50 M_50 n_50 K_50 H locs hp hW => ?_)
                                                  obtain ⟨rfl, rfl, rfl, rfl⟩ := hp
                                                  refine k_ldc (z := (-9030000)) hx hb hown hmw0 (by decide +kernel) dL_refuses_316 ?_
                                                  refine k_icmp_ne (tgt := 405) hx hb dL_refuses_318 (by decide) (by omega) (by omega) (fun c_51 => ?_) (fun c_51 => ?_)
                                                  · exfalso; omega
                                                  · skip
                                                    refine lv_aload_n hx hb dL_refuses_321 rfl (lv_at hl 4 rfl) ?_
                                                    refine k_iconst hx hb dL_refuses_322 ?_
                                                    refine lv_iload hx hb dL_refuses_323 (lv_at hl 1 rfl) ?_
                                                    refine q_call1 (As := [.int (iI 0), .int (iI (M 13))]) (rest := []) ⟨hx, hb, hml, hown, hts⟩ hGX hA (k_cost_t l hst D cy o M n K 0 (M 13) (show -2147483648 ≤ (0 : Int) ∧ (0 : Int) ≤ 2147483647 from by omega) (show -2147483648 ≤ (M 13) ∧ (M 13) ≤ 2147483647 from by omega) (show ¬ ((0 ≤ (0 : Int) ∧ (0 : Int) < M 12) ∧ 0 ≤ (M 13) ∧ (M 13) < M 13) from by omega)) gkL_refuses_L_cost rfl ⟨rfl, rfl⟩ 3 rfl (by decide +kernel) ⟨Nat.le_of_ble_eq_true rfl, Nat.le_of_ble_eq_true rfl⟩ hW hl.1 rfl (Nat.le_of_ble_eq_true rfl) ⟨Nat.le_of_ble_eq_true rfl, Nat.le_of_ble_eq_true rfl⟩ dL_refuses_325 (fun r_52 M_52 n_52 K_52 H locs hp hW => ?_)
                                                    obtain ⟨rfl, rfl, rfl, rfl⟩ := hp
                                                    refine k_ldc (z := (-9030000)) hx hb hown hmw0 (by decide +kernel) dL_refuses_328 ?_
                                                    refine k_icmp_ne (tgt := 405) hx hb dL_refuses_330 (by decide) (by omega) (by omega) (fun c_53 => ?_) (fun c_53 => ?_)
                                                    · exfalso; omega
                                                    · skip
                                                      refine lv_aload_n hx hb dL_refuses_333 rfl (lv_at hl 4 rfl) ?_
                                                      refine k_iconst hx hb dL_refuses_334 ?_
                                                      refine q_call1 (As := [.int (iI (-1))]) (rest := []) ⟨hx, hb, hml, hown, hts⟩ hGX hA (k_missing_t l hst D cy o M n K (-1) (show -2147483648 ≤ (-1 : Int) ∧ (-1 : Int) ≤ 2147483647 from by omega) (show (-1 : Int) < 0 from by decide)) gkL_refuses_L_missing rfl ⟨rfl, rfl⟩ 2 rfl (by decide +kernel) ⟨Nat.le_of_ble_eq_true rfl, Nat.le_of_ble_eq_true rfl⟩ hW hl.1 rfl (Nat.le_of_ble_eq_true rfl) ⟨Nat.le_of_ble_eq_true rfl, Nat.le_of_ble_eq_true rfl⟩ dL_refuses_335 (fun r_54 M_54 n_54 K_54 H locs hp hW => ?_)
                                                      obtain ⟨rfl, rfl, rfl, rfl⟩ := hp
                                                      refine k_ldc (z := (-9010000)) hx hb hown hmw1 (by decide +kernel) dL_refuses_338 ?_
                                                      refine k_icmp_ne (tgt := 405) hx hb dL_refuses_340 (by decide) (by omega) (by omega) (fun c_55 => ?_) (fun c_55 => ?_)
                                                      · exfalso; omega
                                                      · skip
                                                        refine lv_aload_n hx hb dL_refuses_343 rfl (lv_at hl 4 rfl) ?_
                                                        refine k_bipush hx hb dL_refuses_344 (by decide +kernel) ?_
                                                        refine q_call1 (As := [.int (iI 10)]) (rest := []) ⟨hx, hb, hml, hown, hts⟩ hGX hA (k_setting_t l hst D cy o M n K 10 (show -2147483648 ≤ (10 : Int) ∧ (10 : Int) ≤ 2147483647 from by omega) (show ¬ (0 ≤ (10 : Int) ∧ (10 : Int) ≤ 9) from by decide)) gkL_refuses_L_setting rfl ⟨rfl, rfl⟩ 2 rfl (by decide +kernel) ⟨Nat.le_of_ble_eq_true rfl, Nat.le_of_ble_eq_true rfl⟩ hW hl.1 rfl (Nat.le_of_ble_eq_true rfl) ⟨Nat.le_of_ble_eq_true rfl, Nat.le_of_ble_eq_true rfl⟩ dL_refuses_346 (fun r_56 M_56 n_56 K_56 H locs hp hW => ?_)
                                                        obtain ⟨rfl, rfl, rfl, rfl⟩ := hp
                                                        refine k_ldc (z := (-9010000)) hx hb hown hmw1 (by decide +kernel) dL_refuses_349 ?_
                                                        refine k_icmp_ne (tgt := 405) hx hb dL_refuses_351 (by decide) (by omega) (by omega) (fun c_57 => ?_) (fun c_57 => ?_)
                                                        · exfalso; omega
                                                        · skip
                                                          refine lv_aload_n hx hb dL_refuses_354 rfl (lv_at hl 4 rfl) ?_
                                                          refine k_bipush hx hb dL_refuses_355 (by decide +kernel) ?_
                                                          refine q_call1 (As := [.int (iI 11)]) (rest := []) ⟨hx, hb, hml, hown, hts⟩ hGX hA (k_whole_t l hst D cy o M n K 11 (show -2147483648 ≤ (11 : Int) ∧ (11 : Int) ≤ 2147483647 from by omega) (show ¬ (0 ≤ (11 : Int) ∧ (11 : Int) ≤ 10) from by decide)) gkL_refuses_L_whole rfl ⟨rfl, rfl⟩ 2 rfl (by decide +kernel) ⟨Nat.le_of_ble_eq_true rfl, Nat.le_of_ble_eq_true rfl⟩ hW hl.1 rfl (Nat.le_of_ble_eq_true rfl) ⟨Nat.le_of_ble_eq_true rfl, Nat.le_of_ble_eq_true rfl⟩ dL_refuses_357 (fun r_58 M_58 n_58 K_58 H locs hp hW => ?_)
                                                          obtain ⟨rfl, rfl, rfl, rfl⟩ := hp
                                                          refine k_ldc (z := (-9010000)) hx hb hown hmw1 (by decide +kernel) dL_refuses_360 ?_
                                                          refine k_icmp_ne (tgt := 405) hx hb dL_refuses_362 (by decide) (by omega) (by omega) (fun c_59 => ?_) (fun c_59 => ?_)
                                                          · exfalso; omega
                                                          · skip
                                                            refine lv_aload_n hx hb dL_refuses_365 rfl (lv_at hl 4 rfl) ?_
                                                            refine k_sipush hx hb dL_refuses_366 (by decide +kernel) ?_
                                                            refine k_iconst hx hb dL_refuses_369 ?_
                                                            refine q_call1 (As := [.int (iI (-2001)), .int (iI 0)]) (rest := []) ⟨hx, hb, hml, hown, hts⟩ hGX hA (k_costAt_t l hst D cy o M n K (-2001) 0 (show -2147483648 ≤ (-2001 : Int) ∧ (-2001 : Int) ≤ 2147483647 from by omega) (show -2147483648 ≤ (0 : Int) ∧ (0 : Int) ≤ 2147483647 from by omega) (show ¬ poleOK (-2001 : Int) (0 : Int) from fun h => absurd h.1.1 (by decide))) gkL_refuses_L_costAt rfl ⟨rfl, rfl⟩ 3 rfl (by decide +kernel) ⟨Nat.le_of_ble_eq_true rfl, Nat.le_of_ble_eq_true rfl⟩ hW hl.1 rfl (Nat.le_of_ble_eq_true rfl) ⟨Nat.le_of_ble_eq_true rfl, Nat.le_of_ble_eq_true rfl⟩ dL_refuses_370 (fun r_60 M_60 n_60 K_60 H locs hp hW => ?_)
                                                            obtain ⟨rfl, rfl, rfl, rfl⟩ := hp
                                                            refine k_ldc (z := (-9010000)) hx hb hown hmw1 (by decide +kernel) dL_refuses_373 ?_
                                                            refine k_icmp_ne (tgt := 405) hx hb dL_refuses_375 (by decide) (by omega) (by omega) (fun c_61 => ?_) (fun c_61 => ?_)
                                                            · exfalso; omega
                                                            · skip
                                                              refine lv_aload_n hx hb dL_refuses_378 rfl (lv_at hl 4 rfl) ?_
                                                              refine k_bipush hx hb dL_refuses_379 (by decide +kernel) ?_
                                                              refine q_call1 (As := [.int (iI 6)]) (rest := []) ⟨hx, hb, hml, hown, hts⟩ hGX hA (k_bestDrift_t l hst D cy o M n K 6 (show -2147483648 ≤ (6 : Int) ∧ (6 : Int) ≤ 2147483647 from by omega) (show ¬ (0 ≤ (6 : Int) ∧ (6 : Int) ≤ 5) from by decide)) gkL_refuses_L_bestDrift rfl ⟨rfl, rfl⟩ 2 rfl (by decide +kernel) ⟨Nat.le_of_ble_eq_true rfl, Nat.le_of_ble_eq_true rfl⟩ hW hl.1 rfl (Nat.le_of_ble_eq_true rfl) ⟨Nat.le_of_ble_eq_true rfl, Nat.le_of_ble_eq_true rfl⟩ dL_refuses_381 (fun r_62 M_62 n_62 K_62 H locs hp hW => ?_)
                                                              obtain ⟨rfl, rfl, rfl, rfl⟩ := hp
                                                              refine k_ldc (z := (-9010000)) hx hb hown hmw1 (by decide +kernel) dL_refuses_384 ?_
                                                              refine k_icmp_ne (tgt := 405) hx hb dL_refuses_386 (by decide) (by omega) (by omega) (fun c_63 => ?_) (fun c_63 => ?_)
                                                              · exfalso; omega
                                                              · skip
                                                                refine lv_aload_n hx hb dL_refuses_389 rfl (lv_at hl 4 rfl) ?_
                                                                refine k_sipush hx hb dL_refuses_390 (by decide +kernel) ?_
                                                                refine q_call1 (As := [.int (iI 128)]) (rest := []) ⟨hx, hb, hml, hown, hts⟩ hGX hA (k_type_t l hst D cy o M n K 128 (show -2147483648 ≤ (128 : Int) ∧ (128 : Int) ≤ 2147483647 from by omega) (show ¬ (0 ≤ (128 : Int) ∧ (128 : Int) ≤ 127) from by decide)) gkL_refuses_L_type rfl ⟨rfl, rfl⟩ 2 rfl (by decide +kernel) ⟨Nat.le_of_ble_eq_true rfl, Nat.le_of_ble_eq_true rfl⟩ hW hl.1 rfl (Nat.le_of_ble_eq_true rfl) ⟨Nat.le_of_ble_eq_true rfl, Nat.le_of_ble_eq_true rfl⟩ dL_refuses_393 (fun r_64 M_64 n_64 K_64 H locs hp hW => ?_)
                                                                obtain ⟨rfl, rfl, rfl, rfl⟩ := hp
                                                                refine k_ldc (z := (-9010000)) hx hb hown hmw1 (by decide +kernel) dL_refuses_396 ?_
                                                                refine k_icmp_ne (tgt := 405) hx hb dL_refuses_398 (by decide) (by omega) (by omega) (fun c_65 => ?_) (fun c_65 => ?_)
                                                                · exfalso; omega
                                                                · skip
                                                                  refine k_iconst hx hb dL_refuses_401 ?_
                                                                  refine lv_goto (tgt := 406) hx hb dL_refuses_402 (by decide) ?_
                                                                  refine lv_istore (lv' := [(5, .int (iI 1)), (4, .int (iI (M 13))), (3, .int (iI (M 12))), (1, .long (lI (dgH M n 0 0))), (0, .ref o)]) hx hb dL_refuses_406 hl (by decide) rfl (fun ls hl => ?_)
                                                                  refine lv_iload hx hb dL_refuses_408 (lv_at hl 0 rfl) ?_
                                                                  refine k_if_eq (tgt := 426) hx hb dL_refuses_410 (by decide) (by omega) (fun c_66 => ?_) (fun c_66 => ?_)
                                                                  · exfalso; omega
                                                                  · skip
                                                                    refine lv_aload_n hx hb dL_refuses_413 rfl (lv_at hl 4 rfl) ?_
                                                                    refine qv_digest ⟨hx, hb, hml, hown, hts⟩ hGX hA gkL_refuses_X6_digest ⟨Nat.le_of_ble_eq_true rfl, Nat.le_of_ble_eq_true rfl⟩ hW hl.1 (Nat.le_of_ble_eq_true rfl) ⟨Nat.le_of_ble_eq_true rfl, Nat.le_of_ble_eq_true rfl⟩ dL_refuses_414 (fun H locs hW => ?_)
                                                                    refine lv_lload_n hx hb dL_refuses_417 rfl (lv_at hl 3 rfl) ?_
                                                                    refine W.lcmp hx hb dL_refuses_418 ?_
                                                                    rw [cmp_self]
                                                                    refine lv_if_ne (tgt := 426) hx hb dL_refuses_419 (by decide) (fun h => absurd rfl h) (fun _ => ?_)
                                                                    refine k_iconst hx hb dL_refuses_422 ?_
                                                                    refine lv_goto (tgt := 427) hx hb dL_refuses_423 (by decide) ?_
                                                                    exact hret 1 _ _ _ H locs _ _ 427 ls (⟨rfl, rfl, rfl, rfl⟩) hW ⟨Nat.le_of_ble_eq_true rfl, Nat.le_of_ble_eq_true rfl⟩ (Or.inr ⟨rfl, Or.inr rfl⟩) dL_refuses_427
