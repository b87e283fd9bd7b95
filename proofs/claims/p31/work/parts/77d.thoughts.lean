/-! the law's check of what changes nothing -/
set_option maxHeartbeats 8000000 in
set_option maxRecDepth 100000 in
theorem k_thoughts (l : Launch) (D : va_G) (cy : Nat → ClassId) (o : Nat) (M : Int → Int) (n : Int) (K : Nat → Int → Int) (x9 : Int)  : CKs l D cy yL_thoughts wkL_thoughts { frames := 8, cells := 0, slots := 0, locals := 201 } o [.int (iI x9)] M n K (fun r M' n' K' => 1 = r ∧ M = M') 0 0 := by
  refine ck_start (cc := cL_thoughts) (maxL := 14) (ret := (some .boolean)) (by decide) rfl (Nat.le_of_ble_eq_true rfl) ?_
  intro p e s m below meth c A0 Q hx hb hr hlocks hml hts hown hA hGX hret H ls hW hl
  have hl : lv_has ls 14 [(0, .ref o), (1, .int (iI x9))] := hl
  have hI := hW.inv
  have hS12 := inv_S12 hI
  have hS0 := hI.1
  unfold InvS at hS0
  have hnn := hW.nn
  generalize ([] : List Loc) = locs at hW ⊢
  have hmw0 := hts (.constant RL 109 (-1000000000)) (ckL_thoughts _ (by decide +kernel))
  have hbz := bzF_sp hI
  have hbzr : -1000000000 ≤ bzF M ∧ bzF M ≤ 359999 := by rcases hbz with ⟨h1, _⟩ | ⟨h1, h2, _⟩ <;> omega
  have hpc := inv_pcost hI
  have htot := tot_bd hI hS12.1.1 (Int.le_refl _)
  refine lv_aload_n hx hb dL_thoughts_0 rfl (lv_at hl 0 rfl) ?_
  refine qv_digest ⟨hx, hb, hml, hown, hts⟩ hGX hA gkL_thoughts_X6_digest ⟨Nat.le_of_ble_eq_true rfl, Nat.le_of_ble_eq_true rfl⟩ hW hl.1 (Nat.le_of_ble_eq_true rfl) ⟨Nat.le_of_ble_eq_true rfl, Nat.le_of_ble_eq_true rfl⟩ dL_thoughts_1 (fun H locs hW => ?_)
  refine lv_lstore_n (lv' := [(2, .long (lI (dgH M n 0 0))), (0, .ref o), (1, .int (iI x9))]) hx hb dL_thoughts_4 rfl hl (by decide) rfl (fun ls hl => ?_)
  refine lv_aload_n hx hb dL_thoughts_5 rfl (lv_at hl 1 rfl) ?_
  refine qv_bestZero ⟨hx, hb, hml, hown, hts⟩ hGX hA gkL_thoughts_X6_bestZero ⟨Nat.le_of_ble_eq_true rfl, Nat.le_of_ble_eq_true rfl⟩ hW hl.1 (Nat.le_of_ble_eq_true rfl) ⟨Nat.le_of_ble_eq_true rfl, Nat.le_of_ble_eq_true rfl⟩ dL_thoughts_6 (fun H locs hW => ?_)
  refine lv_istore (lv' := [(4, .int (iI (bzF M))), (2, .long (lI (dgH M n 0 0))), (0, .ref o), (1, .int (iI x9))]) hx hb dL_thoughts_9 hl (by decide) rfl (fun ls hl => ?_)
  refine lv_aload_n hx hb dL_thoughts_11 rfl (lv_at hl 2 rfl) ?_
  refine k_iconst hx hb dL_thoughts_12 ?_
  refine q_call0 (As := [.int (iI 0)]) (rest := []) ⟨hx, hb, hml, hown, hts⟩ hGX hA (ck_ans (k_bestDrift l D cy o M n K 0 (show 0 ≤ (0 : Int) ∧ (0 : Int) ≤ 5 from by decide)) (show bdF M (0 : Int) = 1000 * (M 1 + 100) + M 2 + 100 from bdF_0 hI)) gkL_thoughts_L_bestDrift rfl ⟨rfl, rfl⟩ 2 rfl (by decide +kernel) ⟨Nat.le_of_ble_eq_true rfl, Nat.le_of_ble_eq_true rfl⟩ hW hl.1 rfl (Nat.le_of_ble_eq_true rfl) ⟨Nat.le_of_ble_eq_true rfl, Nat.le_of_ble_eq_true rfl⟩ dL_thoughts_13 (fun r_1 M_1 n_1 K_1 H locs hp hW => ?_)
  obtain ⟨rfl, rfl, rfl, rfl⟩ := hp
  refine lv_istore (lv' := [(5, .int (iI (1000 * (M 1 + 100) + M 2 + 100))), (4, .int (iI (bzF M))), (2, .long (lI (dgH M n 0 0))), (0, .ref o), (1, .int (iI x9))]) hx hb dL_thoughts_16 hl (by decide) rfl (fun ls hl => ?_)
  refine lv_aload_n hx hb dL_thoughts_18 rfl (lv_at hl 3 rfl) ?_
  refine lv_iload_n hx hb dL_thoughts_19 rfl (lv_at hl 4 rfl) ?_
  refine k_iconst hx hb dL_thoughts_20 ?_
  refine k_roS (As := [.int (iI x9), .int (iI 3)]) (rest := [.ref o]) ⟨hx, hb, hml, hown, hts⟩ (c_L_low l D x9 3 (by omega)) gkL_thoughts_L_low rfl ⟨rfl, rfl⟩ 2 rfl (by decide +kernel) ⟨Nat.le_of_ble_eq_true rfl, Nat.le_of_ble_eq_true rfl⟩ kGT_ok trivial (fun k q h => by simp at h) hl.1 rfl (Nat.le_of_ble_eq_true rfl) ⟨Nat.le_of_ble_eq_true rfl, Nat.le_of_ble_eq_true rfl⟩ dL_thoughts_21 (fun r_2 hr_2 => ?_)
  have hr_2 : r_2 = lwF x9 3 := hr_2
  subst hr_2
  have hlw2 := lw_bd x9 (show 0 < (3 : Int) by omega)
  obtain ⟨u, v, hbd, hbd1, hbd2, hbd3⟩ := bdF_sp hI (q := (lwF x9 3)) (by omega)
  refine q_call0 (As := [.int (iI (lwF x9 3))]) (rest := []) ⟨hx, hb, hml, hown, hts⟩ hGX hA (ck_ans (k_bestDrift l D cy o M n K (lwF x9 3) (show 0 ≤ (lwF x9 3) ∧ (lwF x9 3) ≤ 5 from by omega)) (show bdF M (lwF x9 3) = 1000 * (u + 100) + v + 100 from hbd)) gkL_thoughts_L_bestDrift rfl ⟨rfl, rfl⟩ 2 rfl (by decide +kernel) ⟨Nat.le_of_ble_eq_true rfl, Nat.le_of_ble_eq_true rfl⟩ hW hl.1 rfl (Nat.le_of_ble_eq_true rfl) ⟨Nat.le_of_ble_eq_true rfl, Nat.le_of_ble_eq_true rfl⟩ dL_thoughts_24 (fun r_3 M_3 n_3 K_3 H locs hp hW => ?_)
  obtain ⟨rfl, rfl, rfl, rfl⟩ := hp
  refine lv_istore (lv' := [(6, .int (iI (1000 * (u + 100) + v + 100))), (5, .int (iI (1000 * (M 1 + 100) + M 2 + 100))), (4, .int (iI (bzF M))), (2, .long (lI (dgH M n 0 0))), (0, .ref o), (1, .int (iI x9))]) hx hb dL_thoughts_27 hl (by decide) rfl (fun ls hl => ?_)
  refine lv_aload_n hx hb dL_thoughts_29 rfl (lv_at hl 4 rfl) ?_
  refine qv_digest ⟨hx, hb, hml, hown, hts⟩ hGX hA gkL_thoughts_X6_digest ⟨Nat.le_of_ble_eq_true rfl, Nat.le_of_ble_eq_true rfl⟩ hW hl.1 (Nat.le_of_ble_eq_true rfl) ⟨Nat.le_of_ble_eq_true rfl, Nat.le_of_ble_eq_true rfl⟩ dL_thoughts_30 (fun H locs hW => ?_)
  refine lv_lload_n hx hb dL_thoughts_33 rfl (lv_at hl 3 rfl) ?_
  refine W.lcmp hx hb dL_thoughts_34 ?_
  rw [cmp_self]
  refine lv_if_ne (tgt := 113) hx hb dL_thoughts_35 (by decide) (fun h => absurd rfl h) (fun _ => ?_)
  refine lv_iload hx hb dL_thoughts_38 (lv_at hl 1 rfl) ?_
  refine k_sipush hx hb dL_thoughts_40 (by decide +kernel) ?_
  refine lv_aload_n hx hb dL_thoughts_43 rfl (lv_at hl 4 rfl) ?_
  refine k_iconst hx hb dL_thoughts_44 ?_
  refine q_call0 (As := [.int (iI 1)]) (rest := [.int (iI 1000), .int (iI (1000 * (M 1 + 100) + M 2 + 100))]) ⟨hx, hb, hml, hown, hts⟩ hGX hA (k_setting l D cy o M n K 1 (show 0 ≤ (1 : Int) ∧ (1 : Int) ≤ 9 from by omega)) gkL_thoughts_L_setting rfl ⟨rfl, rfl⟩ 2 rfl (by decide +kernel) ⟨Nat.le_of_ble_eq_true rfl, Nat.le_of_ble_eq_true rfl⟩ hW hl.1 rfl (Nat.le_of_ble_eq_true rfl) ⟨Nat.le_of_ble_eq_true rfl, Nat.le_of_ble_eq_true rfl⟩ dL_thoughts_45 (fun r_4 M_4 n_4 K_4 H locs hp hW => ?_)
  obtain ⟨rfl, rfl, rfl, rfl⟩ := hp
  refine k_bipush hx hb dL_thoughts_48 (by decide +kernel) ?_
  refine k_iadd hx hb dL_thoughts_50 ?_
  refine k_imul hx hb dL_thoughts_51 ?_
  refine lv_aload_n hx hb dL_thoughts_52 rfl (lv_at hl 4 rfl) ?_
  refine k_iconst hx hb dL_thoughts_53 ?_
  refine q_call0 (As := [.int (iI 2)]) (rest := [.int (iI (1000 * ((M (1 : Int)) + 100))), .int (iI (1000 * (M 1 + 100) + M 2 + 100))]) ⟨hx, hb, hml, hown, hts⟩ hGX hA (k_setting l D cy o M n K 2 (show 0 ≤ (2 : Int) ∧ (2 : Int) ≤ 9 from by omega)) gkL_thoughts_L_setting rfl ⟨rfl, rfl⟩ 2 rfl (by decide +kernel) ⟨Nat.le_of_ble_eq_true rfl, Nat.le_of_ble_eq_true rfl⟩ hW hl.1 rfl (Nat.le_of_ble_eq_true rfl) ⟨Nat.le_of_ble_eq_true rfl, Nat.le_of_ble_eq_true rfl⟩ dL_thoughts_54 (fun r_5 M_5 n_5 K_5 H locs hp hW => ?_)
  obtain ⟨rfl, rfl, rfl, rfl⟩ := hp
  refine k_iadd hx hb dL_thoughts_57 ?_
  refine k_bipush hx hb dL_thoughts_58 (by decide +kernel) ?_
  refine k_iadd hx hb dL_thoughts_60 ?_
  refine k_icmp_ne (tgt := 113) hx hb dL_thoughts_61 (by decide) (by omega) (by omega) (fun c_6 => ?_) (fun c_6 => ?_)
  · exfalso; omega
  · skip
    refine lv_iload hx hb dL_thoughts_64 (lv_at hl 0 rfl) ?_
    refine k_if_lt (tgt := 113) hx hb dL_thoughts_66 (by decide) (by omega) (fun c_7 => ?_) (fun c_7 => ?_)
    · exfalso; omega
    · skip
      refine lv_iload hx hb dL_thoughts_69 (lv_at hl 0 rfl) ?_
      refine k_sipush hx hb dL_thoughts_71 (by decide +kernel) ?_
      refine k_idiv hx hb dL_thoughts_74 (by omega) (by omega) ?_
      refine k_bipush hx hb dL_thoughts_75 (by decide +kernel) ?_
      refine k_isub hx hb dL_thoughts_77 ?_
      refine k_eqI (v := ((1000 * (u + 100) + v + 100) / 1000) - 100) (w := u) (by omega) ?_
      refine lv_aload_n hx hb dL_thoughts_78 rfl (lv_at hl 4 rfl) ?_
      refine k_iconst hx hb dL_thoughts_79 ?_
      refine q_call0 (As := [.int (iI 1)]) (rest := [.int (iI u)]) ⟨hx, hb, hml, hown, hts⟩ hGX hA (k_setting l D cy o M n K 1 (show 0 ≤ (1 : Int) ∧ (1 : Int) ≤ 9 from by omega)) gkL_thoughts_L_setting rfl ⟨rfl, rfl⟩ 2 rfl (by decide +kernel) ⟨Nat.le_of_ble_eq_true rfl, Nat.le_of_ble_eq_true rfl⟩ hW hl.1 rfl (Nat.le_of_ble_eq_true rfl) ⟨Nat.le_of_ble_eq_true rfl, Nat.le_of_ble_eq_true rfl⟩ dL_thoughts_80 (fun r_8 M_8 n_8 K_8 H locs hp hW => ?_)
      obtain ⟨rfl, rfl, rfl, rfl⟩ := hp
      refine k_isub hx hb dL_thoughts_83 ?_
      refine k_roS (As := [.int (iI (u - (M (1 : Int))))]) (rest := []) ⟨hx, hb, hml, hown, hts⟩ (c_L_size l D (u - (M (1 : Int))) (by omega)) gkL_thoughts_L_size rfl ⟨rfl, rfl⟩ 1 rfl (by decide +kernel) ⟨Nat.le_of_ble_eq_true rfl, Nat.le_of_ble_eq_true rfl⟩ kGT_ok trivial (fun k q h => by simp at h) hl.1 rfl (Nat.le_of_ble_eq_true rfl) ⟨Nat.le_of_ble_eq_true rfl, Nat.le_of_ble_eq_true rfl⟩ dL_thoughts_84 (fun r_9 hr_9 => ?_)
      have hr_9 : r_9 = absI (u - (M (1 : Int))) := hr_9
      subst hr_9
      have habs9 := absI_spec (u - (M (1 : Int)))
      refine k_iconst hx hb dL_thoughts_87 ?_
      refine k_icmp_gt (tgt := 113) hx hb dL_thoughts_88 (by decide) (by omega) (by omega) (fun c_10 => ?_) (fun c_10 => ?_)
      · exfalso; omega
      · skip
        refine lv_iload hx hb dL_thoughts_91 (lv_at hl 0 rfl) ?_
        refine k_sipush hx hb dL_thoughts_93 (by decide +kernel) ?_
        refine k_irem hx hb dL_thoughts_96 (by omega) (by omega) ?_
        refine k_bipush hx hb dL_thoughts_97 (by decide +kernel) ?_
        refine k_isub hx hb dL_thoughts_99 ?_
        refine k_eqI (v := ((1000 * (u + 100) + v + 100) % 1000) - 100) (w := v) (by omega) ?_
        refine lv_aload_n hx hb dL_thoughts_100 rfl (lv_at hl 4 rfl) ?_
        refine k_iconst hx hb dL_thoughts_101 ?_
        refine q_call0 (As := [.int (iI 2)]) (rest := [.int (iI v)]) ⟨hx, hb, hml, hown, hts⟩ hGX hA (k_setting l D cy o M n K 2 (show 0 ≤ (2 : Int) ∧ (2 : Int) ≤ 9 from by omega)) gkL_thoughts_L_setting rfl ⟨rfl, rfl⟩ 2 rfl (by decide +kernel) ⟨Nat.le_of_ble_eq_true rfl, Nat.le_of_ble_eq_true rfl⟩ hW hl.1 rfl (Nat.le_of_ble_eq_true rfl) ⟨Nat.le_of_ble_eq_true rfl, Nat.le_of_ble_eq_true rfl⟩ dL_thoughts_102 (fun r_11 M_11 n_11 K_11 H locs hp hW => ?_)
        obtain ⟨rfl, rfl, rfl, rfl⟩ := hp
        refine k_isub hx hb dL_thoughts_105 ?_
        refine k_roS (As := [.int (iI (v - (M (2 : Int))))]) (rest := []) ⟨hx, hb, hml, hown, hts⟩ (c_L_size l D (v - (M (2 : Int))) (by omega)) gkL_thoughts_L_size rfl ⟨rfl, rfl⟩ 1 rfl (by decide +kernel) ⟨Nat.le_of_ble_eq_true rfl, Nat.le_of_ble_eq_true rfl⟩ kGT_ok trivial (fun k q h => by simp at h) hl.1 rfl (Nat.le_of_ble_eq_true rfl) ⟨Nat.le_of_ble_eq_true rfl, Nat.le_of_ble_eq_true rfl⟩ dL_thoughts_106 (fun r_12 hr_12 => ?_)
        have hr_12 : r_12 = absI (v - (M (2 : Int))) := hr_12
        subst hr_12
        have habs12 := absI_spec (v - (M (2 : Int)))
        refine k_iconst hx hb dL_thoughts_109 ?_
        refine k_icmp_le (tgt := 115) hx hb dL_thoughts_110 (by decide) (by omega) (by omega) (fun c_13 => ?_) (fun c_13 => ?_)
        · skip
          refine lv_aload_n hx hb dL_thoughts_115 rfl (lv_at hl 4 rfl) ?_
          refine k_iconst hx hb dL_thoughts_116 ?_
          refine q_call0 (As := [.int (iI 4)]) (rest := []) ⟨hx, hb, hml, hown, hts⟩ hGX hA (ck_ans (k_whole l D cy o M n K 4 (show 0 ≤ (4 : Int) ∧ (4 : Int) ≤ 10 from by omega)) (show whW M (4 : Int) = pcost M from wh_4 M)) gkL_thoughts_L_whole rfl ⟨rfl, rfl⟩ 2 rfl (by decide +kernel) ⟨Nat.le_of_ble_eq_true rfl, Nat.le_of_ble_eq_true rfl⟩ hW hl.1 rfl (Nat.le_of_ble_eq_true rfl) ⟨Nat.le_of_ble_eq_true rfl, Nat.le_of_ble_eq_true rfl⟩ dL_thoughts_117 (fun r_14 M_14 n_14 K_14 H locs hp hW => ?_)
          obtain ⟨rfl, rfl, rfl, rfl⟩ := hp
          refine lv_istore (lv' := [(7, .int (iI (pcost M))), (6, .int (iI (1000 * (u + 100) + v + 100))), (5, .int (iI (1000 * (M 1 + 100) + M 2 + 100))), (4, .int (iI (bzF M))), (2, .long (lI (dgH M n 0 0))), (0, .ref o), (1, .int (iI x9))]) hx hb dL_thoughts_120 hl (by decide) rfl (fun ls hl => ?_)
          refine lv_aload_n hx hb dL_thoughts_122 rfl (lv_at hl 5 rfl) ?_
          refine k_iconst hx hb dL_thoughts_123 ?_
          refine q_call0 (As := [.int (iI 1)]) (rest := []) ⟨hx, hb, hml, hown, hts⟩ hGX hA (k_setting l D cy o M n K 1 (show 0 ≤ (1 : Int) ∧ (1 : Int) ≤ 9 from by omega)) gkL_thoughts_L_setting rfl ⟨rfl, rfl⟩ 2 rfl (by decide +kernel) ⟨Nat.le_of_ble_eq_true rfl, Nat.le_of_ble_eq_true rfl⟩ hW hl.1 rfl (Nat.le_of_ble_eq_true rfl) ⟨Nat.le_of_ble_eq_true rfl, Nat.le_of_ble_eq_true rfl⟩ dL_thoughts_124 (fun r_15 M_15 n_15 K_15 H locs hp hW => ?_)
          obtain ⟨rfl, rfl, rfl, rfl⟩ := hp
          refine lv_istore (lv' := [(8, .int (iI (M (1 : Int)))), (7, .int (iI (pcost M))), (6, .int (iI (1000 * (u + 100) + v + 100))), (5, .int (iI (1000 * (M 1 + 100) + M 2 + 100))), (4, .int (iI (bzF M))), (2, .long (lI (dgH M n 0 0))), (0, .ref o), (1, .int (iI x9))]) hx hb dL_thoughts_127 hl (by decide) rfl (fun ls hl => ?_)
          refine lv_aload_n hx hb dL_thoughts_129 rfl (lv_at hl 6 rfl) ?_
          refine k_iconst hx hb dL_thoughts_130 ?_
          refine q_call0 (As := [.int (iI 2)]) (rest := []) ⟨hx, hb, hml, hown, hts⟩ hGX hA (k_setting l D cy o M n K 2 (show 0 ≤ (2 : Int) ∧ (2 : Int) ≤ 9 from by omega)) gkL_thoughts_L_setting rfl ⟨rfl, rfl⟩ 2 rfl (by decide +kernel) ⟨Nat.le_of_ble_eq_true rfl, Nat.le_of_ble_eq_true rfl⟩ hW hl.1 rfl (Nat.le_of_ble_eq_true rfl) ⟨Nat.le_of_ble_eq_true rfl, Nat.le_of_ble_eq_true rfl⟩ dL_thoughts_131 (fun r_16 M_16 n_16 K_16 H locs hp hW => ?_)
          obtain ⟨rfl, rfl, rfl, rfl⟩ := hp
          refine lv_istore (lv' := [(9, .int (iI (M (2 : Int)))), (8, .int (iI (M (1 : Int)))), (7, .int (iI (pcost M))), (6, .int (iI (1000 * (u + 100) + v + 100))), (5, .int (iI (1000 * (M 1 + 100) + M 2 + 100))), (4, .int (iI (bzF M))), (2, .long (lI (dgH M n 0 0))), (0, .ref o), (1, .int (iI x9))]) hx hb dL_thoughts_134 hl (by decide) rfl (fun ls hl => ?_)
          refine lv_aload_n hx hb dL_thoughts_136 rfl (lv_at hl 7 rfl) ?_
          refine k_iconst hx hb dL_thoughts_137 ?_
          refine lv_iload hx hb dL_thoughts_138 (lv_at hl 3 rfl) ?_
          refine k_sipush hx hb dL_thoughts_140 (by decide +kernel) ?_
          refine k_idiv hx hb dL_thoughts_143 (by omega) (by omega) ?_
          refine k_bipush hx hb dL_thoughts_144 (by decide +kernel) ?_
          refine k_isub hx hb dL_thoughts_146 ?_
          refine k_eqI (v := ((1000 * (u + 100) + v + 100) / 1000) - 100) (w := u) (by omega) ?_
          refine q_call0 (As := [.int (iI 1), .int (iI u)]) (rest := []) ⟨hx, hb, hml, hown, hts⟩ hGX hA (k_set l D cy o M n K 1 u (show -2147483648 ≤ (1 : Int) ∧ (1 : Int) ≤ 2147483647 from by omega) (show -2147483648 ≤ u ∧ u ≤ 2147483647 from by omega) (show setOK (1 : Int) u from ⟨by decide, show -100 ≤ u by omega, show u ≤ 100 by omega⟩)) gkL_thoughts_L_set rfl ⟨rfl, rfl⟩ 3 rfl (by decide +kernel) ⟨Nat.le_of_ble_eq_true rfl, Nat.le_of_ble_eq_true rfl⟩ hW hl.1 rfl (Nat.le_of_ble_eq_true rfl) ⟨Nat.le_of_ble_eq_true rfl, Nat.le_of_ble_eq_true rfl⟩ dL_thoughts_147 (fun r_17 M_17 n_17 K_17 H locs hp hW => ?_)
          obtain ⟨rfl, hM17, rfl, rfl⟩ := hp
          have hkp17 := kp_spec n
          have hI17 := hW.inv
          have hMa := hM17
          have hIa := hI17
          have hq2 : M_17 2 = M 2 := by rw [← hMa]; exact ups_ne M u (by decide)
          refine lv_iload hx hb dL_thoughts_150 (lv_at hl 1 rfl) ?_
          refine k_icmp_ne (tgt := 198) hx hb dL_thoughts_152 (by decide) (by omega) (by omega) (fun c_18 => ?_) (fun c_18 => ?_)
          · exfalso; omega
          · skip
            refine lv_aload_n hx hb dL_thoughts_155 rfl (lv_at hl 7 rfl) ?_
            refine k_iconst hx hb dL_thoughts_156 ?_
            refine lv_iload hx hb dL_thoughts_157 (lv_at hl 3 rfl) ?_
            refine k_sipush hx hb dL_thoughts_159 (by decide +kernel) ?_
            refine k_irem hx hb dL_thoughts_162 (by omega) (by omega) ?_
            refine k_bipush hx hb dL_thoughts_163 (by decide +kernel) ?_
            refine k_isub hx hb dL_thoughts_165 ?_
            refine k_eqI (v := ((1000 * (u + 100) + v + 100) % 1000) - 100) (w := v) (by omega) ?_
            refine q_call0 (As := [.int (iI 2), .int (iI v)]) (rest := []) ⟨hx, hb, hml, hown, hts⟩ hGX hA (ck_ans (k_set l D cy o M_17 (kpN n) (csF M K) 2 v (show -2147483648 ≤ (2 : Int) ∧ (2 : Int) ≤ 2147483647 from by omega) (show -2147483648 ≤ v ∧ v ≤ 2147483647 from by omega) (show setOK (2 : Int) v from ⟨by decide, show -100 ≤ v by omega, show v ≤ 100 by omega⟩)) (show M_17 (2 : Int) = M 2 from hq2)) gkL_thoughts_L_set rfl ⟨rfl, rfl⟩ 3 rfl (by decide +kernel) ⟨Nat.le_of_ble_eq_true rfl, Nat.le_of_ble_eq_true rfl⟩ hW hl.1 rfl (Nat.le_of_ble_eq_true rfl) ⟨Nat.le_of_ble_eq_true rfl, Nat.le_of_ble_eq_true rfl⟩ dL_thoughts_166 (fun r_19 M_19 n_19 K_19 H locs hp hW => ?_)
            obtain ⟨rfl, hM19, rfl, rfl⟩ := hp
            have hkp19 := kp_spec (kpN n)
            have hI19 := hW.inv
            have hMb := hM19
            have hIb := hI19
            have hq3 : pcost M_19 ≤ pcost M := by rw [← hMb, ← hMa]; exact hbd3
            have hq4 := inv_pcost hIb
            refine lv_iload hx hb dL_thoughts_169 (lv_at hl 0 rfl) ?_
            refine k_icmp_ne (tgt := 198) hx hb dL_thoughts_171 (by decide) (by omega) (by omega) (fun c_20 => ?_) (fun c_20 => ?_)
            · exfalso; omega
            · skip
              refine lv_aload_n hx hb dL_thoughts_174 rfl (lv_at hl 7 rfl) ?_
              refine k_iconst hx hb dL_thoughts_175 ?_
              refine q_call0 (As := [.int (iI 4)]) (rest := []) ⟨hx, hb, hml, hown, hts⟩ hGX hA (ck_ans (k_whole l D cy o M_19 (kpN (kpN n)) (csF M_17 (csF M K)) 4 (show 0 ≤ (4 : Int) ∧ (4 : Int) ≤ 10 from by omega)) (show whW M_19 (4 : Int) = pcost M_19 from wh_4 M_19)) gkL_thoughts_L_whole rfl ⟨rfl, rfl⟩ 2 rfl (by decide +kernel) ⟨Nat.le_of_ble_eq_true rfl, Nat.le_of_ble_eq_true rfl⟩ hW hl.1 rfl (Nat.le_of_ble_eq_true rfl) ⟨Nat.le_of_ble_eq_true rfl, Nat.le_of_ble_eq_true rfl⟩ dL_thoughts_176 (fun r_21 M_21 n_21 K_21 H locs hp hW => ?_)
              obtain ⟨rfl, rfl, rfl, rfl⟩ := hp
              refine lv_iload hx hb dL_thoughts_179 (lv_at hl 2 rfl) ?_
              refine k_icmp_gt (tgt := 198) hx hb dL_thoughts_181 (by decide) (by omega) (by omega) (fun c_22 => ?_) (fun c_22 => ?_)
              · exfalso; omega
              · skip
                refine lv_aload_n hx hb dL_thoughts_184 rfl (lv_at hl 7 rfl) ?_
                refine q_call0 (As := []) (rest := []) ⟨hx, hb, hml, hown, hts⟩ hGX hA (k_undo l D cy o M_19 (kpN (kpN n)) (csF M_17 (csF M K)) (show 0 < (kpN (kpN n)) from by omega)) gkL_thoughts_L_undo rfl ⟨rfl, rfl⟩ 1 rfl (by decide +kernel) ⟨Nat.le_of_ble_eq_true rfl, Nat.le_of_ble_eq_true rfl⟩ hW hl.1 rfl (Nat.le_of_ble_eq_true rfl) ⟨Nat.le_of_ble_eq_true rfl, Nat.le_of_ble_eq_true rfl⟩ dL_thoughts_185 (fun r_23 M_23 n_23 K_23 H locs hp hW => ?_)
                obtain ⟨rfl, hM23, rfl, hK23⟩ := hp
                have hM23 : M_17 = M_23 := hM23
                subst hM23
                have hK23 : (csF M K) = K_23 := hK23
                subst hK23
                refine k_if_lt (tgt := 198) hx hb dL_thoughts_188 (by decide) (by omega) (fun c_24 => ?_) (fun c_24 => ?_)
                · exfalso; omega
                · skip
                  refine lv_aload_n hx hb dL_thoughts_191 rfl (lv_at hl 7 rfl) ?_
                  refine q_call0 (As := []) (rest := []) ⟨hx, hb, hml, hown, hts⟩ hGX hA (k_undo l D cy o M_17 ((kpN (kpN n)) - 1) (csF M K) (show 0 < ((kpN (kpN n)) - 1) from by omega)) gkL_thoughts_L_undo rfl ⟨rfl, rfl⟩ 1 rfl (by decide +kernel) ⟨Nat.le_of_ble_eq_true rfl, Nat.le_of_ble_eq_true rfl⟩ hW hl.1 rfl (Nat.le_of_ble_eq_true rfl) ⟨Nat.le_of_ble_eq_true rfl, Nat.le_of_ble_eq_true rfl⟩ dL_thoughts_192 (fun r_25 M_25 n_25 K_25 H locs hp hW => ?_)
                  obtain ⟨rfl, hM25, rfl, hK25⟩ := hp
                  have hM25 : M = M_25 := hM25
                  subst hM25
                  have hK25 : K = K_25 := hK25
                  subst hK25
                  refine k_if_ge (tgt := 200) hx hb dL_thoughts_195 (by decide) (by omega) (fun c_26 => ?_) (fun c_26 => ?_)
                  · skip
                    refine lv_iload hx hb dL_thoughts_200 (lv_at hl 5 rfl) ?_
                    refine k_ldc (z := (-1000000000)) hx hb hown hmw0 (by decide +kernel) dL_thoughts_202 ?_
                    refine k_icmp_ne (tgt := 230) hx hb dL_thoughts_204 (by decide) (by omega) (by omega) (fun c_27 => ?_) (fun c_27 => ?_)
                    · skip
                      obtain ⟨hbz1, hbz2, t0, s0, ht0, hs0, hpp0, hzf⟩ : bzF M ≠ -1000000000 ∧ (0 ≤ bzF M ∧ bzF M ≤ 359999) ∧ ∃ t u : Int, (0 ≤ t ∧ t < M 12) ∧ (0 ≤ u ∧ u < M 13) ∧ 0 < pts M t ∧ bzF M = zfor M t u := hbz.resolve_left (fun h => c_27 h.1)
                      refine lv_aload_n hx hb dL_thoughts_230 rfl (lv_at hl 7 rfl) ?_
                      refine k_bipush hx hb dL_thoughts_231 (by decide +kernel) ?_
                      refine q_call0 (As := [.int (iI 8)]) (rest := []) ⟨hx, hb, hml, hown, hts⟩ hGX hA (k_setting l D cy o M (((kpN (kpN n)) - 1) - 1) K 8 (show 0 ≤ (8 : Int) ∧ (8 : Int) ≤ 9 from by omega)) gkL_thoughts_L_setting rfl ⟨rfl, rfl⟩ 2 rfl (by decide +kernel) ⟨Nat.le_of_ble_eq_true rfl, Nat.le_of_ble_eq_true rfl⟩ hW hl.1 rfl (Nat.le_of_ble_eq_true rfl) ⟨Nat.le_of_ble_eq_true rfl, Nat.le_of_ble_eq_true rfl⟩ dL_thoughts_233 (fun r_28 M_28 n_28 K_28 H locs hp hW => ?_)
                      obtain ⟨rfl, rfl, rfl, rfl⟩ := hp
                      refine lv_istore (lv' := [(10, .int (iI (M (8 : Int)))), (9, .int (iI (M (2 : Int)))), (8, .int (iI (M (1 : Int)))), (7, .int (iI (pcost M))), (6, .int (iI (1000 * (u + 100) + v + 100))), (5, .int (iI (1000 * (M 1 + 100) + M 2 + 100))), (4, .int (iI (bzF M))), (2, .long (lI (dgH M n 0 0))), (0, .ref o), (1, .int (iI x9))]) hx hb dL_thoughts_236 hl (by decide) rfl (fun ls hl => ?_)
                      refine lv_aload_n hx hb dL_thoughts_238 rfl (lv_at hl 8 rfl) ?_
                      refine k_bipush hx hb dL_thoughts_239 (by decide +kernel) ?_
                      refine lv_iload hx hb dL_thoughts_241 (lv_at hl 6 rfl) ?_
                      refine q_call0 (As := [.int (iI 8), .int (iI (bzF M))]) (rest := []) ⟨hx, hb, hml, hown, hts⟩ hGX hA (k_set l D cy o M (((kpN (kpN n)) - 1) - 1) K 8 (bzF M) (show -2147483648 ≤ (8 : Int) ∧ (8 : Int) ≤ 2147483647 from by omega) (show -2147483648 ≤ (bzF M) ∧ (bzF M) ≤ 2147483647 from by omega) (show setOK (8 : Int) (bzF M) from ⟨by decide, show 0 ≤ bzF M by omega, show bzF M ≤ 359999 by omega⟩)) gkL_thoughts_L_set rfl ⟨rfl, rfl⟩ 3 rfl (by decide +kernel) ⟨Nat.le_of_ble_eq_true rfl, Nat.le_of_ble_eq_true rfl⟩ hW hl.1 rfl (Nat.le_of_ble_eq_true rfl) ⟨Nat.le_of_ble_eq_true rfl, Nat.le_of_ble_eq_true rfl⟩ dL_thoughts_243 (fun r_29 M_29 n_29 K_29 H locs hp hW => ?_)
                      obtain ⟨rfl, hM29, rfl, rfl⟩ := hp
                      have hkp29 := kp_spec (((kpN (kpN n)) - 1) - 1)
                      have hI29 := hW.inv
                      have hMc := hM29
                      have hIc := hI29
                      have hSc := inv_S12 hIc
                      have hc12 : M_29 12 = M 12 := by rw [← hMc]; exact u8_ne M _ (by decide)
                      have hc13 : M_29 13 = M 13 := by rw [← hMc]; exact u8_ne M _ (by decide)
                      have hcp : 0 < pts M_29 t0 := by rw [← hMc, u8_pts M _ _ ht0.1]; exact hpp0
                      have hmeet : stAng M_29 (M_29 8) s0 (frm M_29 t0 0) = angOf M_29 t0 0 := by rw [← hMc, hzf]; exact zfor_meets ht0.1 hs0.1
                      have hbzc : bzF M_29 = bzF M := by rw [← hMc]; exact bzF_u8 hI _
                      refine lv_iload hx hb dL_thoughts_246 (lv_at hl 0 rfl) ?_
                      refine k_icmp_eq (tgt := 253) hx hb dL_thoughts_248 (by decide) (by omega) (by omega) (fun c_30 => ?_) (fun c_30 => ?_)
                      · skip
                        refine k_iconst hx hb dL_thoughts_253 ?_
                        refine lv_istore (lv' := [(11, .int (iI 0)), (10, .int (iI (M (8 : Int)))), (9, .int (iI (M (2 : Int)))), (8, .int (iI (M (1 : Int)))), (7, .int (iI (pcost M))), (6, .int (iI (1000 * (u + 100) + v + 100))), (5, .int (iI (1000 * (M 1 + 100) + M 2 + 100))), (4, .int (iI (bzF M))), (2, .long (lI (dgH M n 0 0))), (0, .ref o), (1, .int (iI x9))]) hx hb dL_thoughts_254 hl (by decide) rfl (fun ls hl => ?_)
                        refine k_iconst hx hb dL_thoughts_256 ?_
                        refine lv_istore (lv' := [(12, .int (iI 0)), (11, .int (iI 0)), (10, .int (iI (M (8 : Int)))), (9, .int (iI (M (2 : Int)))), (8, .int (iI (M (1 : Int)))), (7, .int (iI (pcost M))), (6, .int (iI (1000 * (u + 100) + v + 100))), (5, .int (iI (1000 * (M 1 + 100) + M 2 + 100))), (4, .int (iI (bzF M))), (2, .long (lI (dgH M n 0 0))), (0, .ref o), (1, .int (iI x9))]) hx hb dL_thoughts_257 hl (by decide) rfl (fun ls hl => ?_)
                        have loop259 : ∀ (j_31 : Nat) (t : Int) (w9 : Int) (hi0 : 0 ≤ t) (hi1 : t ≤ M_29 12) (hi2 : 0 ≤ w9 ∧ w9 ≤ 1) (hi3 : t0 < t → w9 = 1) (hn259 : M_29 12 - t < (j_31 : Int)) (H : Heap) (locs : List Loc) (hW : OW D cy A0 s.heap o M_29 (kpN (((kpN (kpN n)) - 1) - 1)) (csF M K) H locs) (ls : Array Slot) (hl : lv_has ls 14 [(12, .int (iI t)), (11, .int (iI w9)), (10, .int (iI (M (8 : Int)))), (9, .int (iI (M (2 : Int)))), (8, .int (iI (M (1 : Int)))), (7, .int (iI (pcost M))), (6, .int (iI (1000 * (u + 100) + v + 100))), (5, .int (iI (1000 * (M 1 + 100) + M 2 + 100))), (4, .int (iI (bzF M))), (2, .long (lI (dgH M n 0 0))), (0, .ref o), (1, .int (iI x9))]), W p l e { frames := 8, cells := 0, slots := 0, locals := 201 } s m ([.ref o, .int (iI x9)] : List Value).toArray below meth c H locs 0 0 Q (F0 m 259 ls []) := by
                          intro j_31
                          induction j_31 with
                          | zero => intro t w9 hi0 hi1 hi2 hi3 hn259 H locs hW ls hl; exfalso; omega
                          | succ j_31 ih259 =>
                            intro t w9 hi0 hi1 hi2 hi3 hn259 H locs hW ls hl
                            refine lv_iload hx hb dL_thoughts_259 (lv_at hl 0 rfl) ?_
                            refine lv_aload_n hx hb dL_thoughts_261 rfl (lv_at hl 10 rfl) ?_
                            refine k_iconst hx hb dL_thoughts_262 ?_
                            refine q_call0 (As := [.int (iI 0)]) (rest := [.int (iI t)]) ⟨hx, hb, hml, hown, hts⟩ hGX hA (ck_ans (k_whole l D cy o M_29 (kpN (((kpN (kpN n)) - 1) - 1)) (csF M K) 0 (show 0 ≤ (0 : Int) ∧ (0 : Int) ≤ 10 from by omega)) (show whW M_29 (0 : Int) = M_29 12 from wh_0 M_29)) gkL_thoughts_L_whole rfl ⟨rfl, rfl⟩ 2 rfl (by decide +kernel) ⟨Nat.le_of_ble_eq_true rfl, Nat.le_of_ble_eq_true rfl⟩ hW hl.1 rfl (Nat.le_of_ble_eq_true rfl) ⟨Nat.le_of_ble_eq_true rfl, Nat.le_of_ble_eq_true rfl⟩ dL_thoughts_263 (fun r_32 M_32 n_32 K_32 H locs hp hW => ?_)
                            obtain ⟨rfl, rfl, rfl, rfl⟩ := hp
                            refine k_icmp_ge (tgt := 342) hx hb dL_thoughts_266 (by decide) (by omega) (by omega) (fun c_33 => ?_) (fun c_33 => ?_)
                            · skip
                              refine lv_iload hx hb dL_thoughts_342 (lv_at hl 1 rfl) ?_
                              refine k_if_eq (tgt := 378) hx hb dL_thoughts_344 (by decide) (by omega) (fun c_34 => ?_) (fun c_34 => ?_)
                              · exfalso; omega
                              · skip
                                refine lv_aload_n hx hb dL_thoughts_347 rfl (lv_at hl 10 rfl) ?_
                                refine qv_bestZero ⟨hx, hb, hml, hown, hts⟩ hGX hA gkL_thoughts_X6_bestZero ⟨Nat.le_of_ble_eq_true rfl, Nat.le_of_ble_eq_true rfl⟩ hW hl.1 (Nat.le_of_ble_eq_true rfl) ⟨Nat.le_of_ble_eq_true rfl, Nat.le_of_ble_eq_true rfl⟩ dL_thoughts_348 (fun H locs hW => ?_)
                                refine k_eqI (v := bzF M_29) (w := bzF M) (hbzc) ?_
                                refine lv_iload hx hb dL_thoughts_351 (lv_at hl 8 rfl) ?_
                                refine k_icmp_ne (tgt := 378) hx hb dL_thoughts_353 (by decide) (by omega) (by omega) (fun c_35 => ?_) (fun c_35 => ?_)
                                · exfalso; omega
                                · skip
                                  refine lv_aload_n hx hb dL_thoughts_356 rfl (lv_at hl 10 rfl) ?_
                                  refine q_call0 (As := []) (rest := []) ⟨hx, hb, hml, hown, hts⟩ hGX hA (k_undo l D cy o M_29 (kpN (((kpN (kpN n)) - 1) - 1)) (csF M K) (show 0 < (kpN (((kpN (kpN n)) - 1) - 1)) from by omega)) gkL_thoughts_L_undo rfl ⟨rfl, rfl⟩ 1 rfl (by decide +kernel) ⟨Nat.le_of_ble_eq_true rfl, Nat.le_of_ble_eq_true rfl⟩ hW hl.1 rfl (Nat.le_of_ble_eq_true rfl) ⟨Nat.le_of_ble_eq_true rfl, Nat.le_of_ble_eq_true rfl⟩ dL_thoughts_357 (fun r_36 M_36 n_36 K_36 H locs hp hW => ?_)
                                  obtain ⟨rfl, hM36, rfl, hK36⟩ := hp
                                  have hM36 : M = M_36 := hM36
                                  subst hM36
                                  have hK36 : K = K_36 := hK36
                                  subst hK36
                                  refine k_if_lt (tgt := 378) hx hb dL_thoughts_360 (by decide) (by omega) (fun c_37 => ?_) (fun c_37 => ?_)
                                  · exfalso; omega
                                  · skip
                                    refine lv_aload_n hx hb dL_thoughts_363 rfl (lv_at hl 10 rfl) ?_
                                    refine k_bipush hx hb dL_thoughts_364 (by decide +kernel) ?_
                                    refine q_call0 (As := [.int (iI 8)]) (rest := []) ⟨hx, hb, hml, hown, hts⟩ hGX hA (k_setting l D cy o M ((kpN (((kpN (kpN n)) - 1) - 1)) - 1) K 8 (show 0 ≤ (8 : Int) ∧ (8 : Int) ≤ 9 from by omega)) gkL_thoughts_L_setting rfl ⟨rfl, rfl⟩ 2 rfl (by decide +kernel) ⟨Nat.le_of_ble_eq_true rfl, Nat.le_of_ble_eq_true rfl⟩ hW hl.1 rfl (Nat.le_of_ble_eq_true rfl) ⟨Nat.le_of_ble_eq_true rfl, Nat.le_of_ble_eq_true rfl⟩ dL_thoughts_366 (fun r_38 M_38 n_38 K_38 H locs hp hW => ?_)
                                    obtain ⟨rfl, rfl, rfl, rfl⟩ := hp
                                    refine lv_iload hx hb dL_thoughts_369 (lv_at hl 2 rfl) ?_
                                    refine k_icmp_ne (tgt := 378) hx hb dL_thoughts_371 (by decide) (by omega) (by omega) (fun c_39 => ?_) (fun c_39 => ?_)
                                    · exfalso; omega
                                    · skip
                                      refine k_iconst hx hb dL_thoughts_374 ?_
                                      refine lv_goto (tgt := 379) hx hb dL_thoughts_375 (by decide) ?_
                                      exact hret 1 _ _ _ H locs _ _ 379 ls (⟨rfl, rfl⟩) hW ⟨Nat.le_of_ble_eq_true rfl, Nat.le_of_ble_eq_true rfl⟩ (Or.inr ⟨rfl, Or.inr rfl⟩) dL_thoughts_379
                            · skip
                              refine k_iconst hx hb dL_thoughts_269 ?_
                              refine lv_istore (lv' := [(13, .int (iI 0)), (12, .int (iI t)), (11, .int (iI w9)), (10, .int (iI (M (8 : Int)))), (9, .int (iI (M (2 : Int)))), (8, .int (iI (M (1 : Int)))), (7, .int (iI (pcost M))), (6, .int (iI (1000 * (u + 100) + v + 100))), (5, .int (iI (1000 * (M 1 + 100) + M 2 + 100))), (4, .int (iI (bzF M))), (2, .long (lI (dgH M n 0 0))), (0, .ref o), (1, .int (iI x9))]) hx hb dL_thoughts_270 hl (by decide) rfl (fun ls hl => ?_)
                              have loop272 : ∀ (j_40 : Nat) (k9 : Int) (w8 : Int) (hj0 : 0 ≤ k9) (hj1 : k9 ≤ M_29 13) (hj2 : 0 ≤ w8 ∧ w8 ≤ 1) (hj3 : (t0 < t ∨ (t0 = t ∧ s0 < k9)) → w8 = 1) (hn272 : M_29 13 - k9 < (j_40 : Int)) (H : Heap) (locs : List Loc) (hW : OW D cy A0 s.heap o M_29 (kpN (((kpN (kpN n)) - 1) - 1)) (csF M K) H locs) (ls : Array Slot) (hl : lv_has ls 14 [(13, .int (iI k9)), (12, .int (iI t)), (11, .int (iI w8)), (10, .int (iI (M (8 : Int)))), (9, .int (iI (M (2 : Int)))), (8, .int (iI (M (1 : Int)))), (7, .int (iI (pcost M))), (6, .int (iI (1000 * (u + 100) + v + 100))), (5, .int (iI (1000 * (M 1 + 100) + M 2 + 100))), (4, .int (iI (bzF M))), (2, .long (lI (dgH M n 0 0))), (0, .ref o), (1, .int (iI x9))]), W p l e { frames := 8, cells := 0, slots := 0, locals := 201 } s m ([.ref o, .int (iI x9)] : List Value).toArray below meth c H locs 0 0 Q (F0 m 272 ls []) := by
                                intro j_40
                                induction j_40 with
                                | zero => intro k9 w8 hj0 hj1 hj2 hj3 hn272 H locs hW ls hl; exfalso; omega
                                | succ j_40 ih272 =>
                                  intro k9 w8 hj0 hj1 hj2 hj3 hn272 H locs hW ls hl
                                  refine lv_iload hx hb dL_thoughts_272 (lv_at hl 0 rfl) ?_
                                  refine lv_aload_n hx hb dL_thoughts_274 rfl (lv_at hl 11 rfl) ?_
                                  refine k_iconst hx hb dL_thoughts_275 ?_
                                  refine q_call0 (As := [.int (iI 1)]) (rest := [.int (iI k9)]) ⟨hx, hb, hml, hown, hts⟩ hGX hA (ck_ans (k_whole l D cy o M_29 (kpN (((kpN (kpN n)) - 1) - 1)) (csF M K) 1 (show 0 ≤ (1 : Int) ∧ (1 : Int) ≤ 10 from by omega)) (show whW M_29 (1 : Int) = M_29 13 from wh_1 M_29)) gkL_thoughts_L_whole rfl ⟨rfl, rfl⟩ 2 rfl (by decide +kernel) ⟨Nat.le_of_ble_eq_true rfl, Nat.le_of_ble_eq_true rfl⟩ hW hl.1 rfl (Nat.le_of_ble_eq_true rfl) ⟨Nat.le_of_ble_eq_true rfl, Nat.le_of_ble_eq_true rfl⟩ dL_thoughts_276 (fun r_41 M_41 n_41 K_41 H locs hp hW => ?_)
                                  obtain ⟨rfl, rfl, rfl, rfl⟩ := hp
                                  refine k_icmp_ge (tgt := 336) hx hb dL_thoughts_279 (by decide) (by omega) (by omega) (fun c_42 => ?_) (fun c_42 => ?_)
                                  · skip
                                    refine lv_iinc (v := iI (t + 1)) (lv' := [(12, .int (iI (t + 1))), (13, .int (iI k9)), (11, .int (iI w8)), (10, .int (iI (M (8 : Int)))), (9, .int (iI (M (2 : Int)))), (8, .int (iI (M (1 : Int)))), (7, .int (iI (pcost M))), (6, .int (iI (1000 * (u + 100) + v + 100))), (5, .int (iI (1000 * (M 1 + 100) + M 2 + 100))), (4, .int (iI (bzF M))), (2, .long (lI (dgH M n 0 0))), (0, .ref o), (1, .int (iI x9))]) hx hb dL_thoughts_336 hl (k := 1) rfl (iI_add _ _) (by decide) rfl (fun ls hl => ?_)
                                    refine lv_goto (tgt := 259) hx hb dL_thoughts_339 (by decide) ?_
                                    exact ih259 (t + 1) w8  (by omega) (by omega) (by omega) (by omega) (by omega) H locs hW ls (lv_sub hl [0, 2, 3, 4, 5, 6, 7, 8, 9, 10, 11, 12] rfl)
                                  · skip
                                    refine lv_aload_n hx hb dL_thoughts_282 rfl (lv_at hl 11 rfl) ?_
                                    refine lv_iload hx hb dL_thoughts_283 (lv_at hl 1 rfl) ?_
                                    refine k_iconst hx hb dL_thoughts_285 ?_
                                    refine q_call0 (As := [.int (iI t), .int (iI 0)]) (rest := []) ⟨hx, hb, hml, hown, hts⟩ hGX hA (ck_ans (k_trail l D cy o M_29 (kpN (((kpN (kpN n)) - 1) - 1)) (csF M K) t 0 (show 0 ≤ t from by omega) (show t < M_29 12 from by omega) (show 0 ≤ (0 : Int) ∧ (0 : Int) ≤ 8 from by omega)) (show trV M_29 (mat M_29 (M_29 8)).1 t (0 : Int) = pts M_29 t from tr_0 M_29 _ t)) gkL_thoughts_L_trail rfl ⟨rfl, rfl⟩ 3 rfl (by decide +kernel) ⟨Nat.le_of_ble_eq_true rfl, Nat.le_of_ble_eq_true rfl⟩ hW hl.1 rfl (Nat.le_of_ble_eq_true rfl) ⟨Nat.le_of_ble_eq_true rfl, Nat.le_of_ble_eq_true rfl⟩ dL_thoughts_286 (fun r_43 M_43 n_43 K_43 H locs hp hW => ?_)
                                    obtain ⟨rfl, rfl, rfl, rfl⟩ := hp
                                    have hpt := inv_pts hIc hi0 (show t < M_29 12 by omega)
                                    refine k_if_le (tgt := 336) hx hb dL_thoughts_289 (by decide) (by omega) (fun c_44 => ?_) (fun c_44 => ?_)
                                    · skip
                                      have htne : t0 ≠ t := fun h => by rw [← h] at c_44; omega
                                      refine lv_iinc (v := iI (t + 1)) (lv' := [(12, .int (iI (t + 1))), (13, .int (iI k9)), (11, .int (iI w8)), (10, .int (iI (M (8 : Int)))), (9, .int (iI (M (2 : Int)))), (8, .int (iI (M (1 : Int)))), (7, .int (iI (pcost M))), (6, .int (iI (1000 * (u + 100) + v + 100))), (5, .int (iI (1000 * (M 1 + 100) + M 2 + 100))), (4, .int (iI (bzF M))), (2, .long (lI (dgH M n 0 0))), (0, .ref o), (1, .int (iI x9))]) hx hb dL_thoughts_336 hl (k := 1) rfl (iI_add _ _) (by decide) rfl (fun ls hl => ?_)
                                      refine lv_goto (tgt := 259) hx hb dL_thoughts_339 (by decide) ?_
                                      exact ih259 (t + 1) w8  (by omega) (by omega) (by omega) (by omega) (by omega) H locs hW ls (lv_sub hl [0, 2, 3, 4, 5, 6, 7, 8, 9, 10, 11, 12] rfl)
                                    · skip
                                      have hfm := inv_frm hIc hi0 (by omega) (Int.le_refl 0) (by omega)
                                      have hsb := sta_bd M_29 (M_29 8) k9 (frm M_29 t 0)
                                      have hab := inv_ang (M := M_29) t 0
                                      refine lv_iload hx hb dL_thoughts_292 (lv_at hl 2 rfl) ?_
                                      have join328 : ∀ (z9 : Int) (ji0 : 0 ≤ z9 ∧ z9 ≤ 1) (ji1 : (t0 = t ∧ s0 = k9) → z9 = 1) (ji2 : w8 = 1 → z9 = 1) (H : Heap) (locs : List Loc) (hW : OW D cy A0 s.heap o M_29 (kpN (((kpN (kpN n)) - 1) - 1)) (csF M K) H locs) (ls : Array Slot) (hl : lv_has ls 14 [(13, .int (iI k9)), (12, .int (iI t)), (11, .int (iI w8)), (10, .int (iI (M (8 : Int)))), (9, .int (iI (M (2 : Int)))), (8, .int (iI (M (1 : Int)))), (7, .int (iI (pcost M))), (6, .int (iI (1000 * (u + 100) + v + 100))), (5, .int (iI (1000 * (M 1 + 100) + M 2 + 100))), (4, .int (iI (bzF M))), (2, .long (lI (dgH M n 0 0))), (0, .ref o), (1, .int (iI x9))]), W p l e { frames := 8, cells := 0, slots := 0, locals := 201 } s m ([.ref o, .int (iI x9)] : List Value).toArray below meth c H locs 0 0 Q (F0 m 328 ls [.int (iI z9)]) := by
                                        intro z9 ji0 ji1 ji2 H locs hW ls hl
                                        refine lv_istore (lv' := [(11, .int (iI z9)), (13, .int (iI k9)), (12, .int (iI t)), (10, .int (iI (M (8 : Int)))), (9, .int (iI (M (2 : Int)))), (8, .int (iI (M (1 : Int)))), (7, .int (iI (pcost M))), (6, .int (iI (1000 * (u + 100) + v + 100))), (5, .int (iI (1000 * (M 1 + 100) + M 2 + 100))), (4, .int (iI (bzF M))), (2, .long (lI (dgH M n 0 0))), (0, .ref o), (1, .int (iI x9))]) hx hb dL_thoughts_328 hl (by decide) rfl (fun ls hl => ?_)
                                        refine lv_iinc (v := iI (k9 + 1)) (lv' := [(13, .int (iI (k9 + 1))), (11, .int (iI z9)), (12, .int (iI t)), (10, .int (iI (M (8 : Int)))), (9, .int (iI (M (2 : Int)))), (8, .int (iI (M (1 : Int)))), (7, .int (iI (pcost M))), (6, .int (iI (1000 * (u + 100) + v + 100))), (5, .int (iI (1000 * (M 1 + 100) + M 2 + 100))), (4, .int (iI (bzF M))), (2, .long (lI (dgH M n 0 0))), (0, .ref o), (1, .int (iI x9))]) hx hb dL_thoughts_330 hl (k := 1) rfl (iI_add _ _) (by decide) rfl (fun ls hl => ?_)
                                        refine lv_goto (tgt := 272) hx hb dL_thoughts_333 (by decide) ?_
                                        exact ih272 (k9 + 1) z9  (by omega) (by omega) (by omega) (by omega) (by omega) H locs hW ls (lv_sub hl [0, 2, 1, 3, 4, 5, 6, 7, 8, 9, 10, 11, 12] rfl)
                                      refine k_if_ne (tgt := 323) hx hb dL_thoughts_294 (by decide) (by omega) (fun c_45 => ?_) (fun c_45 => ?_)
                                      · skip
                                        refine k_iconst hx hb dL_thoughts_323 ?_
                                        refine lv_goto (tgt := 328) hx hb dL_thoughts_324 (by decide) ?_
                                        exact join328 1 (by omega) (by omega) (by omega) H locs hW ls (lv_sub hl [0, 1, 2, 3, 4, 5, 6, 7, 8, 9, 10, 11, 12] rfl)
                                      · skip
                                        refine lv_aload_n hx hb dL_thoughts_297 rfl (lv_at hl 11 rfl) ?_
                                        refine lv_iload hx hb dL_thoughts_298 (lv_at hl 0 rfl) ?_
                                        refine lv_aload_n hx hb dL_thoughts_300 rfl (lv_at hl 11 rfl) ?_
                                        refine lv_iload hx hb dL_thoughts_301 (lv_at hl 1 rfl) ?_
                                        refine k_iconst hx hb dL_thoughts_303 ?_
                                        refine k_iconst hx hb dL_thoughts_304 ?_
                                        refine q_call0 (As := [.int (iI t), .int (iI 0), .int (iI 0)]) (rest := [.int (iI k9), .ref o]) ⟨hx, hb, hml, hown, hts⟩ hGX hA (ck_ans (k_point l D cy o M_29 (kpN (((kpN (kpN n)) - 1) - 1)) (csF M K) t 0 0 (show 0 ≤ t from by omega) (show t < M_29 12 from by omega) (show 0 ≤ (0 : Int) from by omega) (show (0 : Int) < pts M_29 t from by omega) (show 0 ≤ (0 : Int) ∧ (0 : Int) ≤ 6 from by omega)) (show ptV M_29 t (0 : Int) (0 : Int) = frm M_29 t 0 from pt_0 M_29 t 0)) gkL_thoughts_L_point rfl ⟨rfl, rfl⟩ 4 rfl (by decide +kernel) ⟨Nat.le_of_ble_eq_true rfl, Nat.le_of_ble_eq_true rfl⟩ hW hl.1 rfl (Nat.le_of_ble_eq_true rfl) ⟨Nat.le_of_ble_eq_true rfl, Nat.le_of_ble_eq_true rfl⟩ dL_thoughts_305 (fun r_46 M_46 n_46 K_46 H locs hp hW => ?_)
                                        obtain ⟨rfl, rfl, rfl, rfl⟩ := hp
                                        refine q_call0 (As := [.int (iI k9), .int (iI (frm M_29 t 0))]) (rest := []) ⟨hx, hb, hml, hown, hts⟩ hGX hA (k_starAngle l D cy o M_29 (kpN (((kpN (kpN n)) - 1) - 1)) (csF M K) k9 (frm M_29 t 0) (show 0 ≤ k9 from by omega) (show k9 < M_29 13 from by omega) (show 0 ≤ (frm M_29 t 0) ∧ (frm M_29 t 0) ≤ 1000 from hfm)) gkL_thoughts_L_starAngle rfl ⟨rfl, rfl⟩ 3 rfl (by decide +kernel) ⟨Nat.le_of_ble_eq_true rfl, Nat.le_of_ble_eq_true rfl⟩ hW hl.1 rfl (Nat.le_of_ble_eq_true rfl) ⟨Nat.le_of_ble_eq_true rfl, Nat.le_of_ble_eq_true rfl⟩ dL_thoughts_308 (fun r_47 M_47 n_47 K_47 H locs hp hW => ?_)
                                        obtain ⟨rfl, rfl, rfl, rfl⟩ := hp
                                        refine lv_aload_n hx hb dL_thoughts_311 rfl (lv_at hl 11 rfl) ?_
                                        refine lv_iload hx hb dL_thoughts_312 (lv_at hl 1 rfl) ?_
                                        refine k_iconst hx hb dL_thoughts_314 ?_
                                        refine k_bipush hx hb dL_thoughts_315 (by decide +kernel) ?_
                                        refine q_call0 (As := [.int (iI t), .int (iI 0), .int (iI 6)]) (rest := [.int (iI (stAng M_29 (M_29 8) k9 (frm M_29 t 0)))]) ⟨hx, hb, hml, hown, hts⟩ hGX hA (ck_ans (k_point l D cy o M_29 (kpN (((kpN (kpN n)) - 1) - 1)) (csF M K) t 0 6 (show 0 ≤ t from by omega) (show t < M_29 12 from by omega) (show 0 ≤ (0 : Int) from by omega) (show (0 : Int) < pts M_29 t from by omega) (show 0 ≤ (6 : Int) ∧ (6 : Int) ≤ 6 from by omega)) (show ptV M_29 t (0 : Int) (6 : Int) = angOf M_29 t 0 from pt_6 M_29 t 0)) gkL_thoughts_L_point rfl ⟨rfl, rfl⟩ 4 rfl (by decide +kernel) ⟨Nat.le_of_ble_eq_true rfl, Nat.le_of_ble_eq_true rfl⟩ hW hl.1 rfl (Nat.le_of_ble_eq_true rfl) ⟨Nat.le_of_ble_eq_true rfl, Nat.le_of_ble_eq_true rfl⟩ dL_thoughts_317 (fun r_48 M_48 n_48 K_48 H locs hp hW => ?_)
                                        obtain ⟨rfl, rfl, rfl, rfl⟩ := hp
                                        refine k_icmp_ne (tgt := 327) hx hb dL_thoughts_320 (by decide) (by omega) (by omega) (fun c_49 => ?_) (fun c_49 => ?_)
                                        · skip
                                          have htne : ¬ (t0 = t ∧ s0 = k9) := fun h => by have h1 := h.1; have h2 := h.2; subst h1; subst h2; exact c_49 hmeet
                                          refine k_iconst hx hb dL_thoughts_327 ?_
                                          exact join328 0 (by omega) (by omega) (by omega) H locs hW ls (lv_sub hl [0, 1, 2, 3, 4, 5, 6, 7, 8, 9, 10, 11, 12] rfl)
                                        · skip
                                          refine k_iconst hx hb dL_thoughts_323 ?_
                                          refine lv_goto (tgt := 328) hx hb dL_thoughts_324 (by decide) ?_
                                          exact join328 1 (by omega) (by omega) (by omega) H locs hW ls (lv_sub hl [0, 1, 2, 3, 4, 5, 6, 7, 8, 9, 10, 11, 12] rfl)
                              exact loop272 ((M_29 13 - 0 : Int) + 1).toNat 0 w9  (by omega) (by omega) (by omega) (by omega) (by omega) H locs hW ls (lv_sub hl [0, 1, 2, 3, 4, 5, 6, 7, 8, 9, 10, 11, 12] rfl)
                        exact loop259 ((M_29 12 - 0 : Int) + 1).toNat 0 0  (by omega) (by omega) (by omega) (by omega) (by omega) H locs hW ls (lv_sub hl [0, 1, 2, 3, 4, 5, 6, 7, 8, 9, 10, 11] rfl)
                      · exfalso; omega
                    · skip
                      have hb9 := hbz.resolve_right (fun h => h.1 (by omega))
                      refine lv_aload_n hx hb dL_thoughts_207 rfl (lv_at hl 7 rfl) ?_
                      refine k_iconst hx hb dL_thoughts_208 ?_
                      refine q_call0 (As := [.int (iI 1)]) (rest := []) ⟨hx, hb, hml, hown, hts⟩ hGX hA (ck_ans (k_whole l D cy o M (((kpN (kpN n)) - 1) - 1) K 1 (show 0 ≤ (1 : Int) ∧ (1 : Int) ≤ 10 from by omega)) (show whW M (1 : Int) = M 13 from wh_1 M)) gkL_thoughts_L_whole rfl ⟨rfl, rfl⟩ 2 rfl (by decide +kernel) ⟨Nat.le_of_ble_eq_true rfl, Nat.le_of_ble_eq_true rfl⟩ hW hl.1 rfl (Nat.le_of_ble_eq_true rfl) ⟨Nat.le_of_ble_eq_true rfl, Nat.le_of_ble_eq_true rfl⟩ dL_thoughts_209 (fun r_50 M_50 n_50 K_50 H locs hp hW => ?_)
                      obtain ⟨rfl, rfl, rfl, rfl⟩ := hp
                      have join224 : ∀  (H : Heap) (locs : List Loc) (hW : OW D cy A0 s.heap o M (((kpN (kpN n)) - 1) - 1) K H locs) (ls : Array Slot) (hl : lv_has ls 14 [(9, .int (iI (M (2 : Int)))), (8, .int (iI (M (1 : Int)))), (7, .int (iI (pcost M))), (6, .int (iI (1000 * (u + 100) + v + 100))), (5, .int (iI (1000 * (M 1 + 100) + M 2 + 100))), (4, .int (iI (bzF M))), (2, .long (lI (dgH M n 0 0))), (0, .ref o), (1, .int (iI x9))]), W p l e { frames := 8, cells := 0, slots := 0, locals := 201 } s m ([.ref o, .int (iI x9)] : List Value).toArray below meth c H locs 0 0 Q (F0 m 224 ls []) := by
                        intro H locs hW ls hl
                        refine k_iconst hx hb dL_thoughts_224 ?_
                        refine lv_goto (tgt := 229) hx hb dL_thoughts_225 (by decide) ?_
                        exact hret 1 _ _ _ H locs _ _ 229 ls (⟨rfl, rfl⟩) hW ⟨Nat.le_of_ble_eq_true rfl, Nat.le_of_ble_eq_true rfl⟩ (Or.inr ⟨rfl, Or.inr rfl⟩) dL_thoughts_229
                      refine k_if_eq (tgt := 224) hx hb dL_thoughts_212 (by decide) (by omega) (fun c_51 => ?_) (fun c_51 => ?_)
                      · skip
                        exact join224   H locs hW ls (lv_sub hl [0, 1, 2, 3, 4, 5, 6, 7, 8] rfl)
                      · skip
                        refine lv_aload_n hx hb dL_thoughts_215 rfl (lv_at hl 7 rfl) ?_
                        refine k_bipush hx hb dL_thoughts_216 (by decide +kernel) ?_
                        refine q_call0 (As := [.int (iI 9)]) (rest := []) ⟨hx, hb, hml, hown, hts⟩ hGX hA (ck_ans (k_whole l D cy o M (((kpN (kpN n)) - 1) - 1) K 9 (show 0 ≤ (9 : Int) ∧ (9 : Int) ≤ 10 from by omega)) (show whW M (9 : Int) = sumZ (pts M) (M 12) from wh_9 M)) gkL_thoughts_L_whole rfl ⟨rfl, rfl⟩ 2 rfl (by decide +kernel) ⟨Nat.le_of_ble_eq_true rfl, Nat.le_of_ble_eq_true rfl⟩ hW hl.1 rfl (Nat.le_of_ble_eq_true rfl) ⟨Nat.le_of_ble_eq_true rfl, Nat.le_of_ble_eq_true rfl⟩ dL_thoughts_218 (fun r_52 M_52 n_52 K_52 H locs hp hW => ?_)
                        obtain ⟨rfl, rfl, rfl, rfl⟩ := hp
                        refine k_if_ne (tgt := 228) hx hb dL_thoughts_221 (by decide) (by omega) (fun c_53 => ?_) (fun c_53 => ?_)
                        · exfalso; omega
                        · skip
                          exact join224   H locs hW ls (lv_sub hl [0, 1, 2, 3, 4, 5, 6, 7, 8] rfl)
                  · exfalso; omega
        · exfalso; omega
