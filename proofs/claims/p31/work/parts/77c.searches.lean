/-! the law's check of searches -/
set_option maxHeartbeats 8000000 in
set_option maxRecDepth 100000 in
theorem k_searches (l : Launch) (hst : l.stackTraces = false) (D : va_G) (cy : Nat → ClassId) (o : Nat) (M : Int → Int) (n : Int) (K : Nat → Int → Int) (s9 : Int) (hs9 : 1 ≤ s9 ∧ s9 ≤ 512) : CKs l D cy yL_searches wkL_searches { frames := 9, cells := 9, slots := 54, locals := 199 } o [.int (iI s9)] M n K (fun r M' n' K' => 1 = r ∧ (srch M s9).1 = M') 9 54 := by
  refine ck_start (cc := cL_searches) (maxL := 9) (ret := (some .boolean)) (by decide) rfl (Nat.le_of_ble_eq_true rfl) ?_
  intro p e s m below meth c A0 Q hx hb hr hlocks hml hts hown hA hGX hret H ls hW hl
  have hl : lv_has ls 9 [(0, .ref o), (1, .int (iI s9))] := hl
  have hI := hW.inv
  have hS12 := inv_S12 hI
  have hS0 := hI.1
  unfold InvS at hS0
  have hnn := hW.nn
  generalize ([] : List Loc) = locs at hW ⊢
  have hmw0 := hts (.constant RL 31 (-9010000)) (ckL_searches _ (by decide +kernel))
  refine lv_aload_n hx hb dL_searches_0 rfl (lv_at hl 0 rfl) ?_
  refine k_iconst hx hb dL_searches_1 ?_
  refine q_call0 (As := [.int (iI 4)]) (rest := []) ⟨hx, hb, hml, hown, hts⟩ hGX hA (ck_ans (k_whole l D cy o M n K 4 (show 0 ≤ (4 : Int) ∧ (4 : Int) ≤ 10 from by omega)) (show whW M (4 : Int) = pcost M from wh_4 M)) gkL_searches_L_whole rfl ⟨rfl, rfl⟩ 2 rfl (by decide +kernel) ⟨Nat.le_of_ble_eq_true rfl, Nat.le_of_ble_eq_true rfl⟩ hW hl.1 rfl (Nat.le_of_ble_eq_true rfl) ⟨Nat.le_of_ble_eq_true rfl, Nat.le_of_ble_eq_true rfl⟩ dL_searches_2 (fun r_1 M_1 n_1 K_1 H locs hp hW => ?_)
  obtain ⟨rfl, rfl, rfl, rfl⟩ := hp
  refine lv_istore_n (lv' := [(2, .int (iI (pcost M))), (0, .ref o), (1, .int (iI s9))]) hx hb dL_searches_5 rfl hl (by decide) rfl (fun ls hl => ?_)
  refine lv_aload_n hx hb dL_searches_6 rfl (lv_at hl 1 rfl) ?_
  refine lv_iload_n hx hb dL_searches_7 rfl (lv_at hl 2 rfl) ?_
  refine q_call0 (As := [.int (iI s9)]) (rest := []) ⟨hx, hb, hml, hown, hts⟩ hGX hA (k_search l D cy o M n K s9 (show 1 ≤ s9 ∧ s9 ≤ 512 from by omega)) gkL_searches_L_search rfl ⟨rfl, rfl⟩ 2 rfl (by decide +kernel) ⟨Nat.le_of_ble_eq_true rfl, Nat.le_of_ble_eq_true rfl⟩ hW hl.1 rfl (Nat.le_of_ble_eq_true rfl) ⟨Nat.le_of_ble_eq_true rfl, Nat.le_of_ble_eq_true rfl⟩ dL_searches_8 (fun r_2 M_2 n_2 K_2 H locs hp hW => ?_)
  obtain ⟨rfl, hM2, rfl, rfl⟩ := hp
  have hkp2 := kp_spec n
  have hI2 := hW.inv
  have hMs := hM2
  have hsp := srch_sp hI hs9
  rw [hMs] at hsp
  have hIs := hI2
  have hSs := hIs.1
  unfold InvS at hSs
  have hps := inv_pcost hIs
  have hp0 := inv_pcost hI
  refine lv_istore_n (lv' := [(3, .int (iI ((srch M s9).2))), (2, .int (iI (pcost M))), (0, .ref o), (1, .int (iI s9))]) hx hb dL_searches_11 rfl hl (by decide) rfl (fun ls hl => ?_)
  refine lv_aload_n hx hb dL_searches_12 rfl (lv_at hl 2 rfl) ?_
  refine k_iconst hx hb dL_searches_13 ?_
  refine q_call0 (As := [.int (iI 2)]) (rest := []) ⟨hx, hb, hml, hown, hts⟩ hGX hA (ck_ans (k_whole l D cy o M_2 (kpN n) (csF M K) 2 (show 0 ≤ (2 : Int) ∧ (2 : Int) ≤ 10 from by omega)) (show whW M_2 (2 : Int) = M_2 10 from wh_2 M_2)) gkL_searches_L_whole rfl ⟨rfl, rfl⟩ 2 rfl (by decide +kernel) ⟨Nat.le_of_ble_eq_true rfl, Nat.le_of_ble_eq_true rfl⟩ hW hl.1 rfl (Nat.le_of_ble_eq_true rfl) ⟨Nat.le_of_ble_eq_true rfl, Nat.le_of_ble_eq_true rfl⟩ dL_searches_14 (fun r_3 M_3 n_3 K_3 H locs hp hW => ?_)
  obtain ⟨rfl, rfl, rfl, rfl⟩ := hp
  refine lv_istore (lv' := [(4, .int (iI (M_2 10))), (3, .int (iI ((srch M s9).2))), (2, .int (iI (pcost M))), (0, .ref o), (1, .int (iI s9))]) hx hb dL_searches_17 hl (by decide) rfl (fun ls hl => ?_)
  refine lv_aload_n hx hb dL_searches_19 rfl (lv_at hl 3 rfl) ?_
  refine k_iconst hx hb dL_searches_20 ?_
  refine q_call0 (As := [.int (iI 3)]) (rest := []) ⟨hx, hb, hml, hown, hts⟩ hGX hA (ck_ans (k_whole l D cy o M_2 (kpN n) (csF M K) 3 (show 0 ≤ (3 : Int) ∧ (3 : Int) ≤ 10 from by omega)) (show whW M_2 (3 : Int) = M_2 11 from wh_3 M_2)) gkL_searches_L_whole rfl ⟨rfl, rfl⟩ 2 rfl (by decide +kernel) ⟨Nat.le_of_ble_eq_true rfl, Nat.le_of_ble_eq_true rfl⟩ hW hl.1 rfl (Nat.le_of_ble_eq_true rfl) ⟨Nat.le_of_ble_eq_true rfl, Nat.le_of_ble_eq_true rfl⟩ dL_searches_21 (fun r_4 M_4 n_4 K_4 H locs hp hW => ?_)
  obtain ⟨rfl, rfl, rfl, rfl⟩ := hp
  refine lv_istore (lv' := [(5, .int (iI (M_2 11))), (4, .int (iI (M_2 10))), (3, .int (iI ((srch M s9).2))), (2, .int (iI (pcost M))), (0, .ref o), (1, .int (iI s9))]) hx hb dL_searches_24 hl (by decide) rfl (fun ls hl => ?_)
  refine lv_aload_n hx hb dL_searches_26 rfl (lv_at hl 4 rfl) ?_
  refine k_iconst hx hb dL_searches_27 ?_
  refine q_call0 (As := [.int (iI 4)]) (rest := []) ⟨hx, hb, hml, hown, hts⟩ hGX hA (ck_ans (k_whole l D cy o M_2 (kpN n) (csF M K) 4 (show 0 ≤ (4 : Int) ∧ (4 : Int) ≤ 10 from by omega)) (show whW M_2 (4 : Int) = pcost M_2 from wh_4 M_2)) gkL_searches_L_whole rfl ⟨rfl, rfl⟩ 2 rfl (by decide +kernel) ⟨Nat.le_of_ble_eq_true rfl, Nat.le_of_ble_eq_true rfl⟩ hW hl.1 rfl (Nat.le_of_ble_eq_true rfl) ⟨Nat.le_of_ble_eq_true rfl, Nat.le_of_ble_eq_true rfl⟩ dL_searches_28 (fun r_5 M_5 n_5 K_5 H locs hp hW => ?_)
  obtain ⟨rfl, rfl, rfl, rfl⟩ := hp
  refine lv_istore (lv' := [(6, .int (iI (pcost M_2))), (5, .int (iI (M_2 11))), (4, .int (iI (M_2 10))), (3, .int (iI ((srch M s9).2))), (2, .int (iI (pcost M))), (0, .ref o), (1, .int (iI s9))]) hx hb dL_searches_31 hl (by decide) rfl (fun ls hl => ?_)
  refine lv_iload_n hx hb dL_searches_33 rfl (lv_at hl 3 rfl) ?_
  refine k_if_lt (tgt := 77) hx hb dL_searches_34 (by decide) (by omega) (fun c_6 => ?_) (fun c_6 => ?_)
  · exfalso; omega
  · skip
    refine lv_iload hx hb dL_searches_37 (lv_at hl 0 rfl) ?_
    refine lv_iload_n hx hb dL_searches_39 rfl (lv_at hl 4 rfl) ?_
    refine lv_iload_n hx hb dL_searches_40 rfl (lv_at hl 3 rfl) ?_
    refine k_isub hx hb dL_searches_41 ?_
    refine k_icmp_gt (tgt := 77) hx hb dL_searches_42 (by decide) (by omega) (by omega) (fun c_7 => ?_) (fun c_7 => ?_)
    · exfalso; omega
    · skip
      refine lv_iload hx hb dL_searches_45 (lv_at hl 2 rfl) ?_
      refine k_sipush hx hb dL_searches_47 (by decide +kernel) ?_
      refine k_icmp_lt (tgt := 77) hx hb dL_searches_50 (by decide) (by omega) (by omega) (fun c_8 => ?_) (fun c_8 => ?_)
      · exfalso; omega
      · skip
        refine lv_iload hx hb dL_searches_53 (lv_at hl 2 rfl) ?_
        refine k_sipush hx hb dL_searches_55 (by decide +kernel) ?_
        refine k_icmp_gt (tgt := 77) hx hb dL_searches_58 (by decide) (by omega) (by omega) (fun c_9 => ?_) (fun c_9 => ?_)
        · exfalso; omega
        · skip
          refine lv_iload hx hb dL_searches_61 (lv_at hl 1 rfl) ?_
          refine k_sipush hx hb dL_searches_63 (by decide +kernel) ?_
          refine k_icmp_lt (tgt := 77) hx hb dL_searches_66 (by decide) (by omega) (by omega) (fun c_10 => ?_) (fun c_10 => ?_)
          · exfalso; omega
          · skip
            refine lv_iload hx hb dL_searches_69 (lv_at hl 1 rfl) ?_
            refine k_sipush hx hb dL_searches_71 (by decide +kernel) ?_
            refine k_icmp_le (tgt := 79) hx hb dL_searches_74 (by decide) (by omega) (by omega) (fun c_11 => ?_) (fun c_11 => ?_)
            · skip
              refine k_iconst hx hb dL_searches_79 ?_
              refine lv_istore (lv' := [(7, .int (iI 0)), (6, .int (iI (pcost M_2))), (5, .int (iI (M_2 11))), (4, .int (iI (M_2 10))), (3, .int (iI ((srch M s9).2))), (2, .int (iI (pcost M))), (0, .ref o), (1, .int (iI s9))]) hx hb dL_searches_80 hl (by decide) rfl (fun ls hl => ?_)
              have loop82 : ∀ (j_12 : Nat) (k9 : Int) (cells slots : Nat) (hk0 : 0 ≤ k9) (hk1 : k9 ≤ 9) (hn82 : 9 - k9 < (j_12 : Int)) (hcs : (cells : Int) ≤ k9 ∧ (slots : Int) ≤ 6 * k9) (H : Heap) (locs : List Loc) (hW : OW D cy A0 s.heap o M_2 (kpN n) (csF M K) H locs) (ls : Array Slot) (hl : lv_has ls 9 [(7, .int (iI k9)), (6, .int (iI (pcost M_2))), (5, .int (iI (M_2 11))), (4, .int (iI (M_2 10))), (3, .int (iI ((srch M s9).2))), (2, .int (iI (pcost M))), (0, .ref o), (1, .int (iI s9))]), W p l e { frames := 9, cells := 9, slots := 54, locals := 199 } s m ([.ref o, .int (iI s9)] : List Value).toArray below meth c H locs cells slots Q (F0 m 82 ls []) := by
                intro j_12
                induction j_12 with
                | zero => intro k9 cells slots hk0 hk1 hn82 hcs H locs hW ls hl; exfalso; omega
                | succ j_12 ih82 =>
                  intro k9 cells slots hk0 hk1 hn82 hcs H locs hW ls hl
                  refine lv_iload hx hb dL_searches_82 (lv_at hl 0 rfl) ?_
                  refine k_bipush hx hb dL_searches_84 (by decide +kernel) ?_
                  refine k_icmp_ge (tgt := 135) hx hb dL_searches_86 (by decide) (by omega) (by omega) (fun c_13 => ?_) (fun c_13 => ?_)
                  · skip
                    refine lv_aload_n hx hb dL_searches_135 rfl (lv_at hl 6 rfl) ?_
                    refine k_iconst hx hb dL_searches_136 ?_
                    refine q_call0 (As := [.int (iI 1)]) (rest := []) ⟨hx, hb, hml, hown, hts⟩ hGX hA (ck_ans (k_search l D cy o M_2 (kpN n) (csF M K) 1 (show 1 ≤ (1 : Int) ∧ (1 : Int) ≤ 512 from by decide)) (show (srch M_2 (1 : Int)).2 = 0 from srch_loc hIs hsp.2)) gkL_searches_L_search rfl ⟨rfl, rfl⟩ 2 rfl (by decide +kernel) ⟨Nat.le_of_ble_eq_true rfl, Nat.le_of_ble_eq_true rfl⟩ hW hl.1 rfl (Nat.le_of_ble_eq_true rfl) ⟨show cells ≤ 9 by omega, show slots ≤ 54 by omega⟩ dL_searches_137 (fun r_14 M_14 n_14 K_14 H locs hp hW => ?_)
                    obtain ⟨rfl, hM14, rfl, rfl⟩ := hp
                    have hkp14 := kp_spec (kpN n)
                    have hI14 := hW.inv
                    refine k_if_ne (tgt := 183) hx hb dL_searches_140 (by decide) (by omega) (fun c_15 => ?_) (fun c_15 => ?_)
                    · exfalso; omega
                    · skip
                      refine lv_aload_n hx hb dL_searches_143 rfl (lv_at hl 6 rfl) ?_
                      refine q_call0 (As := []) (rest := []) ⟨hx, hb, hml, hown, hts⟩ hGX hA (k_undo l D cy o M_14 (kpN (kpN n)) (csF M_2 (csF M K)) (show 0 < (kpN (kpN n)) from by omega)) gkL_searches_L_undo rfl ⟨rfl, rfl⟩ 1 rfl (by decide +kernel) ⟨Nat.le_of_ble_eq_true rfl, Nat.le_of_ble_eq_true rfl⟩ hW hl.1 rfl (Nat.le_of_ble_eq_true rfl) ⟨show cells ≤ 9 by omega, show slots ≤ 54 by omega⟩ dL_searches_144 (fun r_16 M_16 n_16 K_16 H locs hp hW => ?_)
                      obtain ⟨rfl, hM16, rfl, hK16⟩ := hp
                      have hM16 : M_2 = M_16 := hM16
                      subst hM16
                      have hK16 : (csF M K) = K_16 := hK16
                      subst hK16
                      refine k_if_lt (tgt := 183) hx hb dL_searches_147 (by decide) (by omega) (fun c_17 => ?_) (fun c_17 => ?_)
                      · exfalso; omega
                      · skip
                        refine lv_iload_n hx hb dL_searches_150 rfl (lv_at hl 4 rfl) ?_
                        refine k_if_eq (tgt := 179) hx hb dL_searches_151 (by decide) (by omega) (fun c_18 => ?_) (fun c_18 => ?_)
                        · skip
                          refine k_iconst hx hb dL_searches_179 ?_
                          refine lv_goto (tgt := 184) hx hb dL_searches_180 (by decide) ?_
                          exact hret 1 _ _ _ H locs _ _ 184 ls (by first | exact ⟨rfl, hMt⟩ | exact ⟨rfl, hMs⟩) hW ⟨by omega, by omega⟩ (Or.inr ⟨rfl, Or.inr rfl⟩) dL_searches_184
                        · skip
                          refine lv_aload_n hx hb dL_searches_154 rfl (lv_at hl 6 rfl) ?_
                          refine q_call0 (As := []) (rest := []) ⟨hx, hb, hml, hown, hts⟩ hGX hA (k_undo l D cy o M_2 ((kpN (kpN n)) - 1) (csF M K) (show 0 < ((kpN (kpN n)) - 1) from by omega)) gkL_searches_L_undo rfl ⟨rfl, rfl⟩ 1 rfl (by decide +kernel) ⟨Nat.le_of_ble_eq_true rfl, Nat.le_of_ble_eq_true rfl⟩ hW hl.1 rfl (Nat.le_of_ble_eq_true rfl) ⟨show cells ≤ 9 by omega, show slots ≤ 54 by omega⟩ dL_searches_155 (fun r_19 M_19 n_19 K_19 H locs hp hW => ?_)
                          obtain ⟨rfl, hM19, rfl, hK19⟩ := hp
                          have hM19 : M = M_19 := hM19
                          subst hM19
                          have hK19 : K = K_19 := hK19
                          subst hK19
                          refine k_if_lt (tgt := 183) hx hb dL_searches_158 (by decide) (by omega) (fun c_20 => ?_) (fun c_20 => ?_)
                          · exfalso; omega
                          · skip
                            refine lv_aload_n hx hb dL_searches_161 rfl (lv_at hl 6 rfl) ?_
                            refine k_iconst hx hb dL_searches_162 ?_
                            refine q_call0 (As := [.int (iI 4)]) (rest := []) ⟨hx, hb, hml, hown, hts⟩ hGX hA (ck_ans (k_whole l D cy o M (((kpN (kpN n)) - 1) - 1) K 4 (show 0 ≤ (4 : Int) ∧ (4 : Int) ≤ 10 from by omega)) (show whW M (4 : Int) = pcost M from wh_4 M)) gkL_searches_L_whole rfl ⟨rfl, rfl⟩ 2 rfl (by decide +kernel) ⟨Nat.le_of_ble_eq_true rfl, Nat.le_of_ble_eq_true rfl⟩ hW hl.1 rfl (Nat.le_of_ble_eq_true rfl) ⟨show cells ≤ 9 by omega, show slots ≤ 54 by omega⟩ dL_searches_163 (fun r_21 M_21 n_21 K_21 H locs hp hW => ?_)
                            obtain ⟨rfl, rfl, rfl, rfl⟩ := hp
                            refine lv_iload_n hx hb dL_searches_166 rfl (lv_at hl 5 rfl) ?_
                            refine k_icmp_ne (tgt := 183) hx hb dL_searches_167 (by decide) (by omega) (by omega) (fun c_22 => ?_) (fun c_22 => ?_)
                            · exfalso; omega
                            · skip
                              refine lv_aload_n hx hb dL_searches_170 rfl (lv_at hl 6 rfl) ?_
                              refine lv_iload_n hx hb dL_searches_171 rfl (lv_at hl 7 rfl) ?_
                              refine q_call0 (As := [.int (iI s9)]) (rest := []) ⟨hx, hb, hml, hown, hts⟩ hGX hA (k_search l D cy o M (((kpN (kpN n)) - 1) - 1) K s9 (show 1 ≤ s9 ∧ s9 ≤ 512 from by omega)) gkL_searches_L_search rfl ⟨rfl, rfl⟩ 2 rfl (by decide +kernel) ⟨Nat.le_of_ble_eq_true rfl, Nat.le_of_ble_eq_true rfl⟩ hW hl.1 rfl (Nat.le_of_ble_eq_true rfl) ⟨show cells ≤ 9 by omega, show slots ≤ 54 by omega⟩ dL_searches_172 (fun r_23 M_23 n_23 K_23 H locs hp hW => ?_)
                              obtain ⟨rfl, hM23, rfl, rfl⟩ := hp
                              have hkp23 := kp_spec (((kpN (kpN n)) - 1) - 1)
                              have hI23 := hW.inv
                              have hMt := hM23
                              refine lv_iload_n hx hb dL_searches_175 rfl (lv_at hl 4 rfl) ?_
                              refine k_icmp_ne (tgt := 183) hx hb dL_searches_176 (by decide) (by omega) (by omega) (fun c_24 => ?_) (fun c_24 => ?_)
                              · exfalso; omega
                              · skip
                                refine k_iconst hx hb dL_searches_179 ?_
                                refine lv_goto (tgt := 184) hx hb dL_searches_180 (by decide) ?_
                                exact hret 1 _ _ _ H locs _ _ 184 ls (by first | exact ⟨rfl, hMt⟩ | exact ⟨rfl, hMs⟩) hW ⟨by omega, by omega⟩ (Or.inr ⟨rfl, Or.inr rfl⟩) dL_searches_184
                  · skip
                    refine lv_aload_n hx hb dL_searches_89 rfl (lv_at hl 6 rfl) ?_
                    refine lv_iload hx hb dL_searches_90 (lv_at hl 3 rfl) ?_
                    refine lv_iload hx hb dL_searches_92 (lv_at hl 0 rfl) ?_
                    refine k_iconst hx hb dL_searches_94 ?_
                    refine k_irem hx hb dL_searches_95 (by omega) (by omega) ?_
                    refine k_iadd hx hb dL_searches_96 ?_
                    refine k_iconst hx hb dL_searches_97 ?_
                    refine k_isub hx hb dL_searches_98 ?_
                    refine lv_iload hx hb dL_searches_99 (lv_at hl 2 rfl) ?_
                    refine lv_iload hx hb dL_searches_101 (lv_at hl 0 rfl) ?_
                    refine k_iconst hx hb dL_searches_103 ?_
                    refine k_idiv hx hb dL_searches_104 (by omega) (by omega) ?_
                    refine k_iadd hx hb dL_searches_105 ?_
                    refine k_iconst hx hb dL_searches_106 ?_
                    refine k_isub hx hb dL_searches_107 ?_
                    by_cases c_25 : poleOK (((M_2 10) + (k9 % 3)) - 1) (((M_2 11) + (k9 / 3)) - 1)
                    · skip
                      have hpo9 := c_25
                      have hlc := lk_loc hIs hsp.2 hk0 (show k9 < 9 by omega) hpo9
                      have hpq := inv_pcost (inv_tPo hIs hpo9)
                      refine q_call0 (As := [.int (iI (((M_2 10) + (k9 % 3)) - 1)), .int (iI (((M_2 11) + (k9 / 3)) - 1))]) (rest := []) ⟨hx, hb, hml, hown, hts⟩ hGX hA (k_costAt l D cy o M_2 (kpN n) (csF M K) (((M_2 10) + (k9 % 3)) - 1) (((M_2 11) + (k9 / 3)) - 1) (show poleOK (((M_2 10) + (k9 % 3)) - 1) (((M_2 11) + (k9 / 3)) - 1) from hpo9)) gkL_searches_L_costAt rfl ⟨rfl, rfl⟩ 3 rfl (by decide +kernel) ⟨Nat.le_of_ble_eq_true rfl, Nat.le_of_ble_eq_true rfl⟩ hW hl.1 rfl (Nat.le_of_ble_eq_true rfl) ⟨show cells ≤ 9 by omega, show slots ≤ 54 by omega⟩ dL_searches_108 (fun r_26 M_26 n_26 K_26 H locs hp hW => ?_)
                      obtain ⟨rfl, rfl, rfl, rfl⟩ := hp
                      refine lv_istore (lv' := [(8, .int (iI (pcost (tPo M_2 (((M_2 10) + (k9 % 3)) - 1) (((M_2 11) + (k9 / 3)) - 1))))), (7, .int (iI k9)), (6, .int (iI (pcost M_2))), (5, .int (iI (M_2 11))), (4, .int (iI (M_2 10))), (3, .int (iI ((srch M s9).2))), (2, .int (iI (pcost M))), (0, .ref o), (1, .int (iI s9))]) hx hb dL_searches_111 hl (by decide) rfl (fun ls hl => ?_)
                      refine lv_iload hx hb dL_searches_113 (lv_at hl 0 rfl) ?_
                      refine k_ldc (z := (-9010000)) hx hb hown hmw0 (by decide +kernel) dL_searches_115 ?_
                      refine k_icmp_eq (tgt := 129) hx hb dL_searches_117 (by decide) (by omega) (by omega) (fun c_27 => ?_) (fun c_27 => ?_)
                      · skip
                        refine lv_iinc (v := iI (k9 + 1)) (lv' := [(7, .int (iI (k9 + 1))), (8, .int (iI (pcost (tPo M_2 (((M_2 10) + (k9 % 3)) - 1) (((M_2 11) + (k9 / 3)) - 1))))), (6, .int (iI (pcost M_2))), (5, .int (iI (M_2 11))), (4, .int (iI (M_2 10))), (3, .int (iI ((srch M s9).2))), (2, .int (iI (pcost M))), (0, .ref o), (1, .int (iI s9))]) hx hb dL_searches_129 hl (k := 1) rfl (iI_add _ _) (by decide) rfl (fun ls hl => ?_)
                        refine lv_goto (tgt := 82) hx hb dL_searches_132 (by decide) ?_
                        exact ih82 (k9 + 1) cells slots (by omega) (by omega) (by omega) (by omega) H locs hW ls (lv_sub hl [0, 2, 3, 4, 5, 6, 7, 8] rfl)
                      · skip
                        refine lv_iload hx hb dL_searches_120 (lv_at hl 0 rfl) ?_
                        refine lv_iload hx hb dL_searches_122 (lv_at hl 2 rfl) ?_
                        refine k_icmp_ge (tgt := 129) hx hb dL_searches_124 (by decide) (by omega) (by omega) (fun c_28 => ?_) (fun c_28 => ?_)
                        · skip
                          refine lv_iinc (v := iI (k9 + 1)) (lv' := [(7, .int (iI (k9 + 1))), (8, .int (iI (pcost (tPo M_2 (((M_2 10) + (k9 % 3)) - 1) (((M_2 11) + (k9 / 3)) - 1))))), (6, .int (iI (pcost M_2))), (5, .int (iI (M_2 11))), (4, .int (iI (M_2 10))), (3, .int (iI ((srch M s9).2))), (2, .int (iI (pcost M))), (0, .ref o), (1, .int (iI s9))]) hx hb dL_searches_129 hl (k := 1) rfl (iI_add _ _) (by decide) rfl (fun ls hl => ?_)
                          refine lv_goto (tgt := 82) hx hb dL_searches_132 (by decide) ?_
                          exact ih82 (k9 + 1) cells slots (by omega) (by omega) (by omega) (by omega) H locs hW ls (lv_sub hl [0, 2, 3, 4, 5, 6, 7, 8] rfl)
                        · exfalso; omega
                    · skip
                      have hno9 := c_25
                      refine q_call1 (As := [.int (iI (((M_2 10) + (k9 % 3)) - 1)), .int (iI (((M_2 11) + (k9 / 3)) - 1))]) (rest := []) ⟨hx, hb, hml, hown, hts⟩ hGX hA (k_costAt_t l hst D cy o M_2 (kpN n) (csF M K) (((M_2 10) + (k9 % 3)) - 1) (((M_2 11) + (k9 / 3)) - 1) (show -2147483648 ≤ (((M_2 10) + (k9 % 3)) - 1) ∧ (((M_2 10) + (k9 % 3)) - 1) ≤ 2147483647 from by omega) (show -2147483648 ≤ (((M_2 11) + (k9 / 3)) - 1) ∧ (((M_2 11) + (k9 / 3)) - 1) ≤ 2147483647 from by omega) (show ¬ poleOK (((M_2 10) + (k9 % 3)) - 1) (((M_2 11) + (k9 / 3)) - 1) from hno9)) gkL_searches_L_costAt rfl ⟨rfl, rfl⟩ 3 rfl (by decide +kernel) ⟨Nat.le_of_ble_eq_true rfl, Nat.le_of_ble_eq_true rfl⟩ hW hl.1 rfl (Nat.le_of_ble_eq_true rfl) ⟨show cells + 1 ≤ 9 by omega, show slots + 6 ≤ 54 by omega⟩ dL_searches_108 (fun r_29 M_29 n_29 K_29 H locs hp hW => ?_)
                      obtain ⟨rfl, rfl, rfl, rfl⟩ := hp
                      refine lv_istore (lv' := [(8, .int (iI (-9010000))), (7, .int (iI k9)), (6, .int (iI (pcost M_2))), (5, .int (iI (M_2 11))), (4, .int (iI (M_2 10))), (3, .int (iI ((srch M s9).2))), (2, .int (iI (pcost M))), (0, .ref o), (1, .int (iI s9))]) hx hb dL_searches_111 hl (by decide) rfl (fun ls hl => ?_)
                      refine lv_iload hx hb dL_searches_113 (lv_at hl 0 rfl) ?_
                      refine k_ldc (z := (-9010000)) hx hb hown hmw0 (by decide +kernel) dL_searches_115 ?_
                      refine k_icmp_eq (tgt := 129) hx hb dL_searches_117 (by decide) (by omega) (by omega) (fun c_30 => ?_) (fun c_30 => ?_)
                      · skip
                        refine lv_iinc (v := iI (k9 + 1)) (lv' := [(7, .int (iI (k9 + 1))), (8, .int (iI (-9010000))), (6, .int (iI (pcost M_2))), (5, .int (iI (M_2 11))), (4, .int (iI (M_2 10))), (3, .int (iI ((srch M s9).2))), (2, .int (iI (pcost M))), (0, .ref o), (1, .int (iI s9))]) hx hb dL_searches_129 hl (k := 1) rfl (iI_add _ _) (by decide) rfl (fun ls hl => ?_)
                        refine lv_goto (tgt := 82) hx hb dL_searches_132 (by decide) ?_
                        exact ih82 (k9 + 1) (cells + 1) (slots + 6) (by omega) (by omega) (by omega) (by omega) H locs hW ls (lv_sub hl [0, 2, 3, 4, 5, 6, 7, 8] rfl)
                      · exfalso; omega
              exact loop82 ((9 - 0 : Int) + 1).toNat 0 0 0 (by omega) (by omega) (by omega) (by omega) H locs hW ls (lv_sub hl [0, 1, 2, 3, 4, 5, 6, 7] rfl)
            · exfalso; omega
