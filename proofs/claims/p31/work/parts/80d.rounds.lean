/-! the law's rounds, one behind another -/
set_option maxHeartbeats 8000000 in
set_option maxRecDepth 100000 in
theorem z_loop {p : Program} {l : Launch} {e : Env} {s : State} {m : MethodId} {below : List Frame} {meth : Method} {c : Code} {b L : Nat} {xs : Nat → Int32} {D : va_G} {cy : Nat → ClassId} {Q : State → Prop} {o : Nat} (C : zC p l s m c b L xs D cy) {cells slots : Nat} (hret : ∀ (H : Heap) (locs : List Loc) (ls : Array Slot) (cells slots : Nat), cells ≤ 800000 ∧ slots ≤ 6000000 → va_S (fun q : Nat => s.heap.size ≤ q) s.heap H locs → W p l e room_1 s m #[Value.ref b] below meth c H locs cells slots Q (F0 m 1194 ls [.int (iI 1)])) (hc0 : cells ≤ 400 ∧ slots ≤ 12000) (M : Int → Int) (n : Int) (K : Nat → Int → Int)   (H : Heap) (locs : List Loc) (hW : OW D cy (fun q : Nat => s.heap.size ≤ q) s.heap o M n K H locs) (ls : Array Slot) (hl : lv_has ls 15 [(2, .int (iI 0)), (1, .ref o), (0, .ref b)]) : W p l e room_1 s m #[Value.ref b] below meth c H locs cells slots Q (F0 m 56 ls []) := by
  obtain ⟨⟨hx, hb, hml, hown⟩, hts, ⟨hX, hbl, hL⟩, hGX, hst⟩ := id C
  have hA : ∀ q : Nat, s.heap.size ≤ q → (fun q : Nat => s.heap.size ≤ q) q := fun _ h => h
  have hI := hW.inv
  have hS12 := inv_S12 hI
  have hS0 := hI.1
  unfold InvS at hS0
  have hnn := hW.nn
  have loop56 : ∀ (j_1 : Nat) (i : Int) (M : Int → Int) (n : Int) (K : Nat → Int → Int) (cells slots : Nat) (hi0 : 0 ≤ i) (hi1 : i ≤ 44) (hi2 : 1 ≤ i → 1 ≤ M 12) (hn56 : 44 - i < (j_1 : Int)) (hcs : (cells : Int) ≤ 400 + 80 * i ∧ (slots : Int) ≤ 12000 + 480 * i) (H : Heap) (locs : List Loc) (hW : OW D cy (fun q : Nat => s.heap.size ≤ q) s.heap o M n K H locs) (ls : Array Slot) (hl : lv_has ls 15 [(2, .int (iI i)), (1, .ref o), (0, .ref b)]), W p l e room_1 s m #[Value.ref b] below meth c H locs cells slots Q (F0 m 56 ls []) := by
    intro j_1
    induction j_1 with
    | zero => intro i M n K cells slots hi0 hi1 hi2 hn56 hcs H locs hW ls hl; exfalso; omega
    | succ j_1 ih56 =>
      intro i M n K cells slots hi0 hi1 hi2 hn56 hcs H locs hW ls hl
      have hI := hW.inv
      have hS12 := inv_S12 hI
      have hnn := hW.nn
      refine lv_iload_n hx hb dL_law_56 rfl (lv_at hl 0 rfl) ?_
      refine k_bipush hx hb dL_law_57 (by decide +kernel) ?_
      refine k_icmp_ge (tgt := 1190) hx hb dL_law_59 (by decide) (by omega) (by omega) (fun c_2 => ?_) (fun c_2 => ?_)
      · skip
        refine lv_aload_n hx hb dL_law_1190 rfl (lv_at hl 1 rfl) ?_
        refine q_calls (As := []) (rest := []) ⟨hx, hb, hml, hown, hts⟩ hGX hA (k_refuses l hst D cy o M n K ) glk_refuses rfl ⟨rfl, rfl⟩ 1 rfl (by decide +kernel) ⟨Nat.le_of_ble_eq_true rfl, Nat.le_of_ble_eq_true rfl⟩ hW hl.1 rfl (Nat.le_of_ble_eq_true rfl) ⟨show cells + 40 ≤ 856056 by omega, show slots + 240 ≤ 6533457 by omega⟩ dL_law_1191 (fun r_3 M_3 n_3 K_3 H locs hp hW => ?_)
        have hp : 1 = r_3 ∧ M = M_3 ∧ n = n_3 ∧ K = K_3 := hp
        obtain ⟨rfl, hq⟩ := hp
        obtain ⟨rfl, rfl, rfl⟩ := hq
        exact hret H locs ls _ _ ⟨by omega, by omega⟩ hW.s
      · skip
        refine lv_aload_n hx hb dL_law_62 rfl (lv_at hl 2 rfl) ?_
        refine k_iconst hx hb dL_law_63 ?_
        refine lv_iload_n hx hb dL_law_64 rfl (lv_at hl 0 rfl) ?_
        refine k_imul hx hb dL_law_65 ?_
        refine k_roS (As := [.ref b, .int (iI (2 * i))]) (rest := []) ⟨hx, hb, hml, hown, hts⟩ (c_L_lot l D b L xs (2 * i) (by omega) (by omega)) gL_law_L_lot rfl ⟨rfl, rfl⟩ 2 rfl (by decide +kernel) ⟨Nat.le_of_ble_eq_true rfl, Nat.le_of_ble_eq_true rfl⟩ (scX_ok b L xs) ⟨va_X.kept hX (hW.s.2.1 b hbl (fun h9 => absurd hbl (Nat.not_lt.mpr h9))), fun h9 => h9⟩ (fun k q h => by simp at h) hl.1 rfl (Nat.le_of_ble_eq_true rfl) ⟨show cells ≤ 856056 by omega, show slots ≤ 6533457 by omega⟩ dL_law_66 (fun r_4 hr_4 => ?_)
        have hr_4 : -2147483648 ≤ r_4 ∧ r_4 ≤ 2147483647 := hr_4
        refine lv_istore_n (lv' := [(3, .int (iI r_4)), (2, .int (iI i)), (1, .ref o), (0, .ref b)]) hx hb dL_law_69 rfl hl (by decide) rfl (fun ls hl => ?_)
        refine lv_aload_n hx hb dL_law_70 rfl (lv_at hl 3 rfl) ?_
        refine k_iconst hx hb dL_law_71 ?_
        refine lv_iload_n hx hb dL_law_72 rfl (lv_at hl 1 rfl) ?_
        refine k_imul hx hb dL_law_73 ?_
        refine k_iconst hx hb dL_law_74 ?_
        refine k_iadd hx hb dL_law_75 ?_
        refine k_roS (As := [.ref b, .int (iI ((2 * i) + 1))]) (rest := []) ⟨hx, hb, hml, hown, hts⟩ (c_L_lot l D b L xs ((2 * i) + 1) (by omega) (by omega)) gL_law_L_lot rfl ⟨rfl, rfl⟩ 2 rfl (by decide +kernel) ⟨Nat.le_of_ble_eq_true rfl, Nat.le_of_ble_eq_true rfl⟩ (scX_ok b L xs) ⟨va_X.kept hX (hW.s.2.1 b hbl (fun h9 => absurd hbl (Nat.not_lt.mpr h9))), fun h9 => h9⟩ (fun k q h => by simp at h) hl.1 rfl (Nat.le_of_ble_eq_true rfl) ⟨show cells ≤ 856056 by omega, show slots ≤ 6533457 by omega⟩ dL_law_76 (fun r_5 hr_5 => ?_)
        have hr_5 : -2147483648 ≤ r_5 ∧ r_5 ≤ 2147483647 := hr_5
        refine lv_istore (lv' := [(4, .int (iI r_5)), (3, .int (iI r_4)), (2, .int (iI i)), (1, .ref o), (0, .ref b)]) hx hb dL_law_79 hl (by decide) rfl (fun ls hl => ?_)
        refine lv_aload_n hx hb dL_law_81 rfl (lv_at hl 3 rfl) ?_
        refine k_iconst hx hb dL_law_82 ?_
        refine q_call0 (As := [.int (iI 0)]) (rest := []) ⟨hx, hb, hml, hown, hts⟩ hGX hA (ck_ans (k_whole l D cy o M n K 0 (show 0 ≤ (0 : Int) ∧ (0 : Int) ≤ 10 from by omega)) (show whW M (0 : Int) = M 12 from wh_0 M)) gL_law_L_whole rfl ⟨rfl, rfl⟩ 2 rfl (by decide +kernel) ⟨Nat.le_of_ble_eq_true rfl, Nat.le_of_ble_eq_true rfl⟩ hW hl.1 rfl (Nat.le_of_ble_eq_true rfl) ⟨show cells ≤ 856056 by omega, show slots ≤ 6533457 by omega⟩ dL_law_83 (fun r_6 M_6 n_6 K_6 H locs hp hW => ?_)
        obtain ⟨rfl, rfl, rfl, rfl⟩ := hp
        refine lv_istore (lv' := [(5, .int (iI (M 12))), (4, .int (iI r_5)), (3, .int (iI r_4)), (2, .int (iI i)), (1, .ref o), (0, .ref b)]) hx hb dL_law_86 hl (by decide) rfl (fun ls hl => ?_)
        refine lv_aload_n hx hb dL_law_88 rfl (lv_at hl 4 rfl) ?_
        refine k_iconst hx hb dL_law_89 ?_
        refine q_call0 (As := [.int (iI 1)]) (rest := []) ⟨hx, hb, hml, hown, hts⟩ hGX hA (ck_ans (k_whole l D cy o M n K 1 (show 0 ≤ (1 : Int) ∧ (1 : Int) ≤ 10 from by omega)) (show whW M (1 : Int) = M 13 from wh_1 M)) gL_law_L_whole rfl ⟨rfl, rfl⟩ 2 rfl (by decide +kernel) ⟨Nat.le_of_ble_eq_true rfl, Nat.le_of_ble_eq_true rfl⟩ hW hl.1 rfl (Nat.le_of_ble_eq_true rfl) ⟨show cells ≤ 856056 by omega, show slots ≤ 6533457 by omega⟩ dL_law_90 (fun r_7 M_7 n_7 K_7 H locs hp hW => ?_)
        obtain ⟨rfl, rfl, rfl, rfl⟩ := hp
        refine lv_istore (lv' := [(6, .int (iI (M 13))), (5, .int (iI (M 12))), (4, .int (iI r_5)), (3, .int (iI r_4)), (2, .int (iI i)), (1, .ref o), (0, .ref b)]) hx hb dL_law_93 hl (by decide) rfl (fun ls hl => ?_)
        refine lv_iload_n hx hb dL_law_95 rfl (lv_at hl 4 rfl) ?_
        refine k_iconst hx hb dL_law_96 ?_
        have join130 : ∀ (z7 : Int) (ji0 : 0 ≤ z7 ∧ z7 < 14) (ji1 : i < 3 → z7 = 0) (ls : Array Slot) (hl : lv_has ls 15 [(6, .int (iI (M 13))), (5, .int (iI (M 12))), (4, .int (iI r_5)), (3, .int (iI r_4)), (2, .int (iI i)), (1, .ref o), (0, .ref b)]), W p l e room_1 s m #[Value.ref b] below meth c H locs cells slots Q (F0 m 130 ls [.int (iI z7)]) := by
          intro z7 ji0 ji1 ls hl
          refine lv_istore (lv' := [(7, .int (iI z7)), (6, .int (iI (M 13))), (5, .int (iI (M 12))), (4, .int (iI r_5)), (3, .int (iI r_4)), (2, .int (iI i)), (1, .ref o), (0, .ref b)]) hx hb dL_law_130 hl (by decide) rfl (fun ls hl => ?_)
          refine lv_iload hx hb dL_law_132 (lv_at hl 2 rfl) ?_
          have join149 : ∀ (z8 : Int) (ji0 : 0 ≤ z8) (ji1 : 1 ≤ M 12 → z8 < M 12) (ls : Array Slot) (hl : lv_has ls 15 [(7, .int (iI z7)), (6, .int (iI (M 13))), (5, .int (iI (M 12))), (4, .int (iI r_5)), (3, .int (iI r_4)), (2, .int (iI i)), (1, .ref o), (0, .ref b)]), W p l e room_1 s m #[Value.ref b] below meth c H locs cells slots Q (F0 m 149 ls [.int (iI z8)]) := by
            intro z8 ji0 ji1 ls hl
            refine lv_istore (lv' := [(8, .int (iI z8)), (7, .int (iI z7)), (6, .int (iI (M 13))), (5, .int (iI (M 12))), (4, .int (iI r_5)), (3, .int (iI r_4)), (2, .int (iI i)), (1, .ref o), (0, .ref b)]) hx hb dL_law_149 hl (by decide) rfl (fun ls hl => ?_)
            have hk : zK p l e s m below meth c b D cy Q o i r_5 (cells + 60) (slots + 360) := fun M n K cells slots h1 h2 H locs hW ls hl => zc_tail C (fun M n K cells slots h3 h4 H locs hW ls hl => ih56 (i + 1) M n K cells slots (by omega) (by omega) (by omega) (by omega) (by omega) H locs hW ls hl) ⟨by omega, by omega⟩ M n K (by omega) h1 (by omega) H locs hW ls hl
            refine lv_iload hx hb dL_law_151 (lv_at hl 1 rfl) ?_
            refine k_if_ne (tgt := 179) hx hb dL_law_153 (by decide) (by omega) (fun c_8 => ?_) (fun c_8 => ?_)
            · skip
              refine lv_iload hx hb dL_law_179 (lv_at hl 1 rfl) ?_
              refine k_iconst hx hb dL_law_181 ?_
              have join425 : ∀   (ls : Array Slot) (hl : lv_has ls 15 [(8, .int (iI z8)), (7, .int (iI z7)), (6, .int (iI (M 13))), (5, .int (iI (M 12))), (4, .int (iI r_5)), (3, .int (iI r_4)), (2, .int (iI i)), (1, .ref o), (0, .ref b)]), W p l e room_1 s m #[Value.ref b] below meth c H locs cells slots Q (F0 m 425 ls []) := by
                intro ls hl
                refine lv_iload hx hb dL_law_425 (lv_at hl 1 rfl) ?_
                refine k_iconst hx hb dL_law_427 ?_
                refine k_icmp_ne (tgt := 547) hx hb dL_law_428 (by decide) (by omega) (by omega) (fun c_9 => ?_) (fun c_9 => ?_)
                · skip
                  refine lv_iload hx hb dL_law_547 (lv_at hl 1 rfl) ?_
                  refine k_iconst hx hb dL_law_549 ?_
                  refine k_icmp_ne (tgt := 641) hx hb dL_law_550 (by decide) (by omega) (by omega) (fun c_10 => ?_) (fun c_10 => ?_)
                  · skip
                    refine lv_iload hx hb dL_law_641 (lv_at hl 1 rfl) ?_
                    refine k_iconst hx hb dL_law_643 ?_
                    have join716 : ∀   (ls : Array Slot) (hl : lv_has ls 15 [(8, .int (iI z8)), (7, .int (iI z7)), (6, .int (iI (M 13))), (5, .int (iI (M 12))), (4, .int (iI r_5)), (3, .int (iI r_4)), (2, .int (iI i)), (1, .ref o), (0, .ref b)]), W p l e room_1 s m #[Value.ref b] below meth c H locs cells slots Q (F0 m 716 ls []) := by
                      intro ls hl
                      refine lv_iload hx hb dL_law_716 (lv_at hl 1 rfl) ?_
                      refine k_iconst hx hb dL_law_718 ?_
                      have join810 : ∀   (ls : Array Slot) (hl : lv_has ls 15 [(8, .int (iI z8)), (7, .int (iI z7)), (6, .int (iI (M 13))), (5, .int (iI (M 12))), (4, .int (iI r_5)), (3, .int (iI r_4)), (2, .int (iI i)), (1, .ref o), (0, .ref b)]), W p l e room_1 s m #[Value.ref b] below meth c H locs cells slots Q (F0 m 810 ls []) := by
                        intro ls hl
                        refine lv_iload hx hb dL_law_810 (lv_at hl 1 rfl) ?_
                        refine k_bipush hx hb dL_law_812 (by decide +kernel) ?_
                        refine k_icmp_ge (tgt := 1020) hx hb dL_law_814 (by decide) (by omega) (by omega) (fun c_11 => ?_) (fun c_11 => ?_)
                        · skip
                          refine lv_iload hx hb dL_law_1020 (lv_at hl 1 rfl) ?_
                          refine k_bipush hx hb dL_law_1022 (by decide +kernel) ?_
                          refine k_icmp_ne (tgt := 1116) hx hb dL_law_1024 (by decide) (by omega) (by omega) (fun c_12 => ?_) (fun c_12 => ?_)
                          · skip
                            refine lv_iload hx hb dL_law_1116 (lv_at hl 1 rfl) ?_
                            refine k_bipush hx hb dL_law_1118 (by decide +kernel) ?_
                            refine k_icmp_ne (tgt := 1141) hx hb dL_law_1120 (by decide) (by omega) (by omega) (fun c_13 => ?_) (fun c_13 => ?_)
                            · skip
                              refine lv_aload_n hx hb dL_law_1141 rfl (lv_at hl 7 rfl) ?_
                              refine q_calls (As := []) (rest := []) ⟨hx, hb, hml, hown, hts⟩ hGX hA (k_trails l hst D cy o M n K ) glk_trails rfl ⟨rfl, rfl⟩ 1 rfl (by decide +kernel) ⟨Nat.le_of_ble_eq_true rfl, Nat.le_of_ble_eq_true rfl⟩ hW hl.1 rfl (Nat.le_of_ble_eq_true rfl) ⟨show cells + 12 ≤ 856056 by omega, show slots + 72 ≤ 6533457 by omega⟩ dL_law_1142 (fun r_14 M_14 n_14 K_14 H locs hp hW => ?_)
                              have hp : 1 = r_14 ∧ M = M_14 ∧ n = n_14 ∧ K = K_14 := hp
                              obtain ⟨rfl, hq⟩ := hp
                              obtain ⟨rfl, rfl, rfl⟩ := hq
                              refine k_if_eq (tgt := 1182) hx hb dL_law_1145 (by decide) (by omega) (fun c_15 => ?_) (fun c_15 => ?_)
                              · exfalso; omega
                              · skip
                                refine lv_iload_n hx hb dL_law_1148 rfl (lv_at hl 6 rfl) ?_
                                refine k_iconst hx hb dL_law_1149 ?_
                                refine k_irem hx hb dL_law_1150 (by omega) (by omega) ?_
                                refine k_iconst hx hb dL_law_1151 ?_
                                refine k_icmp_ne (tgt := 1162) hx hb dL_law_1152 (by decide) (by omega) (by omega) (fun c_16 => ?_) (fun c_16 => ?_)
                                · skip
                                  refine lv_iload_n hx hb dL_law_1162 rfl (lv_at hl 6 rfl) ?_
                                  refine k_bipush hx hb dL_law_1163 (by decide +kernel) ?_
                                  refine k_irem hx hb dL_law_1165 (by omega) (by omega) ?_
                                  refine k_bipush hx hb dL_law_1166 (by decide +kernel) ?_
                                  refine k_icmp_ne (tgt := 1184) hx hb dL_law_1168 (by decide) (by omega) (by omega) (fun c_17 => ?_) (fun c_17 => ?_)
                                  · skip
                                    refine lv_iinc (v := iI (i + 1)) (lv' := [(2, .int (iI (i + 1))), (8, .int (iI z8)), (7, .int (iI z7)), (6, .int (iI (M 13))), (5, .int (iI (M 12))), (4, .int (iI r_5)), (3, .int (iI r_4)), (1, .ref o), (0, .ref b)]) hx hb dL_law_1184 hl (k := 6) rfl (iI_add _ _) (by decide) rfl (fun ls hl => ?_)
                                    refine lv_goto (tgt := 56) hx hb dL_law_1187 (by decide) ?_
                                    exact ih56 (i + 1) M n K (cells + 12) (slots + 72) (by omega) (by omega) (by omega) (by omega) (by omega) H locs hW ls (lv_sub hl [0, 7, 8] rfl)
                                  · skip
                                    refine lv_aload_n hx hb dL_law_1171 rfl (lv_at hl 7 rfl) ?_
                                    refine lv_iload hx hb dL_law_1172 (lv_at hl 4 rfl) ?_
                                    refine k_iconst hx hb dL_law_1174 ?_
                                    refine k_ishr hx hb dL_law_1175 (by omega) (by omega) ?_
                                    refine q_calls (As := [.int (iI (r_5 / 2 ^ (5 : Int).toNat))]) (rest := []) ⟨hx, hb, hml, hown, hts⟩ hGX hA (k_thoughts l D cy o M n K (r_5 / 2 ^ (5 : Int).toNat) ) glk_thoughts rfl ⟨rfl, rfl⟩ 2 rfl (by decide +kernel) ⟨Nat.le_of_ble_eq_true rfl, Nat.le_of_ble_eq_true rfl⟩ hW hl.1 rfl (Nat.le_of_ble_eq_true rfl) ⟨show cells + 12 ≤ 856056 by omega, show slots + 72 ≤ 6533457 by omega⟩ dL_law_1176 (fun r_18 M_18 n_18 K_18 H locs hp hW => ?_)
                                    have hp : 1 = r_18 ∧ M = M_18 := hp
                                    obtain ⟨rfl, hq⟩ := hp
                                    obtain rfl := hq
                                    have hnn18 := hW.nn
                                    refine k_if_ne (tgt := 1184) hx hb dL_law_1179 (by decide) (by omega) (fun c_19 => ?_) (fun c_19 => ?_)
                                    · skip
                                      refine lv_iinc (v := iI (i + 1)) (lv' := [(2, .int (iI (i + 1))), (8, .int (iI z8)), (7, .int (iI z7)), (6, .int (iI (M 13))), (5, .int (iI (M 12))), (4, .int (iI r_5)), (3, .int (iI r_4)), (1, .ref o), (0, .ref b)]) hx hb dL_law_1184 hl (k := 6) rfl (iI_add _ _) (by decide) rfl (fun ls hl => ?_)
                                      refine lv_goto (tgt := 56) hx hb dL_law_1187 (by decide) ?_
                                      exact ih56 (i + 1) M n_18 K_18 (cells + 12) (slots + 72) (by omega) (by omega) (by omega) (by omega) (by omega) H locs hW ls (lv_sub hl [0, 7, 8] rfl)
                                    · exfalso; omega
                                · skip
                                  refine lv_aload_n hx hb dL_law_1155 rfl (lv_at hl 7 rfl) ?_
                                  refine q_calls (As := []) (rest := []) ⟨hx, hb, hml, hown, hts⟩ hGX hA (k_matches l D cy o M n K ) glk_matches rfl ⟨rfl, rfl⟩ 1 rfl (by decide +kernel) ⟨Nat.le_of_ble_eq_true rfl, Nat.le_of_ble_eq_true rfl⟩ hW hl.1 rfl (Nat.le_of_ble_eq_true rfl) ⟨show cells + 12 ≤ 856056 by omega, show slots + 72 ≤ 6533457 by omega⟩ dL_law_1156 (fun r_20 M_20 n_20 K_20 H locs hp hW => ?_)
                                  have hp : 1 = r_20 ∧ M = M_20 ∧ n = n_20 ∧ K = K_20 := hp
                                  obtain ⟨rfl, hq⟩ := hp
                                  obtain ⟨rfl, rfl, rfl⟩ := hq
                                  refine k_if_eq (tgt := 1182) hx hb dL_law_1159 (by decide) (by omega) (fun c_21 => ?_) (fun c_21 => ?_)
                                  · exfalso; omega
                                  · skip
                                    refine lv_iload_n hx hb dL_law_1162 rfl (lv_at hl 6 rfl) ?_
                                    refine k_bipush hx hb dL_law_1163 (by decide +kernel) ?_
                                    refine k_irem hx hb dL_law_1165 (by omega) (by omega) ?_
                                    refine k_bipush hx hb dL_law_1166 (by decide +kernel) ?_
                                    refine k_icmp_ne (tgt := 1184) hx hb dL_law_1168 (by decide) (by omega) (by omega) (fun c_22 => ?_) (fun c_22 => ?_)
                                    · skip
                                      refine lv_iinc (v := iI (i + 1)) (lv' := [(2, .int (iI (i + 1))), (8, .int (iI z8)), (7, .int (iI z7)), (6, .int (iI (M 13))), (5, .int (iI (M 12))), (4, .int (iI r_5)), (3, .int (iI r_4)), (1, .ref o), (0, .ref b)]) hx hb dL_law_1184 hl (k := 6) rfl (iI_add _ _) (by decide) rfl (fun ls hl => ?_)
                                      refine lv_goto (tgt := 56) hx hb dL_law_1187 (by decide) ?_
                                      exact ih56 (i + 1) M n K (cells + 12) (slots + 72) (by omega) (by omega) (by omega) (by omega) (by omega) H locs hW ls (lv_sub hl [0, 7, 8] rfl)
                                    · skip
                                      refine lv_aload_n hx hb dL_law_1171 rfl (lv_at hl 7 rfl) ?_
                                      refine lv_iload hx hb dL_law_1172 (lv_at hl 4 rfl) ?_
                                      refine k_iconst hx hb dL_law_1174 ?_
                                      refine k_ishr hx hb dL_law_1175 (by omega) (by omega) ?_
                                      refine q_calls (As := [.int (iI (r_5 / 2 ^ (5 : Int).toNat))]) (rest := []) ⟨hx, hb, hml, hown, hts⟩ hGX hA (k_thoughts l D cy o M n K (r_5 / 2 ^ (5 : Int).toNat) ) glk_thoughts rfl ⟨rfl, rfl⟩ 2 rfl (by decide +kernel) ⟨Nat.le_of_ble_eq_true rfl, Nat.le_of_ble_eq_true rfl⟩ hW hl.1 rfl (Nat.le_of_ble_eq_true rfl) ⟨show cells + 12 ≤ 856056 by omega, show slots + 72 ≤ 6533457 by omega⟩ dL_law_1176 (fun r_23 M_23 n_23 K_23 H locs hp hW => ?_)
                                      have hp : 1 = r_23 ∧ M = M_23 := hp
                                      obtain ⟨rfl, hq⟩ := hp
                                      obtain rfl := hq
                                      have hnn23 := hW.nn
                                      refine k_if_ne (tgt := 1184) hx hb dL_law_1179 (by decide) (by omega) (fun c_24 => ?_) (fun c_24 => ?_)
                                      · skip
                                        refine lv_iinc (v := iI (i + 1)) (lv' := [(2, .int (iI (i + 1))), (8, .int (iI z8)), (7, .int (iI z7)), (6, .int (iI (M 13))), (5, .int (iI (M 12))), (4, .int (iI r_5)), (3, .int (iI r_4)), (1, .ref o), (0, .ref b)]) hx hb dL_law_1184 hl (k := 6) rfl (iI_add _ _) (by decide) rfl (fun ls hl => ?_)
                                        refine lv_goto (tgt := 56) hx hb dL_law_1187 (by decide) ?_
                                        exact ih56 (i + 1) M n_23 K_23 (cells + 12) (slots + 72) (by omega) (by omega) (by omega) (by omega) (by omega) H locs hW ls (lv_sub hl [0, 7, 8] rfl)
                                      · exfalso; omega
                            · skip
                              exact zc_searches C hk ⟨by omega, by omega⟩ M n K r_4 z8 z7 (by omega) (by omega) H locs hW ls (lv_sub hl [0, 1, 2, 3, 4, 5, 6, 7, 8] rfl)
                          · skip
                            exact zc_setPole C hk ⟨by omega, by omega⟩ M n K r_4 z8 z7 (by omega) (by omega) H locs hW ls (lv_sub hl [0, 1, 2, 3, 4, 5, 6, 7, 8] rfl)
                        · skip
                          exact zc_set C hk ⟨by omega, by omega⟩ M n K r_4 z8 z7 (by omega) (by omega) (by omega) H locs hW ls (lv_sub hl [0, 1, 2, 3, 4, 5, 6, 7, 8] rfl)
                      refine k_icmp_ne (tgt := 810) hx hb dL_law_719 (by decide) (by omega) (by omega) (fun c_25 => ?_) (fun c_25 => ?_)
                      · skip
                        exact join810   ls (lv_sub hl [0, 1, 2, 3, 4, 5, 6, 7, 8] rfl)
                      · skip
                        refine lv_iload hx hb dL_law_722 (lv_at hl 2 rfl) ?_
                        refine k_if_le (tgt := 810) hx hb dL_law_724 (by decide) (by omega) (fun c_26 => ?_) (fun c_26 => ?_)
                        · skip
                          exact join810   ls (lv_sub hl [0, 1, 2, 3, 4, 5, 6, 7, 8] rfl)
                        · skip
                          refine lv_iload hx hb dL_law_727 (lv_at hl 4 rfl) ?_
                          refine k_iconst hx hb dL_law_729 ?_
                          refine k_roS (As := [.int (iI r_5), .int (iI 3)]) (rest := []) ⟨hx, hb, hml, hown, hts⟩ (c_L_low l D r_5 3 (by omega)) gL_law_L_low rfl ⟨rfl, rfl⟩ 2 rfl (by decide +kernel) ⟨Nat.le_of_ble_eq_true rfl, Nat.le_of_ble_eq_true rfl⟩ kGT_ok trivial (fun k q h => by simp at h) hl.1 rfl (Nat.le_of_ble_eq_true rfl) ⟨show cells ≤ 856056 by omega, show slots ≤ 6533457 by omega⟩ dL_law_730 (fun r_27 hr_27 => ?_)
                          have hr_27 : r_27 = lwF r_5 3 := hr_27
                          subst hr_27
                          have hlw27 := lw_bd r_5 (show 0 < (3 : Int) by omega)
                          refine k_if_ne (tgt := 810) hx hb dL_law_733 (by decide) (by omega) (fun c_28 => ?_) (fun c_28 => ?_)
                          · skip
                            exact join810   ls (lv_sub hl [0, 1, 2, 3, 4, 5, 6, 7, 8] rfl)
                          · skip
                            exact zc_removeStar C hk ⟨by omega, by omega⟩ M n K r_4 z8 z7 (by omega) (by omega) (by omega) H locs hW ls (lv_sub hl [0, 1, 2, 3, 4, 5, 6, 7, 8] rfl)
                    refine k_icmp_ne (tgt := 716) hx hb dL_law_644 (by decide) (by omega) (by omega) (fun c_29 => ?_) (fun c_29 => ?_)
                    · skip
                      exact join716   ls (lv_sub hl [0, 1, 2, 3, 4, 5, 6, 7, 8] rfl)
                    · skip
                      refine lv_iload hx hb dL_law_647 (lv_at hl 4 rfl) ?_
                      refine k_iconst hx hb dL_law_649 ?_
                      refine k_roS (As := [.int (iI r_5), .int (iI 4)]) (rest := []) ⟨hx, hb, hml, hown, hts⟩ (c_L_low l D r_5 4 (by omega)) gL_law_L_low rfl ⟨rfl, rfl⟩ 2 rfl (by decide +kernel) ⟨Nat.le_of_ble_eq_true rfl, Nat.le_of_ble_eq_true rfl⟩ kGT_ok trivial (fun k q h => by simp at h) hl.1 rfl (Nat.le_of_ble_eq_true rfl) ⟨show cells ≤ 856056 by omega, show slots ≤ 6533457 by omega⟩ dL_law_650 (fun r_30 hr_30 => ?_)
                      have hr_30 : r_30 = lwF r_5 4 := hr_30
                      subst hr_30
                      have hlw30 := lw_bd r_5 (show 0 < (4 : Int) by omega)
                      refine k_if_ne (tgt := 716) hx hb dL_law_653 (by decide) (by omega) (fun c_31 => ?_) (fun c_31 => ?_)
                      · skip
                        exact join716   ls (lv_sub hl [0, 1, 2, 3, 4, 5, 6, 7, 8] rfl)
                      · skip
                        exact zc_removeTrail C hk ⟨by omega, by omega⟩ M n K r_4 z8 z7 (by omega) (by omega) (by omega) H locs hW ls (lv_sub hl [0, 1, 2, 3, 4, 5, 6, 7, 8] rfl)
                  · skip
                    exact zc_removePoint C hk ⟨by omega, by omega⟩ M n K r_4 z8 z7 (by omega) (by omega) (by omega) H locs hW ls (lv_sub hl [0, 1, 2, 3, 4, 5, 6, 7, 8] rfl)
                · skip
                  exact zc_addStar C hk ⟨by omega, by omega⟩ M n K r_4 z8 z7 (by omega) (by omega) H locs hW ls (lv_sub hl [0, 1, 2, 3, 4, 5, 6, 7, 8] rfl)
              refine k_icmp_eq (tgt := 199) hx hb dL_law_182 (by decide) (by omega) (by omega) (fun c_32 => ?_) (fun c_32 => ?_)
              · skip
                exact zc_addPoint C hk ⟨by omega, by omega⟩ M n K r_4 z8 z7 (by omega) (by omega) (by omega) H locs hW ls (lv_sub hl [0, 1, 2, 3, 4, 5, 6, 7, 8] rfl)
              · skip
                refine lv_iload hx hb dL_law_185 (lv_at hl 1 rfl) ?_
                refine k_bipush hx hb dL_law_187 (by decide +kernel) ?_
                refine k_icmp_le (tgt := 425) hx hb dL_law_189 (by decide) (by omega) (by omega) (fun c_33 => ?_) (fun c_33 => ?_)
                · skip
                  exact join425   ls (lv_sub hl [0, 1, 2, 3, 4, 5, 6, 7, 8] rfl)
                · skip
                  refine lv_iload hx hb dL_law_192 (lv_at hl 1 rfl) ?_
                  refine k_bipush hx hb dL_law_194 (by decide +kernel) ?_
                  refine k_icmp_ge (tgt := 425) hx hb dL_law_196 (by decide) (by omega) (by omega) (fun c_34 => ?_) (fun c_34 => ?_)
                  · skip
                    exact join425   ls (lv_sub hl [0, 1, 2, 3, 4, 5, 6, 7, 8] rfl)
                  · skip
                    exact zc_addPoint C hk ⟨by omega, by omega⟩ M n K r_4 z8 z7 (by omega) (by omega) (by omega) H locs hW ls (lv_sub hl [0, 1, 2, 3, 4, 5, 6, 7, 8] rfl)
            · skip
              exact zc_addTrail C hk ⟨by omega, by omega⟩ M n K r_4  H locs hW ls (lv_sub hl [2, 3, 4, 5, 6, 7, 8] rfl)
          refine k_if_ne (tgt := 141) hx hb dL_law_134 (by decide) (by omega) (fun c_35 => ?_) (fun c_35 => ?_)
          · skip
            refine lv_iload_n hx hb dL_law_141 rfl (lv_at hl 4 rfl) ?_
            refine k_iconst hx hb dL_law_142 ?_
            refine k_ishr hx hb dL_law_143 (by omega) (by omega) ?_
            refine lv_iload hx hb dL_law_144 (lv_at hl 2 rfl) ?_
            refine k_roS (As := [.int (iI (r_4 / 2 ^ (5 : Int).toNat)), .int (iI (M 12))]) (rest := []) ⟨hx, hb, hml, hown, hts⟩ (c_L_low l D (r_4 / 2 ^ (5 : Int).toNat) (M 12) (by omega)) gL_law_L_low rfl ⟨rfl, rfl⟩ 2 rfl (by decide +kernel) ⟨Nat.le_of_ble_eq_true rfl, Nat.le_of_ble_eq_true rfl⟩ kGT_ok trivial (fun k q h => by simp at h) hl.1 rfl (Nat.le_of_ble_eq_true rfl) ⟨show cells ≤ 856056 by omega, show slots ≤ 6533457 by omega⟩ dL_law_146 (fun r_36 hr_36 => ?_)
            have hr_36 : r_36 = lwF (r_4 / 2 ^ (5 : Int).toNat) (M 12) := hr_36
            subst hr_36
            have hlw36 := lw_bd (r_4 / 2 ^ (5 : Int).toNat) (show 0 < (M 12) by omega)
            exact join149 (lwF (r_4 / 2 ^ (5 : Int).toNat) (M 12)) (by omega) (by omega) ls (lv_sub hl [0, 1, 2, 3, 4, 5, 6, 7] rfl)
          · skip
            refine k_iconst hx hb dL_law_137 ?_
            refine lv_goto (tgt := 149) hx hb dL_law_138 (by decide) ?_
            exact join149 0 (by omega) (by omega) ls (lv_sub hl [0, 1, 2, 3, 4, 5, 6, 7] rfl)
        refine k_icmp_ge (tgt := 104) hx hb dL_law_97 (by decide) (by omega) (by omega) (fun c_37 => ?_) (fun c_37 => ?_)
        · skip
          refine lv_iload_n hx hb dL_law_104 rfl (lv_at hl 4 rfl) ?_
          refine k_bipush hx hb dL_law_105 (by decide +kernel) ?_
          refine k_icmp_ge (tgt := 114) hx hb dL_law_107 (by decide) (by omega) (by omega) (fun c_38 => ?_) (fun c_38 => ?_)
          · skip
            refine lv_iload_n hx hb dL_law_114 rfl (lv_at hl 4 rfl) ?_
            refine k_bipush hx hb dL_law_115 (by decide +kernel) ?_
            refine k_icmp_ge (tgt := 124) hx hb dL_law_117 (by decide) (by omega) (by omega) (fun c_39 => ?_) (fun c_39 => ?_)
            · skip
              refine lv_iload_n hx hb dL_law_124 rfl (lv_at hl 3 rfl) ?_
              refine k_bipush hx hb dL_law_125 (by decide +kernel) ?_
              refine k_roS (As := [.int (iI r_4), .int (iI 14)]) (rest := []) ⟨hx, hb, hml, hown, hts⟩ (c_L_low l D r_4 14 (by omega)) gL_law_L_low rfl ⟨rfl, rfl⟩ 2 rfl (by decide +kernel) ⟨Nat.le_of_ble_eq_true rfl, Nat.le_of_ble_eq_true rfl⟩ kGT_ok trivial (fun k q h => by simp at h) hl.1 rfl (Nat.le_of_ble_eq_true rfl) ⟨show cells ≤ 856056 by omega, show slots ≤ 6533457 by omega⟩ dL_law_127 (fun r_40 hr_40 => ?_)
              have hr_40 : r_40 = lwF r_4 14 := hr_40
              subst hr_40
              have hlw40 := lw_bd r_4 (show 0 < (14 : Int) by omega)
              exact join130 (lwF r_4 14) (by omega) (by omega) ls (lv_sub hl [0, 1, 2, 3, 4, 5, 6] rfl)
            · skip
              refine k_iconst hx hb dL_law_120 ?_
              refine lv_goto (tgt := 130) hx hb dL_law_121 (by decide) ?_
              exact join130 2 (by omega) (by omega) ls (lv_sub hl [0, 1, 2, 3, 4, 5, 6] rfl)
          · skip
            refine k_iconst hx hb dL_law_110 ?_
            refine lv_goto (tgt := 130) hx hb dL_law_111 (by decide) ?_
            exact join130 1 (by omega) (by omega) ls (lv_sub hl [0, 1, 2, 3, 4, 5, 6] rfl)
        · skip
          refine k_iconst hx hb dL_law_100 ?_
          refine lv_goto (tgt := 130) hx hb dL_law_101 (by decide) ?_
          exact join130 0 (by omega) (by omega) ls (lv_sub hl [0, 1, 2, 3, 4, 5, 6] rfl)
  exact loop56 ((44 - 0 : Int) + 1).toNat 0 M n K cells slots (by omega) (by omega) (by omega) (by omega) (by omega) H locs hW ls (lv_sub hl [0, 1, 2] rfl)
set_option maxHeartbeats 8000000 in
set_option maxRecDepth 100000 in
theorem z_begin {p : Program} {l : Launch} {e : Env} {s : State} {m : MethodId} {below : List Frame} {meth : Method} {c : Code} {b L : Nat} {xs : Nat → Int32} {D : va_G} {cy : Nat → ClassId} {Q : State → Prop} {o : Nat} (C : zC p l s m c b L xs D cy) {cells slots : Nat} (hret : ∀ (H : Heap) (locs : List Loc) (ls : Array Slot) (cells slots : Nat), cells ≤ 800000 ∧ slots ≤ 6000000 → va_S (fun q : Nat => s.heap.size ≤ q) s.heap H locs → W p l e room_1 s m #[Value.ref b] below meth c H locs cells slots Q (F0 m 1194 ls [.int (iI 1)])) (hc0 : cells ≤ 300 ∧ slots ≤ 11000) (M : Int → Int) (n : Int) (K : Nat → Int → Int) (hn0 : n = 0)   (H : Heap) (locs : List Loc) (hW : OW D cy (fun q : Nat => s.heap.size ≤ q) s.heap o M n K H locs) (ls : Array Slot) (hl : lv_has ls 15 [(1, .ref o), (0, .ref b)]) : W p l e room_1 s m #[Value.ref b] below meth c H locs cells slots Q (F0 m 8 ls []) := by
  obtain ⟨⟨hx, hb, hml, hown⟩, hts, ⟨hX, hbl, hL⟩, hGX, hst⟩ := id C
  have hA : ∀ q : Nat, s.heap.size ≤ q → (fun q : Nat => s.heap.size ≤ q) q := fun _ h => h
  have hI := hW.inv
  have hS12 := inv_S12 hI
  have hS0 := hI.1
  unfold InvS at hS0
  have hnn := hW.nn
  have hmw0 := hts (.constant RL 17 (-9020000)) (law_r1 _ (List.mem_of_getElem? (i := 3) rfl))
  refine lv_aload_n hx hb dL_law_8 rfl (lv_at hl 0 rfl) ?_
  refine q_calls (As := []) (rest := []) ⟨hx, hb, hml, hown, hts⟩ hGX hA (k_refuses l hst D cy o M n K ) glk_refuses rfl ⟨rfl, rfl⟩ 1 rfl (by decide +kernel) ⟨Nat.le_of_ble_eq_true rfl, Nat.le_of_ble_eq_true rfl⟩ hW hl.1 rfl (Nat.le_of_ble_eq_true rfl) ⟨show cells + 40 ≤ 856056 by omega, show slots + 240 ≤ 6533457 by omega⟩ dL_law_9 (fun r_1 M_1 n_1 K_1 H locs hp hW => ?_)
  have hp : 1 = r_1 ∧ M = M_1 ∧ n = n_1 ∧ K = K_1 := hp
  obtain ⟨rfl, hq⟩ := hp
  obtain ⟨rfl, rfl, rfl⟩ := hq
  refine k_if_eq (tgt := 52) hx hb dL_law_12 (by decide) (by omega) (fun c_2 => ?_) (fun c_2 => ?_)
  · exfalso; omega
  · skip
    refine lv_aload_n hx hb dL_law_15 rfl (lv_at hl 0 rfl) ?_
    refine q_call1 (As := []) (rest := []) ⟨hx, hb, hml, hown, hts⟩ hGX hA (k_undo_t l hst D cy o M n K (show n = 0 from hn0)) gL_law_L_undo rfl ⟨rfl, rfl⟩ 1 rfl (by decide +kernel) ⟨Nat.le_of_ble_eq_true rfl, Nat.le_of_ble_eq_true rfl⟩ hW hl.1 rfl (Nat.le_of_ble_eq_true rfl) ⟨show cells + 41 ≤ 856056 by omega, show slots + 246 ≤ 6533457 by omega⟩ dL_law_16 (fun r_3 M_3 n_3 K_3 H locs hp hW => ?_)
    obtain ⟨rfl, rfl, rfl, rfl⟩ := hp
    refine k_ldc (z := (-9020000)) hx hb hown hmw0 (by decide +kernel) dL_law_19 ?_
    refine k_icmp_ne (tgt := 52) hx hb dL_law_21 (by decide) (by omega) (by omega) (fun c_4 => ?_) (fun c_4 => ?_)
    · exfalso; omega
    · skip
      refine lv_aload_n hx hb dL_law_24 rfl (lv_at hl 0 rfl) ?_
      refine q_calls (As := []) (rest := []) ⟨hx, hb, hml, hown, hts⟩ hGX hA (k_trails l hst D cy o M n K ) glk_trails rfl ⟨rfl, rfl⟩ 1 rfl (by decide +kernel) ⟨Nat.le_of_ble_eq_true rfl, Nat.le_of_ble_eq_true rfl⟩ hW hl.1 rfl (Nat.le_of_ble_eq_true rfl) ⟨show cells + 53 ≤ 856056 by omega, show slots + 318 ≤ 6533457 by omega⟩ dL_law_25 (fun r_5 M_5 n_5 K_5 H locs hp hW => ?_)
      have hp : 1 = r_5 ∧ M = M_5 ∧ n = n_5 ∧ K = K_5 := hp
      obtain ⟨rfl, hq⟩ := hp
      obtain ⟨rfl, rfl, rfl⟩ := hq
      refine k_if_eq (tgt := 52) hx hb dL_law_28 (by decide) (by omega) (fun c_6 => ?_) (fun c_6 => ?_)
      · exfalso; omega
      · skip
        refine lv_aload_n hx hb dL_law_31 rfl (lv_at hl 0 rfl) ?_
        refine q_calls (As := []) (rest := []) ⟨hx, hb, hml, hown, hts⟩ hGX hA (k_matches l D cy o M n K ) glk_matches rfl ⟨rfl, rfl⟩ 1 rfl (by decide +kernel) ⟨Nat.le_of_ble_eq_true rfl, Nat.le_of_ble_eq_true rfl⟩ hW hl.1 rfl (Nat.le_of_ble_eq_true rfl) ⟨show cells + 53 ≤ 856056 by omega, show slots + 318 ≤ 6533457 by omega⟩ dL_law_32 (fun r_7 M_7 n_7 K_7 H locs hp hW => ?_)
        have hp : 1 = r_7 ∧ M = M_7 ∧ n = n_7 ∧ K = K_7 := hp
        obtain ⟨rfl, hq⟩ := hp
        obtain ⟨rfl, rfl, rfl⟩ := hq
        refine k_if_eq (tgt := 52) hx hb dL_law_35 (by decide) (by omega) (fun c_8 => ?_) (fun c_8 => ?_)
        · exfalso; omega
        · skip
          refine lv_aload_n hx hb dL_law_38 rfl (lv_at hl 0 rfl) ?_
          refine qv_runCommands ⟨hx, hb, hml, hown, hts⟩ hGX hA gL_law_X6_runCommands ⟨Nat.le_of_ble_eq_true rfl, Nat.le_of_ble_eq_true rfl⟩ hW hl.1 (Nat.le_of_ble_eq_true rfl) ⟨show cells + 53 ≤ 856056 by omega, show slots + 318 ≤ 6533457 by omega⟩ dL_law_39 (fun H locs hW => ?_)
          have hkp9 := kp_spec n
          refine k_if_ne (tgt := 52) hx hb dL_law_42 (by decide) (by omega) (fun c_10 => ?_) (fun c_10 => ?_)
          · exfalso; omega
          · skip
            refine lv_aload_n hx hb dL_law_45 rfl (lv_at hl 0 rfl) ?_
            refine q_call0 (As := []) (rest := []) ⟨hx, hb, hml, hown, hts⟩ hGX hA (k_undo l D cy o M (kpN n) (csF M K) (show 0 < (kpN n) from by omega)) gL_law_L_undo rfl ⟨rfl, rfl⟩ 1 rfl (by decide +kernel) ⟨Nat.le_of_ble_eq_true rfl, Nat.le_of_ble_eq_true rfl⟩ hW hl.1 rfl (Nat.le_of_ble_eq_true rfl) ⟨show cells + 53 ≤ 856056 by omega, show slots + 318 ≤ 6533457 by omega⟩ dL_law_46 (fun r_11 M_11 n_11 K_11 H locs hp hW => ?_)
            obtain ⟨rfl, hM11, rfl, hK11⟩ := hp
            have hM11 : M = M_11 := hM11
            subst hM11
            have hK11 : K = K_11 := hK11
            subst hK11
            refine k_if_eq (tgt := 54) hx hb dL_law_49 (by decide) (by omega) (fun c_12 => ?_) (fun c_12 => ?_)
            · skip
              refine k_iconst hx hb dL_law_54 ?_
              refine lv_istore_n (lv' := [(2, .int (iI 0)), (1, .ref o), (0, .ref b)]) hx hb dL_law_55 rfl hl (by decide) rfl (fun ls hl => ?_)
              exact z_loop C hret ⟨by omega, by omega⟩ M ((kpN n) - 1) K H locs hW ls (lv_sub hl [0, 1, 2] rfl)
            · exfalso; omega
