/-! more of the rounds -/
set_option maxHeartbeats 8000000 in
set_option maxRecDepth 100000 in
theorem zc_addStar {p : Program} {l : Launch} {e : Env} {s : State} {m : MethodId} {below : List Frame} {meth : Method} {c : Code} {b L : Nat} {xs : Nat → Int32} {D : va_G} {cy : Nat → ClassId} {Q : State → Prop} {o : Nat} (C : zC p l s m c b L xs D cy) {i y : Int} {cells slots : Nat} (hk : zK p l e s m below meth c b D cy Q o i y (cells + 60) (slots + 360)) (hroom : cells + 60 ≤ 800000 ∧ slots + 360 ≤ 6000000) (M : Int → Int) (n : Int) (K : Nat → Int → Int) (x t w7 : Int)  (hry : -2147483648 ≤ y ∧ y ≤ 2147483647) (h12 : 1 ≤ M 12) (H : Heap) (locs : List Loc) (hW : OW D cy (fun q : Nat => s.heap.size ≤ q) s.heap o M n K H locs) (ls : Array Slot) (hl : lv_has ls 15 [(8, .int (iI t)), (7, .int (iI w7)), (6, .int (iI (M 13))), (5, .int (iI (M 12))), (4, .int (iI y)), (3, .int (iI x)), (2, .int (iI i)), (1, .ref o), (0, .ref b)]) : W p l e room_1 s m #[Value.ref b] below meth c H locs cells slots Q (F0 m 431 ls []) := by
  obtain ⟨⟨hx, hb, hml, hown⟩, hts, ⟨hX, hbl, hL⟩, hGX, hst⟩ := id C
  have hA : ∀ q : Nat, s.heap.size ≤ q → (fun q : Nat => s.heap.size ≤ q) q := fun _ h => h
  have hI := hW.inv
  have hS12 := inv_S12 hI
  have hS0 := hI.1
  unfold InvS at hS0
  have hnn := hW.nn
  have hmw0 := hts (.constant RL 101 (360000)) (law_r1 _ (List.mem_of_getElem? (i := 4) rfl))
  have hmw1 := hts (.constant RL 17 (-9020000)) (law_r1 _ (List.mem_of_getElem? (i := 3) rfl))
  refine k_iconst hx hb dL_law_431 ?_
  refine lv_iload hx hb dL_law_432 (lv_at hl 4 rfl) ?_
  refine k_sipush hx hb dL_law_434 (by decide +kernel) ?_
  refine k_roS (As := [.int (iI y), .int (iI 400)]) (rest := [.int (iI 1)]) ⟨hx, hb, hml, hown, hts⟩ (c_L_low l D y 400 (by omega)) gL_law_L_low rfl ⟨rfl, rfl⟩ 2 rfl (by decide +kernel) ⟨Nat.le_of_ble_eq_true rfl, Nat.le_of_ble_eq_true rfl⟩ kGT_ok trivial (fun k q h => by simp at h) hl.1 rfl (Nat.le_of_ble_eq_true rfl) ⟨show cells ≤ 856056 by omega, show slots ≤ 6533457 by omega⟩ dL_law_437 (fun r_1 hr_1 => ?_)
  have hr_1 : r_1 = lwF y 400 := hr_1
  subst hr_1
  have hlw1 := lw_bd y (show 0 < (400 : Int) by omega)
  refine k_iadd hx hb dL_law_440 ?_
  refine lv_istore (lv' := [(9, .int (iI (1 + (lwF y 400)))), (8, .int (iI t)), (7, .int (iI w7)), (6, .int (iI (M 13))), (5, .int (iI (M 12))), (4, .int (iI y)), (3, .int (iI x)), (2, .int (iI i)), (1, .ref o), (0, .ref b)]) hx hb dL_law_441 hl (by decide) rfl (fun ls hl => ?_)
  refine lv_iload hx hb dL_law_443 (lv_at hl 5 rfl) ?_
  refine k_iconst hx hb dL_law_445 ?_
  refine k_ishr hx hb dL_law_446 (by omega) (by omega) ?_
  refine k_ldc (z := 360000) hx hb hown hmw0 (by decide +kernel) dL_law_447 ?_
  refine k_roS (As := [.int (iI (y / 2 ^ (4 : Int).toNat)), .int (iI 360000)]) (rest := []) ⟨hx, hb, hml, hown, hts⟩ (c_L_low l D (y / 2 ^ (4 : Int).toNat) 360000 (by omega)) gL_law_L_low rfl ⟨rfl, rfl⟩ 2 rfl (by decide +kernel) ⟨Nat.le_of_ble_eq_true rfl, Nat.le_of_ble_eq_true rfl⟩ kGT_ok trivial (fun k q h => by simp at h) hl.1 rfl (Nat.le_of_ble_eq_true rfl) ⟨show cells ≤ 856056 by omega, show slots ≤ 6533457 by omega⟩ dL_law_449 (fun r_2 hr_2 => ?_)
  have hr_2 : r_2 = lwF (y / 2 ^ (4 : Int).toNat) 360000 := hr_2
  subst hr_2
  have hlw2 := lw_bd (y / 2 ^ (4 : Int).toNat) (show 0 < (360000 : Int) by omega)
  refine lv_istore (lv' := [(10, .int (iI (lwF (y / 2 ^ (4 : Int).toNat) 360000))), (9, .int (iI (1 + (lwF y 400)))), (8, .int (iI t)), (7, .int (iI w7)), (6, .int (iI (M 13))), (5, .int (iI (M 12))), (4, .int (iI y)), (3, .int (iI x)), (2, .int (iI i)), (1, .ref o), (0, .ref b)]) hx hb dL_law_452 hl (by decide) rfl (fun ls hl => ?_)
  refine lv_aload_n hx hb dL_law_454 rfl (lv_at hl 9 rfl) ?_
  refine lv_iload hx hb dL_law_455 (lv_at hl 1 rfl) ?_
  refine lv_iload hx hb dL_law_457 (lv_at hl 0 rfl) ?_
  refine lv_iload hx hb dL_law_459 (lv_at hl 6 rfl) ?_
  refine k_bipush hx hb dL_law_461 (by decide +kernel) ?_
  refine k_ishr hx hb dL_law_463 (by omega) (by omega) ?_
  refine k_bipush hx hb dL_law_464 (by decide +kernel) ?_
  refine k_roS (As := [.int (iI (y / 2 ^ (9 : Int).toNat)), .int (iI 10)]) (rest := [.int (iI (lwF (y / 2 ^ (4 : Int).toNat) 360000)), .int (iI (1 + (lwF y 400))), .ref o]) ⟨hx, hb, hml, hown, hts⟩ (c_L_low l D (y / 2 ^ (9 : Int).toNat) 10 (by omega)) gL_law_L_low rfl ⟨rfl, rfl⟩ 2 rfl (by decide +kernel) ⟨Nat.le_of_ble_eq_true rfl, Nat.le_of_ble_eq_true rfl⟩ kGT_ok trivial (fun k q h => by simp at h) hl.1 rfl (Nat.le_of_ble_eq_true rfl) ⟨show cells ≤ 856056 by omega, show slots ≤ 6533457 by omega⟩ dL_law_466 (fun r_3 hr_3 => ?_)
  have hr_3 : r_3 = lwF (y / 2 ^ (9 : Int).toNat) 10 := hr_3
  subst hr_3
  have hlw3 := lw_bd (y / 2 ^ (9 : Int).toNat) (show 0 < (10 : Int) by omega)
  by_cases c_4 : M 13 < 12
  · skip
    have hc9 := c_4
    refine q_call0 (As := [.int (iI (1 + (lwF y 400))), .int (iI (lwF (y / 2 ^ (4 : Int).toNat) 360000)), .int (iI (lwF (y / 2 ^ (9 : Int).toNat) 10))]) (rest := []) ⟨hx, hb, hml, hown, hts⟩ hGX hA (k_addStar l D cy o M n K (1 + (lwF y 400)) (lwF (y / 2 ^ (4 : Int).toNat) 360000) (lwF (y / 2 ^ (9 : Int).toNat) 10) (show starOK (1 + (lwF y 400)) (lwF (y / 2 ^ (4 : Int).toNat) 360000) (lwF (y / 2 ^ (9 : Int).toNat) 10) from ⟨⟨by omega, by omega⟩, ⟨by omega, by omega⟩, by omega, by omega⟩) (show M 13 < 12 from hc9)) gL_law_L_addStar rfl ⟨rfl, rfl⟩ 4 rfl (by decide +kernel) ⟨Nat.le_of_ble_eq_true rfl, Nat.le_of_ble_eq_true rfl⟩ hW hl.1 rfl (Nat.le_of_ble_eq_true rfl) ⟨show cells ≤ 856056 by omega, show slots ≤ 6533457 by omega⟩ dL_law_469 (fun r_5 M_5 n_5 K_5 H locs hp hW => ?_)
    obtain ⟨rfl, hM5, rfl, rfl⟩ := hp
    have hkp5 := kp_spec n
    have hI5 := hW.inv
    have hla := as_law hI hM5
    refine lv_istore (lv' := [(11, .int (iI (M 13))), (10, .int (iI (lwF (y / 2 ^ (4 : Int).toNat) 360000))), (9, .int (iI (1 + (lwF y 400)))), (8, .int (iI t)), (7, .int (iI w7)), (6, .int (iI (M 13))), (5, .int (iI (M 12))), (4, .int (iI y)), (3, .int (iI x)), (2, .int (iI i)), (1, .ref o), (0, .ref b)]) hx hb dL_law_472 hl (by decide) rfl (fun ls hl => ?_)
    refine lv_iload hx hb dL_law_474 (lv_at hl 0 rfl) ?_
    refine lv_iload hx hb dL_law_476 (lv_at hl 5 rfl) ?_
    refine k_bipush hx hb dL_law_478 (by decide +kernel) ?_
    refine k_icmp_ne (tgt := 488) hx hb dL_law_480 (by decide) (by omega) (by omega) (fun c_6 => ?_) (fun c_6 => ?_)
    · skip
      refine lv_iload hx hb dL_law_488 (lv_at hl 5 rfl) ?_
      refine k_icmp_ne (tgt := 542) hx hb dL_law_490 (by decide) (by omega) (by omega) (fun c_7 => ?_) (fun c_7 => ?_)
      · exfalso; omega
      · skip
        refine lv_iload hx hb dL_law_493 (lv_at hl 0 rfl) ?_
        refine k_if_lt (tgt := 544) hx hb dL_law_495 (by decide) (by omega) (fun c_8 => ?_) (fun c_8 => ?_)
        · exfalso; omega
        · skip
          refine lv_aload_n hx hb dL_law_498 rfl (lv_at hl 10 rfl) ?_
          refine lv_iload hx hb dL_law_499 (lv_at hl 0 rfl) ?_
          refine k_iconst hx hb dL_law_501 ?_
          refine q_call0 (As := [.int (iI (M 13)), .int (iI 0)]) (rest := []) ⟨hx, hb, hml, hown, hts⟩ hGX hA (ck_ans (k_star l D cy o M_5 (kpN n) (csF M K) (M 13) 0 (show 0 ≤ (M 13) from by omega) (show (M 13) < M_5 13 from by omega) (show 0 ≤ (0 : Int) ∧ (0 : Int) ≤ 6 from by omega)) (show stW M_5 (M 13) (0 : Int) = 1 + lwF y 400 from by rw [st_0]; exact hla.2.1)) gL_law_L_star rfl ⟨rfl, rfl⟩ 3 rfl (by decide +kernel) ⟨Nat.le_of_ble_eq_true rfl, Nat.le_of_ble_eq_true rfl⟩ hW hl.1 rfl (Nat.le_of_ble_eq_true rfl) ⟨show cells ≤ 856056 by omega, show slots ≤ 6533457 by omega⟩ dL_law_502 (fun r_9 M_9 n_9 K_9 H locs hp hW => ?_)
          obtain ⟨rfl, rfl, rfl, rfl⟩ := hp
          refine lv_iload hx hb dL_law_505 (lv_at hl 2 rfl) ?_
          refine k_icmp_ne (tgt := 542) hx hb dL_law_507 (by decide) (by omega) (by omega) (fun c_10 => ?_) (fun c_10 => ?_)
          · exfalso; omega
          · skip
            refine lv_aload_n hx hb dL_law_510 rfl (lv_at hl 10 rfl) ?_
            refine lv_iload hx hb dL_law_511 (lv_at hl 0 rfl) ?_
            refine k_iconst hx hb dL_law_513 ?_
            refine q_call0 (As := [.int (iI (M 13)), .int (iI 1)]) (rest := []) ⟨hx, hb, hml, hown, hts⟩ hGX hA (ck_ans (k_star l D cy o M_5 (kpN n) (csF M K) (M 13) 1 (show 0 ≤ (M 13) from by omega) (show (M 13) < M_5 13 from by omega) (show 0 ≤ (1 : Int) ∧ (1 : Int) ≤ 6 from by omega)) (show stW M_5 (M 13) (1 : Int) = lwF (y / 2 ^ (4 : Int).toNat) 360000 from by rw [st_1]; exact hla.2.2.1)) gL_law_L_star rfl ⟨rfl, rfl⟩ 3 rfl (by decide +kernel) ⟨Nat.le_of_ble_eq_true rfl, Nat.le_of_ble_eq_true rfl⟩ hW hl.1 rfl (Nat.le_of_ble_eq_true rfl) ⟨show cells ≤ 856056 by omega, show slots ≤ 6533457 by omega⟩ dL_law_514 (fun r_11 M_11 n_11 K_11 H locs hp hW => ?_)
            obtain ⟨rfl, rfl, rfl, rfl⟩ := hp
            refine lv_iload hx hb dL_law_517 (lv_at hl 1 rfl) ?_
            refine k_icmp_ne (tgt := 542) hx hb dL_law_519 (by decide) (by omega) (by omega) (fun c_12 => ?_) (fun c_12 => ?_)
            · exfalso; omega
            · skip
              refine lv_aload_n hx hb dL_law_522 rfl (lv_at hl 10 rfl) ?_
              refine lv_iload hx hb dL_law_523 (lv_at hl 0 rfl) ?_
              refine k_iconst hx hb dL_law_525 ?_
              refine q_call0 (As := [.int (iI (M 13)), .int (iI 2)]) (rest := []) ⟨hx, hb, hml, hown, hts⟩ hGX hA (ck_ans (k_star l D cy o M_5 (kpN n) (csF M K) (M 13) 2 (show 0 ≤ (M 13) from by omega) (show (M 13) < M_5 13 from by omega) (show 0 ≤ (2 : Int) ∧ (2 : Int) ≤ 6 from by omega)) (show stW M_5 (M 13) (2 : Int) = lwF (y / 2 ^ (9 : Int).toNat) 10 from by rw [st_2]; exact hla.2.2.2)) gL_law_L_star rfl ⟨rfl, rfl⟩ 3 rfl (by decide +kernel) ⟨Nat.le_of_ble_eq_true rfl, Nat.le_of_ble_eq_true rfl⟩ hW hl.1 rfl (Nat.le_of_ble_eq_true rfl) ⟨show cells ≤ 856056 by omega, show slots ≤ 6533457 by omega⟩ dL_law_526 (fun r_13 M_13 n_13 K_13 H locs hp hW => ?_)
              obtain ⟨rfl, rfl, rfl, rfl⟩ := hp
              refine lv_iload hx hb dL_law_529 (lv_at hl 7 rfl) ?_
              refine k_bipush hx hb dL_law_531 (by decide +kernel) ?_
              refine k_ishr hx hb dL_law_533 (by omega) (by omega) ?_
              refine k_bipush hx hb dL_law_534 (by decide +kernel) ?_
              refine k_roS (As := [.int (iI (y / 2 ^ (9 : Int).toNat)), .int (iI 10)]) (rest := [.int (iI (lwF (y / 2 ^ (9 : Int).toNat) 10))]) ⟨hx, hb, hml, hown, hts⟩ (c_L_low l D (y / 2 ^ (9 : Int).toNat) 10 (by omega)) gL_law_L_low rfl ⟨rfl, rfl⟩ 2 rfl (by decide +kernel) ⟨Nat.le_of_ble_eq_true rfl, Nat.le_of_ble_eq_true rfl⟩ kGT_ok trivial (fun k q h => by simp at h) hl.1 rfl (Nat.le_of_ble_eq_true rfl) ⟨show cells ≤ 856056 by omega, show slots ≤ 6533457 by omega⟩ dL_law_536 (fun r_14 hr_14 => ?_)
              have hr_14 : r_14 = lwF (y / 2 ^ (9 : Int).toNat) 10 := hr_14
              subst hr_14
              have hlw14 := lw_bd (y / 2 ^ (9 : Int).toNat) (show 0 < (10 : Int) by omega)
              refine k_icmp_eq (tgt := 544) hx hb dL_law_539 (by decide) (by omega) (by omega) (fun c_15 => ?_) (fun c_15 => ?_)
              · skip
                refine lv_goto (tgt := 1141) hx hb dL_law_544 (by decide) ?_
                exact hk M_5 (kpN n) (csF M K) cells slots (by omega) (by omega) H locs hW ls (lv_sub hl [7, 9, 10, 11] rfl)
              · exfalso; omega
    · exfalso; omega
  · skip
    refine q_call1 (As := [.int (iI (1 + (lwF y 400))), .int (iI (lwF (y / 2 ^ (4 : Int).toNat) 360000)), .int (iI (lwF (y / 2 ^ (9 : Int).toNat) 10))]) (rest := []) ⟨hx, hb, hml, hown, hts⟩ hGX hA (k_addStar_t3 l hst D cy o M n K (1 + (lwF y 400)) (lwF (y / 2 ^ (4 : Int).toNat) 360000) (lwF (y / 2 ^ (9 : Int).toNat) 10) (show starOK (1 + (lwF y 400)) (lwF (y / 2 ^ (4 : Int).toNat) 360000) (lwF (y / 2 ^ (9 : Int).toNat) 10) from ⟨⟨by omega, by omega⟩, ⟨by omega, by omega⟩, by omega, by omega⟩) (show M 13 = 12 from by omega)) gL_law_L_addStar rfl ⟨rfl, rfl⟩ 4 rfl (by decide +kernel) ⟨Nat.le_of_ble_eq_true rfl, Nat.le_of_ble_eq_true rfl⟩ hW hl.1 rfl (Nat.le_of_ble_eq_true rfl) ⟨show cells + 1 ≤ 856056 by omega, show slots + 6 ≤ 6533457 by omega⟩ dL_law_469 (fun r_16 M_16 n_16 K_16 H locs hp hW => ?_)
    obtain ⟨rfl, rfl, rfl, rfl⟩ := hp
    refine lv_istore (lv' := [(11, .int (iI (-9020000))), (10, .int (iI (lwF (y / 2 ^ (4 : Int).toNat) 360000))), (9, .int (iI (1 + (lwF y 400)))), (8, .int (iI t)), (7, .int (iI w7)), (6, .int (iI (M 13))), (5, .int (iI (M 12))), (4, .int (iI y)), (3, .int (iI x)), (2, .int (iI i)), (1, .ref o), (0, .ref b)]) hx hb dL_law_472 hl (by decide) rfl (fun ls hl => ?_)
    refine lv_iload hx hb dL_law_474 (lv_at hl 0 rfl) ?_
    refine lv_iload hx hb dL_law_476 (lv_at hl 5 rfl) ?_
    refine k_bipush hx hb dL_law_478 (by decide +kernel) ?_
    refine k_icmp_ne (tgt := 488) hx hb dL_law_480 (by decide) (by omega) (by omega) (fun c_17 => ?_) (fun c_17 => ?_)
    · exfalso; omega
    · skip
      refine k_ldc (z := (-9020000)) hx hb hown hmw1 (by decide +kernel) dL_law_483 ?_
      refine lv_goto (tgt := 490) hx hb dL_law_485 (by decide) ?_
      refine k_icmp_ne (tgt := 542) hx hb dL_law_490 (by decide) (by omega) (by omega) (fun c_18 => ?_) (fun c_18 => ?_)
      · exfalso; omega
      · skip
        refine lv_iload hx hb dL_law_493 (lv_at hl 0 rfl) ?_
        refine k_if_lt (tgt := 544) hx hb dL_law_495 (by decide) (by omega) (fun c_19 => ?_) (fun c_19 => ?_)
        · skip
          refine lv_goto (tgt := 1141) hx hb dL_law_544 (by decide) ?_
          exact hk M n K (cells + 1) (slots + 6) (by omega) (by omega) H locs hW ls (lv_sub hl [7, 9, 10, 11] rfl)
        · exfalso; omega
set_option maxHeartbeats 8000000 in
set_option maxRecDepth 100000 in
theorem zc_removePoint {p : Program} {l : Launch} {e : Env} {s : State} {m : MethodId} {below : List Frame} {meth : Method} {c : Code} {b L : Nat} {xs : Nat → Int32} {D : va_G} {cy : Nat → ClassId} {Q : State → Prop} {o : Nat} (C : zC p l s m c b L xs D cy) {i y : Int} {cells slots : Nat} (hk : zK p l e s m below meth c b D cy Q o i y (cells + 60) (slots + 360)) (hroom : cells + 60 ≤ 800000 ∧ slots + 360 ≤ 6000000) (M : Int → Int) (n : Int) (K : Nat → Int → Int) (x t w7 : Int)  (hry : -2147483648 ≤ y ∧ y ≤ 2147483647) (ht0 : 0 ≤ t) (ht1 : t < M 12) (H : Heap) (locs : List Loc) (hW : OW D cy (fun q : Nat => s.heap.size ≤ q) s.heap o M n K H locs) (ls : Array Slot) (hl : lv_has ls 15 [(8, .int (iI t)), (7, .int (iI w7)), (6, .int (iI (M 13))), (5, .int (iI (M 12))), (4, .int (iI y)), (3, .int (iI x)), (2, .int (iI i)), (1, .ref o), (0, .ref b)]) : W p l e room_1 s m #[Value.ref b] below meth c H locs cells slots Q (F0 m 553 ls []) := by
  obtain ⟨⟨hx, hb, hml, hown⟩, hts, ⟨hX, hbl, hL⟩, hGX, hst⟩ := id C
  have hA : ∀ q : Nat, s.heap.size ≤ q → (fun q : Nat => s.heap.size ≤ q) q := fun _ h => h
  have hI := hW.inv
  have hS12 := inv_S12 hI
  have hS0 := hI.1
  unfold InvS at hS0
  have hnn := hW.nn
  have hpt := inv_pts hI ht0 ht1
  have hmw0 := hts (.constant RL 24 (-9030000)) (law_r1 _ (List.mem_of_getElem? (i := 5) rfl))
  refine lv_iload hx hb dL_law_553 (lv_at hl 4 rfl) ?_
  refine k_iconst hx hb dL_law_555 ?_
  refine k_roS (As := [.int (iI y), .int (iI 4)]) (rest := []) ⟨hx, hb, hml, hown, hts⟩ (c_L_low l D y 4 (by omega)) gL_law_L_low rfl ⟨rfl, rfl⟩ 2 rfl (by decide +kernel) ⟨Nat.le_of_ble_eq_true rfl, Nat.le_of_ble_eq_true rfl⟩ kGT_ok trivial (fun k q h => by simp at h) hl.1 rfl (Nat.le_of_ble_eq_true rfl) ⟨show cells ≤ 856056 by omega, show slots ≤ 6533457 by omega⟩ dL_law_556 (fun r_1 hr_1 => ?_)
  have hr_1 : r_1 = lwF y 4 := hr_1
  subst hr_1
  have hlw1 := lw_bd y (show 0 < (4 : Int) by omega)
  refine lv_istore (lv' := [(9, .int (iI (lwF y 4))), (8, .int (iI t)), (7, .int (iI w7)), (6, .int (iI (M 13))), (5, .int (iI (M 12))), (4, .int (iI y)), (3, .int (iI x)), (2, .int (iI i)), (1, .ref o), (0, .ref b)]) hx hb dL_law_559 hl (by decide) rfl (fun ls hl => ?_)
  refine lv_aload_n hx hb dL_law_561 rfl (lv_at hl 8 rfl) ?_
  refine lv_iload hx hb dL_law_562 (lv_at hl 1 rfl) ?_
  refine k_iconst hx hb dL_law_564 ?_
  refine q_call0 (As := [.int (iI t), .int (iI 0)]) (rest := []) ⟨hx, hb, hml, hown, hts⟩ hGX hA (ck_ans (k_trail l D cy o M n K t 0 (show 0 ≤ t from by omega) (show t < M 12 from by omega) (show 0 ≤ (0 : Int) ∧ (0 : Int) ≤ 8 from by omega)) (show trV M (mat M (M 8)).1 t (0 : Int) = pts M t from tr_0 M _ t)) gL_law_L_trail rfl ⟨rfl, rfl⟩ 3 rfl (by decide +kernel) ⟨Nat.le_of_ble_eq_true rfl, Nat.le_of_ble_eq_true rfl⟩ hW hl.1 rfl (Nat.le_of_ble_eq_true rfl) ⟨show cells ≤ 856056 by omega, show slots ≤ 6533457 by omega⟩ dL_law_565 (fun r_2 M_2 n_2 K_2 H locs hp hW => ?_)
  obtain ⟨rfl, rfl, rfl, rfl⟩ := hp
  refine lv_istore (lv' := [(10, .int (iI (pts M t))), (9, .int (iI (lwF y 4))), (8, .int (iI t)), (7, .int (iI w7)), (6, .int (iI (M 13))), (5, .int (iI (M 12))), (4, .int (iI y)), (3, .int (iI x)), (2, .int (iI i)), (1, .ref o), (0, .ref b)]) hx hb dL_law_568 hl (by decide) rfl (fun ls hl => ?_)
  refine lv_aload_n hx hb dL_law_570 rfl (lv_at hl 9 rfl) ?_
  refine lv_iload hx hb dL_law_571 (lv_at hl 2 rfl) ?_
  refine lv_iload hx hb dL_law_573 (lv_at hl 1 rfl) ?_
  by_cases c_3 : lwF y 4 < pts M t
  · skip
    refine q_call0 (As := [.int (iI t), .int (iI (lwF y 4))]) (rest := []) ⟨hx, hb, hml, hown, hts⟩ hGX hA (k_removePoint l D cy o M n K t (lwF y 4) (show 0 ≤ t from by omega) (show t < M 12 from by omega) (show 0 ≤ (lwF y 4) from by omega) (show (lwF y 4) < pts M t from by omega)) gL_law_L_removePoint rfl ⟨rfl, rfl⟩ 3 rfl (by decide +kernel) ⟨Nat.le_of_ble_eq_true rfl, Nat.le_of_ble_eq_true rfl⟩ hW hl.1 rfl (Nat.le_of_ble_eq_true rfl) ⟨show cells ≤ 856056 by omega, show slots ≤ 6533457 by omega⟩ dL_law_575 (fun r_4 M_4 n_4 K_4 H locs hp hW => ?_)
    obtain ⟨rfl, hM4, rfl, rfl⟩ := hp
    have hkp4 := kp_spec n
    have hI4 := hW.inv
    have hla := rp_law ht0 (show 0 ≤ lwF y 4 by omega) hM4
    refine lv_istore (lv' := [(11, .int (iI (pts M t - 1))), (10, .int (iI (pts M t))), (9, .int (iI (lwF y 4))), (8, .int (iI t)), (7, .int (iI w7)), (6, .int (iI (M 13))), (5, .int (iI (M 12))), (4, .int (iI y)), (3, .int (iI x)), (2, .int (iI i)), (1, .ref o), (0, .ref b)]) hx hb dL_law_578 hl (by decide) rfl (fun ls hl => ?_)
    refine lv_iload hx hb dL_law_580 (lv_at hl 0 rfl) ?_
    refine lv_iload hx hb dL_law_582 (lv_at hl 2 rfl) ?_
    refine lv_iload hx hb dL_law_584 (lv_at hl 1 rfl) ?_
    refine k_icmp_ge (tgt := 596) hx hb dL_law_586 (by decide) (by omega) (by omega) (fun c_5 => ?_) (fun c_5 => ?_)
    · exfalso; omega
    · skip
      refine lv_iload hx hb dL_law_589 (lv_at hl 1 rfl) ?_
      refine k_iconst hx hb dL_law_591 ?_
      refine k_isub hx hb dL_law_592 ?_
      refine lv_goto (tgt := 598) hx hb dL_law_593 (by decide) ?_
      refine k_icmp_ne (tgt := 636) hx hb dL_law_598 (by decide) (by omega) (by omega) (fun c_6 => ?_) (fun c_6 => ?_)
      · exfalso; omega
      · skip
        refine lv_iload hx hb dL_law_601 (lv_at hl 7 rfl) ?_
        refine k_iconst hx hb dL_law_603 ?_
        refine k_ishr hx hb dL_law_604 (by omega) (by omega) ?_
        refine k_iconst hx hb dL_law_605 ?_
        refine k_roS (As := [.int (iI (y / 2 ^ (2 : Int).toNat)), .int (iI 3)]) (rest := []) ⟨hx, hb, hml, hown, hts⟩ (c_L_low l D (y / 2 ^ (2 : Int).toNat) 3 (by omega)) gL_law_L_low rfl ⟨rfl, rfl⟩ 2 rfl (by decide +kernel) ⟨Nat.le_of_ble_eq_true rfl, Nat.le_of_ble_eq_true rfl⟩ kGT_ok trivial (fun k q h => by simp at h) hl.1 rfl (Nat.le_of_ble_eq_true rfl) ⟨show cells ≤ 856056 by omega, show slots ≤ 6533457 by omega⟩ dL_law_606 (fun r_7 hr_7 => ?_)
        have hr_7 : r_7 = lwF (y / 2 ^ (2 : Int).toNat) 3 := hr_7
        subst hr_7
        have hlw7 := lw_bd (y / 2 ^ (2 : Int).toNat) (show 0 < (3 : Int) by omega)
        refine k_if_ne (tgt := 638) hx hb dL_law_609 (by decide) (by omega) (fun c_8 => ?_) (fun c_8 => ?_)
        · skip
          refine lv_goto (tgt := 1141) hx hb dL_law_638 (by decide) ?_
          exact hk M_4 (kpN n) (csF M K) cells slots (by omega) (by omega) H locs hW ls (lv_sub hl [7, 9, 10, 11] rfl)
        · skip
          refine lv_iload hx hb dL_law_612 (lv_at hl 0 rfl) ?_
          refine k_if_lt (tgt := 638) hx hb dL_law_614 (by decide) (by omega) (fun c_9 => ?_) (fun c_9 => ?_)
          · exfalso; omega
          · skip
            refine lv_aload_n hx hb dL_law_617 rfl (lv_at hl 10 rfl) ?_
            refine q_call0 (As := []) (rest := []) ⟨hx, hb, hml, hown, hts⟩ hGX hA (k_undo l D cy o M_4 (kpN n) (csF M K) (show 0 < (kpN n) from by omega)) gL_law_L_undo rfl ⟨rfl, rfl⟩ 1 rfl (by decide +kernel) ⟨Nat.le_of_ble_eq_true rfl, Nat.le_of_ble_eq_true rfl⟩ hW hl.1 rfl (Nat.le_of_ble_eq_true rfl) ⟨show cells ≤ 856056 by omega, show slots ≤ 6533457 by omega⟩ dL_law_618 (fun r_10 M_10 n_10 K_10 H locs hp hW => ?_)
            obtain ⟨rfl, hM10, rfl, hK10⟩ := hp
            have hM10 : M = M_10 := hM10
            subst hM10
            have hK10 : K = K_10 := hK10
            subst hK10
            refine k_if_lt (tgt := 636) hx hb dL_law_621 (by decide) (by omega) (fun c_11 => ?_) (fun c_11 => ?_)
            · exfalso; omega
            · skip
              refine lv_aload_n hx hb dL_law_624 rfl (lv_at hl 10 rfl) ?_
              refine lv_iload hx hb dL_law_625 (lv_at hl 3 rfl) ?_
              refine k_iconst hx hb dL_law_627 ?_
              refine q_call0 (As := [.int (iI t), .int (iI 0)]) (rest := []) ⟨hx, hb, hml, hown, hts⟩ hGX hA (ck_ans (k_trail l D cy o M ((kpN n) - 1) K t 0 (show 0 ≤ t from by omega) (show t < M 12 from by omega) (show 0 ≤ (0 : Int) ∧ (0 : Int) ≤ 8 from by omega)) (show trV M (mat M (M 8)).1 t (0 : Int) = pts M t from tr_0 M _ t)) gL_law_L_trail rfl ⟨rfl, rfl⟩ 3 rfl (by decide +kernel) ⟨Nat.le_of_ble_eq_true rfl, Nat.le_of_ble_eq_true rfl⟩ hW hl.1 rfl (Nat.le_of_ble_eq_true rfl) ⟨show cells ≤ 856056 by omega, show slots ≤ 6533457 by omega⟩ dL_law_628 (fun r_12 M_12 n_12 K_12 H locs hp hW => ?_)
              obtain ⟨rfl, rfl, rfl, rfl⟩ := hp
              refine lv_iload hx hb dL_law_631 (lv_at hl 1 rfl) ?_
              refine k_icmp_eq (tgt := 638) hx hb dL_law_633 (by decide) (by omega) (by omega) (fun c_13 => ?_) (fun c_13 => ?_)
              · skip
                refine lv_goto (tgt := 1141) hx hb dL_law_638 (by decide) ?_
                exact hk M ((kpN n) - 1) K cells slots (by omega) (by omega) H locs hW ls (lv_sub hl [7, 9, 10, 11] rfl)
              · exfalso; omega
  · skip
    refine q_call1 (As := [.int (iI t), .int (iI (lwF y 4))]) (rest := []) ⟨hx, hb, hml, hown, hts⟩ hGX hA (k_removePoint_t l hst D cy o M n K t (lwF y 4) (show -2147483648 ≤ t ∧ t ≤ 2147483647 from by omega) (show -2147483648 ≤ (lwF y 4) ∧ (lwF y 4) ≤ 2147483647 from by omega) (show ¬ ((0 ≤ t ∧ t < M 12) ∧ 0 ≤ (lwF y 4) ∧ (lwF y 4) < pts M t) from by omega)) gL_law_L_removePoint rfl ⟨rfl, rfl⟩ 3 rfl (by decide +kernel) ⟨Nat.le_of_ble_eq_true rfl, Nat.le_of_ble_eq_true rfl⟩ hW hl.1 rfl (Nat.le_of_ble_eq_true rfl) ⟨show cells + 1 ≤ 856056 by omega, show slots + 6 ≤ 6533457 by omega⟩ dL_law_575 (fun r_14 M_14 n_14 K_14 H locs hp hW => ?_)
    obtain ⟨rfl, rfl, rfl, rfl⟩ := hp
    refine lv_istore (lv' := [(11, .int (iI (-9030000))), (10, .int (iI (pts M t))), (9, .int (iI (lwF y 4))), (8, .int (iI t)), (7, .int (iI w7)), (6, .int (iI (M 13))), (5, .int (iI (M 12))), (4, .int (iI y)), (3, .int (iI x)), (2, .int (iI i)), (1, .ref o), (0, .ref b)]) hx hb dL_law_578 hl (by decide) rfl (fun ls hl => ?_)
    refine lv_iload hx hb dL_law_580 (lv_at hl 0 rfl) ?_
    refine lv_iload hx hb dL_law_582 (lv_at hl 2 rfl) ?_
    refine lv_iload hx hb dL_law_584 (lv_at hl 1 rfl) ?_
    refine k_icmp_ge (tgt := 596) hx hb dL_law_586 (by decide) (by omega) (by omega) (fun c_15 => ?_) (fun c_15 => ?_)
    · skip
      refine k_ldc (z := (-9030000)) hx hb hown hmw0 (by decide +kernel) dL_law_596 ?_
      refine k_icmp_ne (tgt := 636) hx hb dL_law_598 (by decide) (by omega) (by omega) (fun c_16 => ?_) (fun c_16 => ?_)
      · exfalso; omega
      · skip
        refine lv_iload hx hb dL_law_601 (lv_at hl 7 rfl) ?_
        refine k_iconst hx hb dL_law_603 ?_
        refine k_ishr hx hb dL_law_604 (by omega) (by omega) ?_
        refine k_iconst hx hb dL_law_605 ?_
        refine k_roS (As := [.int (iI (y / 2 ^ (2 : Int).toNat)), .int (iI 3)]) (rest := []) ⟨hx, hb, hml, hown, hts⟩ (c_L_low l D (y / 2 ^ (2 : Int).toNat) 3 (by omega)) gL_law_L_low rfl ⟨rfl, rfl⟩ 2 rfl (by decide +kernel) ⟨Nat.le_of_ble_eq_true rfl, Nat.le_of_ble_eq_true rfl⟩ kGT_ok trivial (fun k q h => by simp at h) hl.1 rfl (Nat.le_of_ble_eq_true rfl) ⟨show cells + 1 ≤ 856056 by omega, show slots + 6 ≤ 6533457 by omega⟩ dL_law_606 (fun r_17 hr_17 => ?_)
        have hr_17 : r_17 = lwF (y / 2 ^ (2 : Int).toNat) 3 := hr_17
        subst hr_17
        have hlw17 := lw_bd (y / 2 ^ (2 : Int).toNat) (show 0 < (3 : Int) by omega)
        refine k_if_ne (tgt := 638) hx hb dL_law_609 (by decide) (by omega) (fun c_18 => ?_) (fun c_18 => ?_)
        · skip
          refine lv_goto (tgt := 1141) hx hb dL_law_638 (by decide) ?_
          exact hk M n K (cells + 1) (slots + 6) (by omega) (by omega) H locs hW ls (lv_sub hl [7, 9, 10, 11] rfl)
        · skip
          refine lv_iload hx hb dL_law_612 (lv_at hl 0 rfl) ?_
          refine k_if_lt (tgt := 638) hx hb dL_law_614 (by decide) (by omega) (fun c_19 => ?_) (fun c_19 => ?_)
          · skip
            refine lv_goto (tgt := 1141) hx hb dL_law_638 (by decide) ?_
            exact hk M n K (cells + 1) (slots + 6) (by omega) (by omega) H locs hW ls (lv_sub hl [7, 9, 10, 11] rfl)
          · exfalso; omega
    · exfalso; omega
set_option maxHeartbeats 8000000 in
set_option maxRecDepth 100000 in
theorem zc_removeTrail {p : Program} {l : Launch} {e : Env} {s : State} {m : MethodId} {below : List Frame} {meth : Method} {c : Code} {b L : Nat} {xs : Nat → Int32} {D : va_G} {cy : Nat → ClassId} {Q : State → Prop} {o : Nat} (C : zC p l s m c b L xs D cy) {i y : Int} {cells slots : Nat} (hk : zK p l e s m below meth c b D cy Q o i y (cells + 60) (slots + 360)) (hroom : cells + 60 ≤ 800000 ∧ slots + 360 ≤ 6000000) (M : Int → Int) (n : Int) (K : Nat → Int → Int) (x t w7 : Int)  (hry : -2147483648 ≤ y ∧ y ≤ 2147483647) (ht0 : 0 ≤ t) (ht1 : t < M 12) (H : Heap) (locs : List Loc) (hW : OW D cy (fun q : Nat => s.heap.size ≤ q) s.heap o M n K H locs) (ls : Array Slot) (hl : lv_has ls 15 [(8, .int (iI t)), (7, .int (iI w7)), (6, .int (iI (M 13))), (5, .int (iI (M 12))), (4, .int (iI y)), (3, .int (iI x)), (2, .int (iI i)), (1, .ref o), (0, .ref b)]) : W p l e room_1 s m #[Value.ref b] below meth c H locs cells slots Q (F0 m 656 ls []) := by
  obtain ⟨⟨hx, hb, hml, hown⟩, hts, ⟨hX, hbl, hL⟩, hGX, hst⟩ := id C
  have hA : ∀ q : Nat, s.heap.size ≤ q → (fun q : Nat => s.heap.size ≤ q) q := fun _ h => h
  have hI := hW.inv
  have hS12 := inv_S12 hI
  have hS0 := hI.1
  unfold InvS at hS0
  have hnn := hW.nn
  refine lv_aload_n hx hb dL_law_656 rfl (lv_at hl 7 rfl) ?_
  refine lv_iload hx hb dL_law_657 (lv_at hl 0 rfl) ?_
  refine q_call0 (As := [.int (iI t)]) (rest := []) ⟨hx, hb, hml, hown, hts⟩ hGX hA (k_removeTrail l D cy o M n K t (show 0 ≤ t from by omega) (show t < M 12 from by omega)) gL_law_L_removeTrail rfl ⟨rfl, rfl⟩ 2 rfl (by decide +kernel) ⟨Nat.le_of_ble_eq_true rfl, Nat.le_of_ble_eq_true rfl⟩ hW hl.1 rfl (Nat.le_of_ble_eq_true rfl) ⟨show cells ≤ 856056 by omega, show slots ≤ 6533457 by omega⟩ dL_law_659 (fun r_1 M_1 n_1 K_1 H locs hp hW => ?_)
  obtain ⟨rfl, hM1, rfl, rfl⟩ := hp
  have hkp1 := kp_spec n
  have hI1 := hW.inv
  have hla := rt_law ht0 hM1
  refine lv_iload hx hb dL_law_662 (lv_at hl 3 rfl) ?_
  refine k_iconst hx hb dL_law_664 ?_
  refine k_isub hx hb dL_law_665 ?_
  refine k_icmp_ne (tgt := 697) hx hb dL_law_666 (by decide) (by omega) (by omega) (fun c_2 => ?_) (fun c_2 => ?_)
  · exfalso; omega
  · skip
    refine lv_iload hx hb dL_law_669 (lv_at hl 4 rfl) ?_
    refine k_iconst hx hb dL_law_671 ?_
    refine k_ishr hx hb dL_law_672 (by omega) (by omega) ?_
    refine k_iconst hx hb dL_law_673 ?_
    refine k_roS (As := [.int (iI (y / 2 ^ (2 : Int).toNat)), .int (iI 2)]) (rest := []) ⟨hx, hb, hml, hown, hts⟩ (c_L_low l D (y / 2 ^ (2 : Int).toNat) 2 (by omega)) gL_law_L_low rfl ⟨rfl, rfl⟩ 2 rfl (by decide +kernel) ⟨Nat.le_of_ble_eq_true rfl, Nat.le_of_ble_eq_true rfl⟩ kGT_ok trivial (fun k q h => by simp at h) hl.1 rfl (Nat.le_of_ble_eq_true rfl) ⟨show cells ≤ 856056 by omega, show slots ≤ 6533457 by omega⟩ dL_law_674 (fun r_3 hr_3 => ?_)
    have hr_3 : r_3 = lwF (y / 2 ^ (2 : Int).toNat) 2 := hr_3
    subst hr_3
    have hlw3 := lw_bd (y / 2 ^ (2 : Int).toNat) (show 0 < (2 : Int) by omega)
    have join699 : ∀ (M : Int → Int) (n : Int) (K : Nat → Int → Int) (H : Heap) (locs : List Loc) (hW : OW D cy (fun q : Nat => s.heap.size ≤ q) s.heap o M n K H locs) (ls : Array Slot) (hl : lv_has ls 15 [(8, .int (iI t)), (7, .int (iI w7)), (4, .int (iI y)), (3, .int (iI x)), (2, .int (iI i)), (1, .ref o), (0, .ref b)]), W p l e room_1 s m #[Value.ref b] below meth c H locs cells slots Q (F0 m 699 ls []) := by
      intro M n K H locs hW ls hl
      have hI9 := hW.inv
      have hS9 := inv_S12 hI9
      refine lv_aload_n hx hb dL_law_699 rfl (lv_at hl 5 rfl) ?_
      refine k_iconst hx hb dL_law_700 ?_
      refine q_call0 (As := [.int (iI 0)]) (rest := []) ⟨hx, hb, hml, hown, hts⟩ hGX hA (ck_ans (k_whole l D cy o M n K 0 (show 0 ≤ (0 : Int) ∧ (0 : Int) ≤ 10 from by omega)) (show whW M (0 : Int) = M 12 from wh_0 M)) gL_law_L_whole rfl ⟨rfl, rfl⟩ 2 rfl (by decide +kernel) ⟨Nat.le_of_ble_eq_true rfl, Nat.le_of_ble_eq_true rfl⟩ hW hl.1 rfl (Nat.le_of_ble_eq_true rfl) ⟨show cells ≤ 856056 by omega, show slots ≤ 6533457 by omega⟩ dL_law_701 (fun r_4 M_4 n_4 K_4 H locs hp hW => ?_)
      obtain ⟨rfl, rfl, rfl, rfl⟩ := hp
      refine k_if_ne (tgt := 1141) hx hb dL_law_704 (by decide) (by omega) (fun c_5 => ?_) (fun c_5 => ?_)
      · skip
        exact hk M n K cells slots (by omega) (by omega) H locs hW ls (lv_sub hl [2, 4, 5, 6] rfl)
      · skip
        refine lv_aload_n hx hb dL_law_707 rfl (lv_at hl 5 rfl) ?_
        refine q_call0 (As := []) (rest := []) ⟨hx, hb, hml, hown, hts⟩ hGX hA (k_addTrail l D cy o M n K (show M 12 < 12 from by omega)) gL_law_L_addTrail rfl ⟨rfl, rfl⟩ 1 rfl (by decide +kernel) ⟨Nat.le_of_ble_eq_true rfl, Nat.le_of_ble_eq_true rfl⟩ hW hl.1 rfl (Nat.le_of_ble_eq_true rfl) ⟨show cells ≤ 856056 by omega, show slots ≤ 6533457 by omega⟩ dL_law_708 (fun r_6 M_6 n_6 K_6 H locs hp hW => ?_)
        obtain ⟨rfl, hM6, rfl, rfl⟩ := hp
        have hkp6 := kp_spec n
        have hI6 := hW.inv
        have hlb := at_law hI9 hM6
        refine k_if_eq (tgt := 1141) hx hb dL_law_711 (by decide) (by omega) (fun c_7 => ?_) (fun c_7 => ?_)
        · skip
          exact hk M_6 (kpN n) (csF M K) cells slots (by omega) (by omega) H locs hW ls (lv_sub hl [2, 4, 5, 6] rfl)
        · exfalso; omega
    refine k_if_ne (tgt := 699) hx hb dL_law_677 (by decide) (by omega) (fun c_8 => ?_) (fun c_8 => ?_)
    · skip
      exact join699 M_1 (kpN n) (csF M K)  H locs hW ls (lv_sub hl [0, 1, 4, 5, 6, 7, 8] rfl)
    · skip
      refine lv_aload_n hx hb dL_law_680 rfl (lv_at hl 7 rfl) ?_
      refine q_call0 (As := []) (rest := []) ⟨hx, hb, hml, hown, hts⟩ hGX hA (k_undo l D cy o M_1 (kpN n) (csF M K) (show 0 < (kpN n) from by omega)) gL_law_L_undo rfl ⟨rfl, rfl⟩ 1 rfl (by decide +kernel) ⟨Nat.le_of_ble_eq_true rfl, Nat.le_of_ble_eq_true rfl⟩ hW hl.1 rfl (Nat.le_of_ble_eq_true rfl) ⟨show cells ≤ 856056 by omega, show slots ≤ 6533457 by omega⟩ dL_law_681 (fun r_9 M_9 n_9 K_9 H locs hp hW => ?_)
      obtain ⟨rfl, hM9, rfl, hK9⟩ := hp
      have hM9 : M = M_9 := hM9
      subst hM9
      have hK9 : K = K_9 := hK9
      subst hK9
      refine k_if_lt (tgt := 697) hx hb dL_law_684 (by decide) (by omega) (fun c_10 => ?_) (fun c_10 => ?_)
      · exfalso; omega
      · skip
        refine lv_aload_n hx hb dL_law_687 rfl (lv_at hl 7 rfl) ?_
        refine k_iconst hx hb dL_law_688 ?_
        refine q_call0 (As := [.int (iI 0)]) (rest := []) ⟨hx, hb, hml, hown, hts⟩ hGX hA (ck_ans (k_whole l D cy o M ((kpN n) - 1) K 0 (show 0 ≤ (0 : Int) ∧ (0 : Int) ≤ 10 from by omega)) (show whW M (0 : Int) = M 12 from wh_0 M)) gL_law_L_whole rfl ⟨rfl, rfl⟩ 2 rfl (by decide +kernel) ⟨Nat.le_of_ble_eq_true rfl, Nat.le_of_ble_eq_true rfl⟩ hW hl.1 rfl (Nat.le_of_ble_eq_true rfl) ⟨show cells ≤ 856056 by omega, show slots ≤ 6533457 by omega⟩ dL_law_689 (fun r_11 M_11 n_11 K_11 H locs hp hW => ?_)
        obtain ⟨rfl, rfl, rfl, rfl⟩ := hp
        refine lv_iload hx hb dL_law_692 (lv_at hl 3 rfl) ?_
        refine k_icmp_eq (tgt := 699) hx hb dL_law_694 (by decide) (by omega) (by omega) (fun c_12 => ?_) (fun c_12 => ?_)
        · skip
          exact join699 M ((kpN n) - 1) K  H locs hW ls (lv_sub hl [0, 1, 4, 5, 6, 7, 8] rfl)
        · exfalso; omega
set_option maxHeartbeats 8000000 in
set_option maxRecDepth 100000 in
theorem zc_removeStar {p : Program} {l : Launch} {e : Env} {s : State} {m : MethodId} {below : List Frame} {meth : Method} {c : Code} {b L : Nat} {xs : Nat → Int32} {D : va_G} {cy : Nat → ClassId} {Q : State → Prop} {o : Nat} (C : zC p l s m c b L xs D cy) {i y : Int} {cells slots : Nat} (hk : zK p l e s m below meth c b D cy Q o i y (cells + 60) (slots + 360)) (hroom : cells + 60 ≤ 800000 ∧ slots + 360 ≤ 6000000) (M : Int → Int) (n : Int) (K : Nat → Int → Int) (x t w7 : Int)  (hry : -2147483648 ≤ y ∧ y ≤ 2147483647) (h12 : 1 ≤ M 12) (h13 : 0 < M 13) (H : Heap) (locs : List Loc) (hW : OW D cy (fun q : Nat => s.heap.size ≤ q) s.heap o M n K H locs) (ls : Array Slot) (hl : lv_has ls 15 [(8, .int (iI t)), (7, .int (iI w7)), (6, .int (iI (M 13))), (5, .int (iI (M 12))), (4, .int (iI y)), (3, .int (iI x)), (2, .int (iI i)), (1, .ref o), (0, .ref b)]) : W p l e room_1 s m #[Value.ref b] below meth c H locs cells slots Q (F0 m 736 ls []) := by
  obtain ⟨⟨hx, hb, hml, hown⟩, hts, ⟨hX, hbl, hL⟩, hGX, hst⟩ := id C
  have hA : ∀ q : Nat, s.heap.size ≤ q → (fun q : Nat => s.heap.size ≤ q) q := fun _ h => h
  have hI := hW.inv
  have hS12 := inv_S12 hI
  have hS0 := hI.1
  unfold InvS at hS0
  have hnn := hW.nn
  refine lv_iload hx hb dL_law_736 (lv_at hl 4 rfl) ?_
  refine k_iconst hx hb dL_law_738 ?_
  refine k_ishr hx hb dL_law_739 (by omega) (by omega) ?_
  refine lv_iload hx hb dL_law_740 (lv_at hl 2 rfl) ?_
  refine k_roS (As := [.int (iI (y / 2 ^ (2 : Int).toNat)), .int (iI (M 13))]) (rest := []) ⟨hx, hb, hml, hown, hts⟩ (c_L_low l D (y / 2 ^ (2 : Int).toNat) (M 13) (by omega)) gL_law_L_low rfl ⟨rfl, rfl⟩ 2 rfl (by decide +kernel) ⟨Nat.le_of_ble_eq_true rfl, Nat.le_of_ble_eq_true rfl⟩ kGT_ok trivial (fun k q h => by simp at h) hl.1 rfl (Nat.le_of_ble_eq_true rfl) ⟨show cells ≤ 856056 by omega, show slots ≤ 6533457 by omega⟩ dL_law_742 (fun r_1 hr_1 => ?_)
  have hr_1 : r_1 = lwF (y / 2 ^ (2 : Int).toNat) (M 13) := hr_1
  subst hr_1
  have hlw1 := lw_bd (y / 2 ^ (2 : Int).toNat) (show 0 < (M 13) by omega)
  obtain ⟨U, hUe, hU0, hU1⟩ : ∃ f : Int, f = (lwF (y / 2 ^ (2 : Int).toNat) (M 13)) ∧ 0 ≤ f ∧ f < M 13 := ⟨_, rfl, by omega, by omega⟩
  rw [← hUe]
  have hnx := nx_sp M U
  have hnb := fun h => (hI.2.2 (U + 1) (by omega) h).2.1
  refine lv_istore (lv' := [(9, .int (iI U)), (8, .int (iI t)), (7, .int (iI w7)), (6, .int (iI (M 13))), (5, .int (iI (M 12))), (4, .int (iI y)), (3, .int (iI x)), (2, .int (iI i)), (1, .ref o), (0, .ref b)]) hx hb dL_law_745 hl (by decide) rfl (fun ls hl => ?_)
  refine lv_iload hx hb dL_law_747 (lv_at hl 0 rfl) ?_
  refine k_iconst hx hb dL_law_749 ?_
  refine k_iadd hx hb dL_law_750 ?_
  refine lv_iload hx hb dL_law_751 (lv_at hl 3 rfl) ?_
  have join769 : ∀ (z0 : Int) (jez0 : z0 = nxF M U) (H : Heap) (locs : List Loc) (hW : OW D cy (fun q : Nat => s.heap.size ≤ q) s.heap o M n K H locs) (ls : Array Slot) (hl : lv_has ls 15 [(9, .int (iI U)), (8, .int (iI t)), (7, .int (iI w7)), (6, .int (iI (M 13))), (5, .int (iI (M 12))), (4, .int (iI y)), (3, .int (iI x)), (2, .int (iI i)), (1, .ref o), (0, .ref b)]), W p l e room_1 s m #[Value.ref b] below meth c H locs cells slots Q (F0 m 769 ls [.int (iI z0)]) := by
    intro z0 jez0 H locs hW ls hl
    subst jez0
    refine lv_istore (lv' := [(10, .int (iI (nxF M U))), (9, .int (iI U)), (8, .int (iI t)), (7, .int (iI w7)), (6, .int (iI (M 13))), (5, .int (iI (M 12))), (4, .int (iI y)), (3, .int (iI x)), (2, .int (iI i)), (1, .ref o), (0, .ref b)]) hx hb dL_law_769 hl (by decide) rfl (fun ls hl => ?_)
    refine lv_aload_n hx hb dL_law_771 rfl (lv_at hl 9 rfl) ?_
    refine lv_iload hx hb dL_law_772 (lv_at hl 1 rfl) ?_
    refine q_call0 (As := [.int (iI U)]) (rest := []) ⟨hx, hb, hml, hown, hts⟩ hGX hA (k_removeStar l D cy o M n K U (show 0 ≤ U from by omega) (show U < M 13 from by omega)) gL_law_L_removeStar rfl ⟨rfl, rfl⟩ 2 rfl (by decide +kernel) ⟨Nat.le_of_ble_eq_true rfl, Nat.le_of_ble_eq_true rfl⟩ hW hl.1 rfl (Nat.le_of_ble_eq_true rfl) ⟨show cells ≤ 856056 by omega, show slots ≤ 6533457 by omega⟩ dL_law_774 (fun r_2 M_2 n_2 K_2 H locs hp hW => ?_)
    obtain ⟨rfl, hM2, rfl, rfl⟩ := hp
    have hkp2 := kp_spec n
    have hI2 := hW.inv
    have hla := rs_law hI hU0 hU1 hM2
    refine lv_iload hx hb dL_law_777 (lv_at hl 4 rfl) ?_
    refine k_iconst hx hb dL_law_779 ?_
    refine k_isub hx hb dL_law_780 ?_
    refine k_icmp_ne (tgt := 805) hx hb dL_law_781 (by decide) (by omega) (by omega) (fun c_3 => ?_) (fun c_3 => ?_)
    · exfalso; omega
    · skip
      refine lv_iload hx hb dL_law_784 (lv_at hl 1 rfl) ?_
      refine k_iconst hx hb dL_law_786 ?_
      refine k_iadd hx hb dL_law_787 ?_
      refine lv_iload hx hb dL_law_788 (lv_at hl 4 rfl) ?_
      refine k_icmp_ge (tgt := 807) hx hb dL_law_790 (by decide) (by omega) (by omega) (fun c_4 => ?_) (fun c_4 => ?_)
      · skip
        refine lv_goto (tgt := 1141) hx hb dL_law_807 (by decide) ?_
        exact hk M_2 (kpN n) (csF M K) cells slots (by omega) (by omega) H locs hW ls (lv_sub hl [6, 8, 9, 10] rfl)
      · skip
        refine lv_aload_n hx hb dL_law_793 rfl (lv_at hl 9 rfl) ?_
        refine lv_iload hx hb dL_law_794 (lv_at hl 1 rfl) ?_
        refine k_iconst hx hb dL_law_796 ?_
        refine q_call0 (As := [.int (iI U), .int (iI 1)]) (rest := []) ⟨hx, hb, hml, hown, hts⟩ hGX hA (ck_ans (k_star l D cy o M_2 (kpN n) (csF M K) U 1 (show 0 ≤ U from by omega) (show U < M_2 13 from by omega) (show 0 ≤ (1 : Int) ∧ (1 : Int) ≤ 6 from by omega)) (show stW M_2 U (1 : Int) = M_2 (458 + 3 * U + 1) from st_1 M_2 U)) gL_law_L_star rfl ⟨rfl, rfl⟩ 3 rfl (by decide +kernel) ⟨Nat.le_of_ble_eq_true rfl, Nat.le_of_ble_eq_true rfl⟩ hW hl.1 rfl (Nat.le_of_ble_eq_true rfl) ⟨show cells ≤ 856056 by omega, show slots ≤ 6533457 by omega⟩ dL_law_797 (fun r_5 M_5 n_5 K_5 H locs hp hW => ?_)
        obtain ⟨rfl, rfl, rfl, rfl⟩ := hp
        refine lv_iload hx hb dL_law_800 (lv_at hl 0 rfl) ?_
        refine k_icmp_eq (tgt := 807) hx hb dL_law_802 (by decide) (by omega) (by omega) (fun c_6 => ?_) (fun c_6 => ?_)
        · skip
          refine lv_goto (tgt := 1141) hx hb dL_law_807 (by decide) ?_
          exact hk M_2 (kpN n) (csF M K) cells slots (by omega) (by omega) H locs hW ls (lv_sub hl [6, 8, 9, 10] rfl)
        · exfalso; omega
  refine k_icmp_ge (tgt := 768) hx hb dL_law_753 (by decide) (by omega) (by omega) (fun c_7 => ?_) (fun c_7 => ?_)
  · skip
    refine k_iconst hx hb dL_law_768 ?_
    exact join769 0 (by first | rfl | omega) H locs hW ls (lv_sub hl [0, 1, 2, 3, 4, 5, 6, 7, 8, 9] rfl)
  · skip
    have hnb9 := hnb (by omega)
    refine lv_aload_n hx hb dL_law_756 rfl (lv_at hl 8 rfl) ?_
    refine lv_iload hx hb dL_law_757 (lv_at hl 0 rfl) ?_
    refine k_iconst hx hb dL_law_759 ?_
    refine k_iadd hx hb dL_law_760 ?_
    refine k_iconst hx hb dL_law_761 ?_
    refine q_call0 (As := [.int (iI (U + 1)), .int (iI 1)]) (rest := []) ⟨hx, hb, hml, hown, hts⟩ hGX hA (ck_ans (k_star l D cy o M n K (U + 1) 1 (show 0 ≤ (U + 1) from by omega) (show (U + 1) < M 13 from by omega) (show 0 ≤ (1 : Int) ∧ (1 : Int) ≤ 6 from by omega)) (show stW M (U + 1) (1 : Int) = M (458 + 3 * (U + 1) + 1) from st_1 M (U + 1))) gL_law_L_star rfl ⟨rfl, rfl⟩ 3 rfl (by decide +kernel) ⟨Nat.le_of_ble_eq_true rfl, Nat.le_of_ble_eq_true rfl⟩ hW hl.1 rfl (Nat.le_of_ble_eq_true rfl) ⟨show cells ≤ 856056 by omega, show slots ≤ 6533457 by omega⟩ dL_law_762 (fun r_8 M_8 n_8 K_8 H locs hp hW => ?_)
    obtain ⟨rfl, rfl, rfl, rfl⟩ := hp
    refine lv_goto (tgt := 769) hx hb dL_law_765 (by decide) ?_
    exact join769 (M (458 + 3 * (U + 1) + 1)) (by first | rfl | omega) H locs hW ls (lv_sub hl [0, 1, 2, 3, 4, 5, 6, 7, 8, 9] rfl)
