set_option maxHeartbeats 4000000 in
set_option maxRecDepth 100000 in
theorem c_J9_floorDiv_7cf53 (l : Launch) (D : va_G) (a b : Int) (hra : -2147483648 ≤ a ∧ a ≤ 2147483647) (hb0 : 0 < b ∧ b ≤ 2147483647) : Met l yJ9_floorDiv_7cf53 wsJ9_floorDiv_7cf53 { frames := 0, cells := 0, slots := 0, locals := 0 } (kPre kGT D [] ([.int (iI a), .int (iI b)] : List Value)) (kRO (fun r => r = a / b)) 0 0 (fun _ => False) := by
  refine kRO_startF (cc := cJ9_floorDiv_7cf53) (maxL := 3) (ret := (some .int)) (by decide +kernel) rfl (Nat.le_of_ble_eq_true rfl) ?_
  intro p e s m below meth c hx hb hr hlocks hml hts hown hG hP ls hl
  have hl : lv_has ls 3 [(0, .int (iI a)), (1, .int (iI b))] := hl
  have ht := tdiv_spec (a := a) (b := b) hb0.1
  refine lv_iload_n hx hb dJ9_floorDiv_7cf53_0 rfl (lv_at hl 0 rfl) ?_
  refine lv_iload_n hx hb dJ9_floorDiv_7cf53_1 rfl (lv_at hl 1 rfl) ?_
  refine k_idivT hx hb dJ9_floorDiv_7cf53_2 (by omega) (by omega) ?_
  refine lv_istore_n (lv' := [(2, .int (iI (Int.tdiv a b))), (0, .int (iI a)), (1, .int (iI b))]) hx hb dJ9_floorDiv_7cf53_3 rfl hl (by decide) rfl (fun ls hl => ?_)
  refine lv_iload_n hx hb dJ9_floorDiv_7cf53_4 rfl (lv_at hl 1 rfl) ?_
  refine lv_iload_n hx hb dJ9_floorDiv_7cf53_5 rfl (lv_at hl 2 rfl) ?_
  have := xorI_spec (a := a) (b := b) (by omega) (by omega)
  refine k_ixor hx hb dJ9_floorDiv_7cf53_6 ?_
  refine k_if_ge (tgt := 21) hx hb dJ9_floorDiv_7cf53_7 (by decide) (by omega) (fun c_1 => ?_) (fun c_1 => ?_)
  · skip
    refine lv_iload_n hx hb dJ9_floorDiv_7cf53_21 rfl (lv_at hl 0 rfl) ?_
    exact W.iret (v := iI (Int.tdiv a b)) hx hb hr (fun t9 ht _ => ⟨(Int.tdiv a b), rfl, (by omega : (Int.tdiv a b : Int) = a / b), ht⟩) (fun _ h => nomatch h) dJ9_floorDiv_7cf53_22 hlocks
  · skip
    refine lv_iload_n hx hb dJ9_floorDiv_7cf53_10 rfl (lv_at hl 0 rfl) ?_
    refine lv_iload_n hx hb dJ9_floorDiv_7cf53_11 rfl (lv_at hl 2 rfl) ?_
    refine k_imul hx hb dJ9_floorDiv_7cf53_12 ?_
    refine lv_iload_n hx hb dJ9_floorDiv_7cf53_13 rfl (lv_at hl 1 rfl) ?_
    refine k_icmp_eq (tgt := 21) hx hb dJ9_floorDiv_7cf53_14 (by decide) (by omega) (by omega) (fun c_2 => ?_) (fun c_2 => ?_)
    · skip
      refine lv_iload_n hx hb dJ9_floorDiv_7cf53_21 rfl (lv_at hl 0 rfl) ?_
      exact W.iret (v := iI (Int.tdiv a b)) hx hb hr (fun t9 ht _ => ⟨(Int.tdiv a b), rfl, (by omega : (Int.tdiv a b : Int) = a / b), ht⟩) (fun _ h => nomatch h) dJ9_floorDiv_7cf53_22 hlocks
    · skip
      refine lv_iload_n hx hb dJ9_floorDiv_7cf53_17 rfl (lv_at hl 0 rfl) ?_
      refine k_iconst hx hb dJ9_floorDiv_7cf53_18 ?_
      refine k_isub hx hb dJ9_floorDiv_7cf53_19 ?_
      exact W.iret (v := iI ((Int.tdiv a b) - 1)) hx hb hr (fun t9 ht _ => ⟨((Int.tdiv a b) - 1), rfl, (by omega : ((Int.tdiv a b) - 1 : Int) = a / b), ht⟩) (fun _ h => nomatch h) dJ9_floorDiv_7cf53_20 hlocks
set_option maxHeartbeats 4000000 in
set_option maxRecDepth 100000 in
theorem c_J9_floorMod_7cf53 (l : Launch) (D : va_G) (a b : Int) (hra : -2147483648 ≤ a ∧ a ≤ 2147483647) (hb0 : 0 < b ∧ b ≤ 1073741824) : Met l yJ9_floorMod_7cf53 wsJ9_floorMod_7cf53 { frames := 0, cells := 0, slots := 0, locals := 0 } (kPre kGT D [] ([.int (iI a), .int (iI b)] : List Value)) (kRO (fun r => r = a % b)) 0 0 (fun _ => False) := by
  refine kRO_startF (cc := cJ9_floorMod_7cf53) (maxL := 3) (ret := (some .int)) (by decide +kernel) rfl (Nat.le_of_ble_eq_true rfl) ?_
  intro p e s m below meth c hx hb hr hlocks hml hts hown hG hP ls hl
  have hl : lv_has ls 3 [(0, .int (iI a)), (1, .int (iI b))] := hl
  have ht := tmod_spec (a := a) (b := b) hb0.1
  refine lv_iload_n hx hb dJ9_floorMod_7cf53_0 rfl (lv_at hl 0 rfl) ?_
  refine lv_iload_n hx hb dJ9_floorMod_7cf53_1 rfl (lv_at hl 1 rfl) ?_
  refine k_iremT hx hb dJ9_floorMod_7cf53_2 (by omega) (by omega) ?_
  refine lv_istore_n (lv' := [(2, .int (iI (Int.tmod a b))), (0, .int (iI a)), (1, .int (iI b))]) hx hb dJ9_floorMod_7cf53_3 rfl hl (by decide) rfl (fun ls hl => ?_)
  refine lv_iload_n hx hb dJ9_floorMod_7cf53_4 rfl (lv_at hl 1 rfl) ?_
  refine lv_iload_n hx hb dJ9_floorMod_7cf53_5 rfl (lv_at hl 2 rfl) ?_
  have := xorI_spec (a := a) (b := b) (by omega) (by omega)
  refine k_ixor hx hb dJ9_floorMod_7cf53_6 ?_
  refine k_if_ge (tgt := 18) hx hb dJ9_floorMod_7cf53_7 (by decide) (by omega) (fun c_1 => ?_) (fun c_1 => ?_)
  · skip
    refine lv_iload_n hx hb dJ9_floorMod_7cf53_18 rfl (lv_at hl 0 rfl) ?_
    exact W.iret (v := iI (Int.tmod a b)) hx hb hr (fun t9 ht _ => ⟨(Int.tmod a b), rfl, (by omega : (Int.tmod a b : Int) = a % b), ht⟩) (fun _ h => nomatch h) dJ9_floorMod_7cf53_19 hlocks
  · skip
    refine lv_iload_n hx hb dJ9_floorMod_7cf53_10 rfl (lv_at hl 0 rfl) ?_
    refine k_if_eq (tgt := 18) hx hb dJ9_floorMod_7cf53_11 (by decide) (by omega) (fun c_2 => ?_) (fun c_2 => ?_)
    · skip
      refine lv_iload_n hx hb dJ9_floorMod_7cf53_18 rfl (lv_at hl 0 rfl) ?_
      exact W.iret (v := iI (Int.tmod a b)) hx hb hr (fun t9 ht _ => ⟨(Int.tmod a b), rfl, (by omega : (Int.tmod a b : Int) = a % b), ht⟩) (fun _ h => nomatch h) dJ9_floorMod_7cf53_19 hlocks
    · skip
      refine lv_iload_n hx hb dJ9_floorMod_7cf53_14 rfl (lv_at hl 0 rfl) ?_
      refine lv_iload_n hx hb dJ9_floorMod_7cf53_15 rfl (lv_at hl 2 rfl) ?_
      refine k_iadd hx hb dJ9_floorMod_7cf53_16 ?_
      exact W.iret (v := iI ((Int.tmod a b) + b)) hx hb hr (fun t9 ht _ => ⟨((Int.tmod a b) + b), rfl, (by omega : ((Int.tmod a b) + b : Int) = a % b), ht⟩) (fun _ h => nomatch h) dJ9_floorMod_7cf53_17 hlocks
set_option maxHeartbeats 4000000 in
set_option maxRecDepth 100000 in
theorem c_X0_turn (l : Launch) (D : va_G) (f t : Int) (h1 : 0 ≤ f ∧ f < 360000) (h2 : 0 ≤ t ∧ t < 360000) : Met l yX0_turn wsX0_turn { frames := 1, cells := 0, slots := 0, locals := 22 } (kPre kGT D [] ([.int (iI f), .int (iI t)] : List Value)) (kRO (fun r => r = turnI f t)) 0 0 (fun _ => False) := by
  refine kRO_start (cc := cX0_turn) (maxL := 3) (ret := (some .int)) (by decide) rfl (Nat.le_of_ble_eq_true rfl) ?_
  intro p e s m below meth c hx hb hr hlocks hml hts hown hG hP ls hl
  have hl : lv_has ls 3 [(0, .int (iI f)), (1, .int (iI t))] := hl
  have hm0 := hts (.constant RX0 16 (360000)) (by decide +kernel)
  have hm1 := hts (.constant RX0 9 (180000)) (by decide +kernel)
  refine lv_iload_n hx hb dX0_turn_0 rfl (lv_at hl 1 rfl) ?_
  refine lv_iload_n hx hb dX0_turn_1 rfl (lv_at hl 0 rfl) ?_
  refine k_isub hx hb dX0_turn_2 ?_
  refine k_ldc (z := 360000) hx hb hown hm0 (by decide +kernel) dX0_turn_3 ?_
  refine k_roS (As := [.int (iI (t - f)), .int (iI 360000)]) (rest := []) ⟨hx, hb, hml, hown, hts⟩ (c_J9_floorMod_7cf53 l D (t - f) 360000 (show -2147483648 ≤ (t - f) ∧ (t - f) ≤ 2147483647 by omega) (show 0 < 360000 ∧ 360000 ≤ 1073741824 by omega)) gX0_turn_J9_floorMod_7cf53 rfl ⟨rfl, rfl⟩ 2 rfl (by decide +kernel) ⟨Nat.le_of_ble_eq_true rfl, Nat.le_of_ble_eq_true rfl⟩ kGT_ok trivial (fun k q h => by simp at h) hl.1 rfl (Nat.le_of_ble_eq_true rfl) ⟨Nat.le_of_ble_eq_true rfl, Nat.le_of_ble_eq_true rfl⟩ dX0_turn_5 (fun r_1 hr_1 => ?_)
  have hr_1 : r_1 = (t - f) % 360000 := hr_1
  subst hr_1
  refine lv_istore_n (lv' := [(2, .int (iI ((t - f) % 360000))), (0, .int (iI f)), (1, .int (iI t))]) hx hb dX0_turn_8 rfl hl (by decide) rfl (fun ls hl => ?_)
  refine lv_iload_n hx hb dX0_turn_9 rfl (lv_at hl 0 rfl) ?_
  refine k_ldc (z := 180000) hx hb hown hm1 (by decide +kernel) dX0_turn_10 ?_
  refine k_icmp_le (tgt := 22) hx hb dX0_turn_12 (by decide) (by omega) (by omega) (fun c_2 => ?_) (fun c_2 => ?_)
  · skip
    refine lv_iload_n hx hb dX0_turn_22 rfl (lv_at hl 0 rfl) ?_
    exact W.iret (v := iI ((t - f) % 360000)) hx hb hr (fun t9 ht _ => ⟨((t - f) % 360000), rfl, (by unfold turnI; split <;> omega : ((t - f) % 360000 : Int) = turnI f t), ht⟩) (fun _ h => nomatch h) dX0_turn_23 hlocks
  · skip
    refine lv_iload_n hx hb dX0_turn_15 rfl (lv_at hl 0 rfl) ?_
    refine k_ldc (z := 360000) hx hb hown hm0 (by decide +kernel) dX0_turn_16 ?_
    refine k_isub hx hb dX0_turn_18 ?_
    refine lv_goto (tgt := 23) hx hb dX0_turn_19 (by decide) ?_
    exact W.iret (v := iI (((t - f) % 360000) - 360000)) hx hb hr (fun t9 ht _ => ⟨(((t - f) % 360000) - 360000), rfl, (by unfold turnI; split <;> omega : (((t - f) % 360000) - 360000 : Int) = turnI f t), ht⟩) (fun _ h => nomatch h) dX0_turn_23 hlocks
set_option maxHeartbeats 4000000 in
set_option maxRecDepth 100000 in
theorem c_X0_root (l : Launch) (D : va_G) (n : Int) (h : 0 ≤ n ∧ n ≤ 200000000) : Met l yX0_root wsX0_root { frames := 0, cells := 0, slots := 0, locals := 0 } (kPre kGT D [] ([.int (iI n)] : List Value)) (kRO (fun r => r = rt n)) 0 0 (fun _ => False) := by
  refine kRO_start (cc := cX0_root) (maxL := 5) (ret := (some .int)) (by decide) rfl (Nat.le_of_ble_eq_true rfl) ?_
  intro p e s m below meth c hx hb hr hlocks hml hts hown hG hP ls hl
  have hl : lv_has ls 5 [(0, .int (iI n))] := hl
  refine lv_iload_n hx hb dX0_root_0 rfl (lv_at hl 0 rfl) ?_
  refine lv_istore_n (lv' := [(1, .int (iI n)), (0, .int (iI n))]) hx hb dX0_root_1 rfl hl (by decide) rfl (fun ls hl => ?_)
  refine k_iconst hx hb dX0_root_2 ?_
  refine lv_istore_n (lv' := [(2, .int (iI 0)), (1, .int (iI n)), (0, .int (iI n))]) hx hb dX0_root_3 rfl hl (by decide) rfl (fun ls hl => ?_)
  refine k_bipush hx hb dX0_root_4 (by decide +kernel) ?_
  refine lv_istore_n (lv' := [(3, .int (iI 30)), (2, .int (iI 0)), (1, .int (iI n)), (0, .int (iI n))]) hx hb dX0_root_6 rfl hl (by decide) rfl (fun ls hl => ?_)
  have loop7 : ∀ (n_1 : Nat) (j : Nat) (r : Int) (x3 : Int) (x2 : Int) (x1 : Int) (hi0 : 0 ≤ r) (hi1 : r * 2 ^ j * (r * 2 ^ j) ≤ n) (hi2 : n < (r * 2 ^ j + 2 ^ j) * (r * 2 ^ j + 2 ^ j)) (hi3 : j ≤ 16) (hex3 : x3 = 2 * (j : Int) - 2) (hex2 : x2 = r * 4 ^ j) (hex1 : x1 = n - r * 2 ^ j * (r * 2 ^ j)) (hn : (j : Int) < (n_1 : Int)) (ls : Array Slot) (hl : lv_has ls 5 [(3, .int (iI x3)), (2, .int (iI x2)), (1, .int (iI x1)), (0, .int (iI n))]), W p l e { frames := 0, cells := 0, slots := 0, locals := 0 } s m ([.int (iI n)] : List Value).toArray below meth c s.heap [] 0 0 (MQ below (kRO (fun r => r = rt n)) ([.int (iI n)] : List Value).toArray s 0 0 (fun _ => False)) (F0 m 7 ls []) := by
    intro n_1
    induction n_1 with
    | zero => intro j r x3 x2 x1 hi0 hi1 hi2 hi3 hex3 hex2 hex1 hn ls hl; exfalso; omega
    | succ n_1 ih7 =>
      intro j r x3 x2 x1 hi0 hi1 hi2 hi3 hex3 hex2 hex1 hn ls hl
      subst hex3
      subst hex2
      subst hex1
      refine lv_iload_n hx hb dX0_root_7 rfl (lv_at hl 0 rfl) ?_
      refine k_if_lt (tgt := 51) hx hb dX0_root_8 (by decide) (by omega) (fun c_2 => ?_) (fun c_2 => ?_)
      · skip
        refine lv_iload_n hx hb dX0_root_51 rfl (lv_at hl 1 rfl) ?_
        exact W.iret (v := iI (r * 4 ^ j)) hx hb hr (fun t9 ht _ => ⟨(r * 4 ^ j), rfl, (by have e9 : j = 0 := (by omega); subst e9; rw [Int.pow_zero, Int.mul_one] at hi1 hi2 ⊢; exact (rt_uniq hi0 hi1 hi2).symm : (r * 4 ^ j : Int) = rt n), ht⟩) (fun _ h => nomatch h) dX0_root_52 hlocks
      · skip
        obtain ⟨i, hj⟩ : ∃ i : Nat, j = i + 1 := ⟨j - 1, by omega⟩
        have hbd := rs_bd (n := n) (r := r) (i := i) (by omega) hi0 (by rw [← hj]; exact hi1) h.2
        rw [← hj] at hbd
        refine k_iconst hx hb dX0_root_11 ?_
        refine lv_iload_n hx hb dX0_root_12 rfl (lv_at hl 0 rfl) ?_
        refine k_ishl hx hb dX0_root_13 (by omega) (by omega) (by rw [show (1 : Int) * 2 ^ (2 * (j : Int) - 2).toNat = 4 ^ i by rw [hj]; exact rs_dig i]; omega) ?_
        refine k_eqI (v := 1 * 2 ^ (2 * (j : Int) - 2).toNat) (w := 4 ^ i) (by rw [hj]; exact rs_dig i) ?_
        refine lv_istore (lv' := [(4, .int (iI (4 ^ i))), (3, .int (iI (2 * (j : Int) - 2))), (2, .int (iI (r * 4 ^ j))), (1, .int (iI (n - r * 2 ^ j * (r * 2 ^ j)))), (0, .int (iI n))]) hx hb dX0_root_14 hl (by decide) rfl (fun ls hl => ?_)
        refine lv_iload_n hx hb dX0_root_16 rfl (lv_at hl 3 rfl) ?_
        refine lv_iload_n hx hb dX0_root_17 rfl (lv_at hl 2 rfl) ?_
        refine lv_iload hx hb dX0_root_18 (lv_at hl 0 rfl) ?_
        refine k_iadd hx hb dX0_root_20 ?_
        refine k_icmp_lt (tgt := 41) hx hb dX0_root_21 (by decide) (by omega) (by omega) (fun c_3 => ?_) (fun c_3 => ?_)
        · skip
          obtain ⟨r9, hr9⟩ : ∃ r9 : Int, r9 = 2 * r := ⟨_, rfl⟩
          refine lv_iload_n hx hb dX0_root_41 rfl (lv_at hl 2 rfl) ?_
          refine k_iconst hx hb dX0_root_42 ?_
          refine k_ishr hx hb dX0_root_43 (by omega) (by omega) ?_
          refine k_eqI (v := (r * 4 ^ j) / 2 ^ (1 : Int).toNat) (w := 2 * r * 4 ^ i) (by rw [hj]; exact rs_half r i) ?_
          refine lv_istore_n (lv' := [(2, .int (iI (2 * r * 4 ^ i))), (4, .int (iI (4 ^ i))), (3, .int (iI (2 * (j : Int) - 2))), (1, .int (iI (n - r * 2 ^ j * (r * 2 ^ j)))), (0, .int (iI n))]) hx hb dX0_root_44 rfl hl (by decide) rfl (fun ls hl => ?_)
          refine lv_iinc (v := iI ((2 * (j : Int) - 2) + (-2))) (lv' := [(3, .int (iI ((2 * (j : Int) - 2) + (-2)))), (2, .int (iI (2 * r * 4 ^ i))), (4, .int (iI (4 ^ i))), (1, .int (iI (n - r * 2 ^ j * (r * 2 ^ j)))), (0, .int (iI n))]) hx hb dX0_root_45 hl (k := 2) rfl (iI_add _ _) (by decide) rfl (fun ls hl => ?_)
          refine lv_goto (tgt := 7) hx hb dX0_root_48 (by decide) ?_
          exact ih7 i r9 ((2 * (j : Int) - 2) + (-2)) (2 * r * 4 ^ i) (n - r * 2 ^ j * (r * 2 ^ j)) (by omega) (by subst hr9; first | (rw [rs_sq, ← hj]; omega) | (rw [rs_A, ← hj]; exact hi1)) (by subst hr9; first | exact rs_in (by rw [← hj]; exact hi2) | exact rs_out (by rw [rs_sq, ← hj]; omega)) (by omega) (by omega) (by subst hr9; first | rfl | (rw [Int.add_mul, Int.one_mul])) (by subst hr9; first | (rw [rs_sq, ← hj]; omega) | (rw [rs_A, ← hj])) (by omega) ls (lv_sub hl [0, 1, 3, 4] rfl)
        · skip
          obtain ⟨r9, hr9⟩ : ∃ r9 : Int, r9 = 2 * r + 1 := ⟨_, rfl⟩
          refine lv_iload_n hx hb dX0_root_24 rfl (lv_at hl 3 rfl) ?_
          refine lv_iload_n hx hb dX0_root_25 rfl (lv_at hl 2 rfl) ?_
          refine lv_iload hx hb dX0_root_26 (lv_at hl 0 rfl) ?_
          refine k_iadd hx hb dX0_root_28 ?_
          refine k_isub hx hb dX0_root_29 ?_
          refine lv_istore_n (lv' := [(1, .int (iI ((n - r * 2 ^ j * (r * 2 ^ j)) - ((r * 4 ^ j) + (4 ^ i))))), (4, .int (iI (4 ^ i))), (3, .int (iI (2 * (j : Int) - 2))), (2, .int (iI (r * 4 ^ j))), (0, .int (iI n))]) hx hb dX0_root_30 rfl hl (by decide) rfl (fun ls hl => ?_)
          refine lv_iload_n hx hb dX0_root_31 rfl (lv_at hl 3 rfl) ?_
          refine k_iconst hx hb dX0_root_32 ?_
          refine k_ishr hx hb dX0_root_33 (by omega) (by omega) ?_
          refine k_eqI (v := (r * 4 ^ j) / 2 ^ (1 : Int).toNat) (w := 2 * r * 4 ^ i) (by rw [hj]; exact rs_half r i) ?_
          refine lv_iload hx hb dX0_root_34 (lv_at hl 1 rfl) ?_
          refine k_iadd hx hb dX0_root_36 ?_
          refine lv_istore_n (lv' := [(2, .int (iI ((2 * r * 4 ^ i) + (4 ^ i)))), (1, .int (iI ((n - r * 2 ^ j * (r * 2 ^ j)) - ((r * 4 ^ j) + (4 ^ i))))), (4, .int (iI (4 ^ i))), (3, .int (iI (2 * (j : Int) - 2))), (0, .int (iI n))]) hx hb dX0_root_37 rfl hl (by decide) rfl (fun ls hl => ?_)
          refine lv_goto (tgt := 45) hx hb dX0_root_38 (by decide) ?_
          refine lv_iinc (v := iI ((2 * (j : Int) - 2) + (-2))) (lv' := [(3, .int (iI ((2 * (j : Int) - 2) + (-2)))), (2, .int (iI ((2 * r * 4 ^ i) + (4 ^ i)))), (1, .int (iI ((n - r * 2 ^ j * (r * 2 ^ j)) - ((r * 4 ^ j) + (4 ^ i))))), (4, .int (iI (4 ^ i))), (0, .int (iI n))]) hx hb dX0_root_45 hl (k := 3) rfl (iI_add _ _) (by decide) rfl (fun ls hl => ?_)
          refine lv_goto (tgt := 7) hx hb dX0_root_48 (by decide) ?_
          exact ih7 i r9 ((2 * (j : Int) - 2) + (-2)) ((2 * r * 4 ^ i) + (4 ^ i)) ((n - r * 2 ^ j * (r * 2 ^ j)) - ((r * 4 ^ j) + (4 ^ i))) (by omega) (by subst hr9; first | (rw [rs_sq, ← hj]; omega) | (rw [rs_A, ← hj]; exact hi1)) (by subst hr9; first | exact rs_in (by rw [← hj]; exact hi2) | exact rs_out (by rw [rs_sq, ← hj]; omega)) (by omega) (by omega) (by subst hr9; first | rfl | (rw [Int.add_mul, Int.one_mul])) (by subst hr9; first | (rw [rs_sq, ← hj]; omega) | (rw [rs_A, ← hj])) (by omega) ls (lv_sub hl [0, 1, 2, 4] rfl)
  exact loop7 (((16 : Int) : Int) + 1).toNat 16 0 30 0 n (by omega) (by rw [Int.zero_mul, Int.zero_mul]; omega) (by have e : (2 : Int) ^ 16 = 65536 := (by decide); rw [e]; omega) (by omega) (by decide) (by rw [Int.zero_mul]) (by rw [Int.zero_mul, Int.zero_mul, Int.sub_zero]) (by omega) ls (lv_sub hl [0, 1, 2, 3] rfl)
set_option maxHeartbeats 4000000 in
set_option maxRecDepth 100000 in
theorem c_X0_angle (l : Launch) (D : va_G) (cy : Nat → ClassId) (dx dy : Int) (h1 : -7000 ≤ dx ∧ dx ≤ 7000) (h2 : -7000 ≤ dy ∧ dy ≤ 7000) : Met l yX0_angle wsX0_angle { frames := 1, cells := 0, slots := 0, locals := 22 } (kPre (GG D cy) D [] ([.int (iI dx), .int (iI dy)] : List Value)) (kRO (fun r => r = angF dx dy)) 0 0 (fun _ => False) := by
  refine kRO_start (cc := cX0_angle) (maxL := 9) (ret := (some .int)) (by decide) rfl (Nat.le_of_ble_eq_true rfl) ?_
  intro p e s m below meth c hx hb hr hlocks hml hts hown hG hP ls hl
  have hK := hG.1
  have hl : lv_has ls 9 [(0, .int (iI dx)), (1, .int (iI dy))] := hl
  have hm0 := hts (.fieldLink RX0 10 "ArcPlate$Arc" "TURNS" "[I") (by decide +kernel)
  have hm1 := hts (.constant RX0 16 (360000)) (by decide +kernel)
  have hm2 := hts (.constant RX0 9 (180000)) (by decide +kernel)
  have hz := absI_spec dx
  have join20 : ∀ (z0 : Int) (ji0 : ¬ (dx = 0 ∧ dy = 0)) (jez0 : z0 = if dx < 0 then 180000 else 0) (ls : Array Slot) (hl : lv_has ls 9 [(0, .int (iI dx)), (1, .int (iI dy))]), W p l e { frames := 1, cells := 0, slots := 0, locals := 22 } s m ([.int (iI dx), .int (iI dy)] : List Value).toArray below meth c s.heap [] 0 0 (MQ below (kRO (fun r => r = angF dx dy)) ([.int (iI dx), .int (iI dy)] : List Value).toArray s 0 0 (fun _ => False)) (F0 m 20 ls [.int (iI z0)]) := by
    intro z0 ji0 jez0 ls hl
    subst jez0
    refine lv_istore_n (lv' := [(2, .int (iI (if dx < 0 then 180000 else 0))), (0, .int (iI dx)), (1, .int (iI dy))]) hx hb dX0_angle_20 rfl hl (by decide) rfl (fun ls hl => ?_)
    have join34 : ∀ (z0 : Int) (jez0 : z0 = if dx < 0 then -1024 else 1024) (ls : Array Slot) (hl : lv_has ls 9 [(2, .int (iI (if dx < 0 then 180000 else 0))), (0, .int (iI dx)), (1, .int (iI dy))]), W p l e { frames := 1, cells := 0, slots := 0, locals := 22 } s m ([.int (iI dx), .int (iI dy)] : List Value).toArray below meth c s.heap [] 0 0 (MQ below (kRO (fun r => r = angF dx dy)) ([.int (iI dx), .int (iI dy)] : List Value).toArray s 0 0 (fun _ => False)) (F0 m 34 ls [.int (iI z0)]) := by
      intro z0 jez0 ls hl
      subst jez0
      refine lv_istore_n (lv' := [(3, .int (iI (if dx < 0 then -1024 else 1024))), (2, .int (iI (if dx < 0 then 180000 else 0))), (0, .int (iI dx)), (1, .int (iI dy))]) hx hb dX0_angle_34 rfl hl (by decide) rfl (fun ls hl => ?_)
      refine lv_iload_n hx hb dX0_angle_35 rfl (lv_at hl 0 rfl) ?_
      refine lv_iload_n hx hb dX0_angle_36 rfl (lv_at hl 2 rfl) ?_
      refine k_imul hx hb dX0_angle_37 ?_
      refine lv_istore (lv' := [(4, .int (iI ((if dx < 0 then -1024 else 1024) * dx))), (3, .int (iI (if dx < 0 then -1024 else 1024))), (2, .int (iI (if dx < 0 then 180000 else 0))), (0, .int (iI dx)), (1, .int (iI dy))]) hx hb dX0_angle_38 hl (by decide) rfl (fun ls hl => ?_)
      refine lv_iload_n hx hb dX0_angle_40 rfl (lv_at hl 1 rfl) ?_
      refine lv_iload_n hx hb dX0_angle_41 rfl (lv_at hl 4 rfl) ?_
      refine k_imul hx hb dX0_angle_42 ?_
      refine lv_istore (lv' := [(5, .int (iI ((if dx < 0 then -1024 else 1024) * dy))), (4, .int (iI ((if dx < 0 then -1024 else 1024) * dx))), (3, .int (iI (if dx < 0 then -1024 else 1024))), (2, .int (iI (if dx < 0 then 180000 else 0))), (0, .int (iI dx)), (1, .int (iI dy))]) hx hb dX0_angle_43 hl (by decide) rfl (fun ls hl => ?_)
      refine k_iconst hx hb dX0_angle_45 ?_
      refine lv_istore (lv' := [(6, .int (iI 0)), (5, .int (iI ((if dx < 0 then -1024 else 1024) * dy))), (4, .int (iI ((if dx < 0 then -1024 else 1024) * dx))), (3, .int (iI (if dx < 0 then -1024 else 1024))), (2, .int (iI (if dx < 0 then 180000 else 0))), (0, .int (iI dx)), (1, .int (iI dy))]) hx hb dX0_angle_46 hl (by decide) rfl (fun ls hl => ?_)
      have loop48 : ∀ (n_1 : Nat) (k : Int) (x5 : Int) (x4 : Int) (x2 : Int) (hi0 : 0 ≤ k) (hi1 : k ≤ 16) (hex5 : x5 = (cdc (1024 * absI dx) (1024 * (if dx < 0 then -dy else dy)) (if dx < 0 then 180000 else 0) k.toNat).2.1) (hex4 : x4 = (cdc (1024 * absI dx) (1024 * (if dx < 0 then -dy else dy)) (if dx < 0 then 180000 else 0) k.toNat).1) (hex2 : x2 = (cdc (1024 * absI dx) (1024 * (if dx < 0 then -dy else dy)) (if dx < 0 then 180000 else 0) k.toNat).2.2) (hn : 16 - k < (n_1 : Int)) (ls : Array Slot) (hl : lv_has ls 9 [(6, .int (iI k)), (5, .int (iI x5)), (4, .int (iI x4)), (2, .int (iI x2)), (0, .int (iI dx)), (1, .int (iI dy))]), W p l e { frames := 1, cells := 0, slots := 0, locals := 22 } s m ([.int (iI dx), .int (iI dy)] : List Value).toArray below meth c s.heap [] 0 0 (MQ below (kRO (fun r => r = angF dx dy)) ([.int (iI dx), .int (iI dy)] : List Value).toArray s 0 0 (fun _ => False)) (F0 m 48 ls []) := by
        intro n_1
        induction n_1 with
        | zero => intro k x5 x4 x2 hi0 hi1 hex5 hex4 hex2 hn ls hl; exfalso; omega
        | succ n_1 ih48 =>
          intro k x5 x4 x2 hi0 hi1 hex5 hex4 hex2 hn ls hl
          subst hex5
          subst hex4
          subst hex2
          have hc := ang_bd h1 h2 k.toNat (by omega)
          have hk := cbd_le k.toNat (by omega)
          refine lv_iload hx hb dX0_angle_48 (lv_at hl 0 rfl) ?_
          obtain ⟨t_2, hZt_2, hTt_2⟩ := hG.2.2.1
          refine va_gets hx hb hZt_2 (va_S.rf) hown hm0 (fun _ h9 => h9) dX0_angle_50 ?_
          refine k_tlen hx hb hTt_2 (va_S.rf) 16 rfl dX0_angle_53 ?_
          refine k_icmp_ge (tgt := 136) hx hb dX0_angle_54 (by decide) (by omega) (by omega) (fun c_3 => ?_) (fun c_3 => ?_)
          · skip
            refine lv_iload_n hx hb dX0_angle_136 rfl (lv_at hl 3 rfl) ?_
            refine k_ldc (z := 360000) hx hb hown hm1 (by decide +kernel) dX0_angle_137 ?_
            refine k_roS (As := [.int (iI ((cdc (1024 * absI dx) (1024 * (if dx < 0 then -dy else dy)) (if dx < 0 then 180000 else 0) k.toNat).2.2)), .int (iI 360000)]) (rest := []) ⟨hx, hb, hml, hown, hts⟩ (c_J9_floorMod_7cf53 l D ((cdc (1024 * absI dx) (1024 * (if dx < 0 then -dy else dy)) (if dx < 0 then 180000 else 0) k.toNat).2.2) 360000 (show -2147483648 ≤ ((cdc (1024 * absI dx) (1024 * (if dx < 0 then -dy else dy)) (if dx < 0 then 180000 else 0) k.toNat).2.2) ∧ ((cdc (1024 * absI dx) (1024 * (if dx < 0 then -dy else dy)) (if dx < 0 then 180000 else 0) k.toNat).2.2) ≤ 2147483647 by omega) (show 0 < 360000 ∧ 360000 ≤ 1073741824 by omega)) gX0_angle_J9_floorMod_7cf53 rfl ⟨rfl, rfl⟩ 2 rfl (by decide +kernel) ⟨Nat.le_of_ble_eq_true rfl, Nat.le_of_ble_eq_true rfl⟩ kGT_ok trivial (fun k q h => by simp at h) hl.1 rfl (Nat.le_of_ble_eq_true rfl) ⟨Nat.le_of_ble_eq_true rfl, Nat.le_of_ble_eq_true rfl⟩ dX0_angle_139 (fun r_4 hr_4 => ?_)
            have hr_4 : r_4 = ((cdc (1024 * absI dx) (1024 * (if dx < 0 then -dy else dy)) (if dx < 0 then 180000 else 0) k.toNat).2.2) % 360000 := hr_4
            subst hr_4
            exact W.iret (v := iI (((cdc (1024 * absI dx) (1024 * (if dx < 0 then -dy else dy)) (if dx < 0 then 180000 else 0) k.toNat).2.2) % 360000)) hx hb hr (fun t9 ht _ => ⟨(((cdc (1024 * absI dx) (1024 * (if dx < 0 then -dy else dy)) (if dx < 0 then 180000 else 0) k.toNat).2.2) % 360000), rfl, (by have h9 : k = 16 := (by omega); subst h9; unfold angF; rw [if_neg ji0]; rfl : (((cdc (1024 * absI dx) (1024 * (if dx < 0 then -dy else dy)) (if dx < 0 then 180000 else 0) k.toNat).2.2) % 360000 : Int) = angF dx dy), ht⟩) (fun _ h => nomatch h) dX0_angle_142 hlocks
          · skip
            refine lv_iload hx hb dX0_angle_57 (lv_at hl 2 rfl) ?_
            refine lv_iload hx hb dX0_angle_59 (lv_at hl 0 rfl) ?_
            refine k_ishr hx hb dX0_angle_61 (by omega) (by omega) ?_
            refine lv_istore (lv' := [(7, .int (iI (((cdc (1024 * absI dx) (1024 * (if dx < 0 then -dy else dy)) (if dx < 0 then 180000 else 0) k.toNat).1) / 2 ^ k.toNat))), (6, .int (iI k)), (5, .int (iI ((cdc (1024 * absI dx) (1024 * (if dx < 0 then -dy else dy)) (if dx < 0 then 180000 else 0) k.toNat).2.1))), (4, .int (iI ((cdc (1024 * absI dx) (1024 * (if dx < 0 then -dy else dy)) (if dx < 0 then 180000 else 0) k.toNat).1))), (2, .int (iI ((cdc (1024 * absI dx) (1024 * (if dx < 0 then -dy else dy)) (if dx < 0 then 180000 else 0) k.toNat).2.2))), (0, .int (iI dx)), (1, .int (iI dy))]) hx hb dX0_angle_62 hl (by decide) rfl (fun ls hl => ?_)
            refine lv_iload hx hb dX0_angle_64 (lv_at hl 2 rfl) ?_
            refine lv_iload hx hb dX0_angle_66 (lv_at hl 1 rfl) ?_
            refine k_ishr hx hb dX0_angle_68 (by omega) (by omega) ?_
            refine lv_istore (lv' := [(8, .int (iI (((cdc (1024 * absI dx) (1024 * (if dx < 0 then -dy else dy)) (if dx < 0 then 180000 else 0) k.toNat).2.1) / 2 ^ k.toNat))), (7, .int (iI (((cdc (1024 * absI dx) (1024 * (if dx < 0 then -dy else dy)) (if dx < 0 then 180000 else 0) k.toNat).1) / 2 ^ k.toNat))), (6, .int (iI k)), (5, .int (iI ((cdc (1024 * absI dx) (1024 * (if dx < 0 then -dy else dy)) (if dx < 0 then 180000 else 0) k.toNat).2.1))), (4, .int (iI ((cdc (1024 * absI dx) (1024 * (if dx < 0 then -dy else dy)) (if dx < 0 then 180000 else 0) k.toNat).1))), (2, .int (iI ((cdc (1024 * absI dx) (1024 * (if dx < 0 then -dy else dy)) (if dx < 0 then 180000 else 0) k.toNat).2.2))), (0, .int (iI dx)), (1, .int (iI dy))]) hx hb dX0_angle_69 hl (by decide) rfl (fun ls hl => ?_)
            refine lv_iload hx hb dX0_angle_71 (lv_at hl 3 rfl) ?_
            refine k_if_le (tgt := 102) hx hb dX0_angle_73 (by decide) (by omega) (fun c_5 => ?_) (fun c_5 => ?_)
            · skip
              refine lv_iload hx hb dX0_angle_102 (lv_at hl 3 rfl) ?_
              refine k_if_ge (tgt := 130) hx hb dX0_angle_104 (by decide) (by omega) (fun c_6 => ?_) (fun c_6 => ?_)
              · skip
                refine lv_iinc (v := iI (k + 1)) (lv' := [(6, .int (iI (k + 1))), (8, .int (iI (((cdc (1024 * absI dx) (1024 * (if dx < 0 then -dy else dy)) (if dx < 0 then 180000 else 0) k.toNat).2.1) / 2 ^ k.toNat))), (7, .int (iI (((cdc (1024 * absI dx) (1024 * (if dx < 0 then -dy else dy)) (if dx < 0 then 180000 else 0) k.toNat).1) / 2 ^ k.toNat))), (5, .int (iI ((cdc (1024 * absI dx) (1024 * (if dx < 0 then -dy else dy)) (if dx < 0 then 180000 else 0) k.toNat).2.1))), (4, .int (iI ((cdc (1024 * absI dx) (1024 * (if dx < 0 then -dy else dy)) (if dx < 0 then 180000 else 0) k.toNat).1))), (2, .int (iI ((cdc (1024 * absI dx) (1024 * (if dx < 0 then -dy else dy)) (if dx < 0 then 180000 else 0) k.toNat).2.2))), (0, .int (iI dx)), (1, .int (iI dy))]) hx hb dX0_angle_130 hl (k := 2) rfl (iI_add _ _) (by decide) rfl (fun ls hl => ?_)
                refine lv_goto (tgt := 48) hx hb dX0_angle_133 (by decide) ?_
                exact ih48 (k + 1) ((cdc (1024 * absI dx) (1024 * (if dx < 0 then -dy else dy)) (if dx < 0 then 180000 else 0) k.toNat).2.1) ((cdc (1024 * absI dx) (1024 * (if dx < 0 then -dy else dy)) (if dx < 0 then 180000 else 0) k.toNat).1) ((cdc (1024 * absI dx) (1024 * (if dx < 0 then -dy else dy)) (if dx < 0 then 180000 else 0) k.toNat).2.2) (by omega) (by omega) (by first | (rw [cdc_s1 hi0 (by assumption)]; done) | (rw [cdc_s2 hi0 (by assumption)]; done) | (rw [cdc_s0 hi0 (by omega)]; done) | (rw [cdc_s1 hi0 (by assumption)]; (try dsimp only); omega) | (rw [cdc_s2 hi0 (by assumption)]; (try dsimp only); omega)) (by first | (rw [cdc_s1 hi0 (by assumption)]; done) | (rw [cdc_s2 hi0 (by assumption)]; done) | (rw [cdc_s0 hi0 (by omega)]; done) | (rw [cdc_s1 hi0 (by assumption)]; (try dsimp only); omega) | (rw [cdc_s2 hi0 (by assumption)]; (try dsimp only); omega)) (by first | (rw [cdc_s1 hi0 (by assumption)]; done) | (rw [cdc_s2 hi0 (by assumption)]; done) | (rw [cdc_s0 hi0 (by omega)]; done) | (rw [cdc_s1 hi0 (by assumption)]; (try dsimp only); omega) | (rw [cdc_s2 hi0 (by assumption)]; (try dsimp only); omega)) (by omega) ls (lv_sub hl [0, 3, 4, 5, 6, 7] rfl)
              · skip
                refine lv_iload hx hb dX0_angle_107 (lv_at hl 4 rfl) ?_
                refine lv_iload hx hb dX0_angle_109 (lv_at hl 0 rfl) ?_
                refine k_isub hx hb dX0_angle_111 ?_
                refine lv_istore (lv' := [(4, .int (iI (((cdc (1024 * absI dx) (1024 * (if dx < 0 then -dy else dy)) (if dx < 0 then 180000 else 0) k.toNat).1) - (((cdc (1024 * absI dx) (1024 * (if dx < 0 then -dy else dy)) (if dx < 0 then 180000 else 0) k.toNat).2.1) / 2 ^ k.toNat)))), (8, .int (iI (((cdc (1024 * absI dx) (1024 * (if dx < 0 then -dy else dy)) (if dx < 0 then 180000 else 0) k.toNat).2.1) / 2 ^ k.toNat))), (7, .int (iI (((cdc (1024 * absI dx) (1024 * (if dx < 0 then -dy else dy)) (if dx < 0 then 180000 else 0) k.toNat).1) / 2 ^ k.toNat))), (6, .int (iI k)), (5, .int (iI ((cdc (1024 * absI dx) (1024 * (if dx < 0 then -dy else dy)) (if dx < 0 then 180000 else 0) k.toNat).2.1))), (2, .int (iI ((cdc (1024 * absI dx) (1024 * (if dx < 0 then -dy else dy)) (if dx < 0 then 180000 else 0) k.toNat).2.2))), (0, .int (iI dx)), (1, .int (iI dy))]) hx hb dX0_angle_112 hl (by decide) rfl (fun ls hl => ?_)
                refine lv_iload hx hb dX0_angle_114 (lv_at hl 4 rfl) ?_
                refine lv_iload hx hb dX0_angle_116 (lv_at hl 2 rfl) ?_
                refine k_iadd hx hb dX0_angle_118 ?_
                refine lv_istore (lv' := [(5, .int (iI (((cdc (1024 * absI dx) (1024 * (if dx < 0 then -dy else dy)) (if dx < 0 then 180000 else 0) k.toNat).2.1) + (((cdc (1024 * absI dx) (1024 * (if dx < 0 then -dy else dy)) (if dx < 0 then 180000 else 0) k.toNat).1) / 2 ^ k.toNat)))), (4, .int (iI (((cdc (1024 * absI dx) (1024 * (if dx < 0 then -dy else dy)) (if dx < 0 then 180000 else 0) k.toNat).1) - (((cdc (1024 * absI dx) (1024 * (if dx < 0 then -dy else dy)) (if dx < 0 then 180000 else 0) k.toNat).2.1) / 2 ^ k.toNat)))), (8, .int (iI (((cdc (1024 * absI dx) (1024 * (if dx < 0 then -dy else dy)) (if dx < 0 then 180000 else 0) k.toNat).2.1) / 2 ^ k.toNat))), (7, .int (iI (((cdc (1024 * absI dx) (1024 * (if dx < 0 then -dy else dy)) (if dx < 0 then 180000 else 0) k.toNat).1) / 2 ^ k.toNat))), (6, .int (iI k)), (2, .int (iI ((cdc (1024 * absI dx) (1024 * (if dx < 0 then -dy else dy)) (if dx < 0 then 180000 else 0) k.toNat).2.2))), (0, .int (iI dx)), (1, .int (iI dy))]) hx hb dX0_angle_119 hl (by decide) rfl (fun ls hl => ?_)
                refine lv_iload_n hx hb dX0_angle_121 rfl (lv_at hl 5 rfl) ?_
                obtain ⟨t_7, hZt_7, hTt_7⟩ := hG.2.2.1
                refine va_gets hx hb hZt_7 (va_S.rf) hown hm0 (fun _ h9 => h9) dX0_angle_122 ?_
                refine lv_iload hx hb dX0_angle_125 (lv_at hl 4 rfl) ?_
                refine k_tald hx hb hTt_7 (va_S.rf) (by omega) dX0_angle_127 ?_
                refine k_isub hx hb dX0_angle_128 ?_
                refine lv_istore_n (lv' := [(2, .int (iI (((cdc (1024 * absI dx) (1024 * (if dx < 0 then -dy else dy)) (if dx < 0 then 180000 else 0) k.toNat).2.2) - (turnsI k)))), (5, .int (iI (((cdc (1024 * absI dx) (1024 * (if dx < 0 then -dy else dy)) (if dx < 0 then 180000 else 0) k.toNat).2.1) + (((cdc (1024 * absI dx) (1024 * (if dx < 0 then -dy else dy)) (if dx < 0 then 180000 else 0) k.toNat).1) / 2 ^ k.toNat)))), (4, .int (iI (((cdc (1024 * absI dx) (1024 * (if dx < 0 then -dy else dy)) (if dx < 0 then 180000 else 0) k.toNat).1) - (((cdc (1024 * absI dx) (1024 * (if dx < 0 then -dy else dy)) (if dx < 0 then 180000 else 0) k.toNat).2.1) / 2 ^ k.toNat)))), (8, .int (iI (((cdc (1024 * absI dx) (1024 * (if dx < 0 then -dy else dy)) (if dx < 0 then 180000 else 0) k.toNat).2.1) / 2 ^ k.toNat))), (7, .int (iI (((cdc (1024 * absI dx) (1024 * (if dx < 0 then -dy else dy)) (if dx < 0 then 180000 else 0) k.toNat).1) / 2 ^ k.toNat))), (6, .int (iI k)), (0, .int (iI dx)), (1, .int (iI dy))]) hx hb dX0_angle_129 rfl hl (by decide) rfl (fun ls hl => ?_)
                refine lv_iinc (v := iI (k + 1)) (lv' := [(6, .int (iI (k + 1))), (2, .int (iI (((cdc (1024 * absI dx) (1024 * (if dx < 0 then -dy else dy)) (if dx < 0 then 180000 else 0) k.toNat).2.2) - (turnsI k)))), (5, .int (iI (((cdc (1024 * absI dx) (1024 * (if dx < 0 then -dy else dy)) (if dx < 0 then 180000 else 0) k.toNat).2.1) + (((cdc (1024 * absI dx) (1024 * (if dx < 0 then -dy else dy)) (if dx < 0 then 180000 else 0) k.toNat).1) / 2 ^ k.toNat)))), (4, .int (iI (((cdc (1024 * absI dx) (1024 * (if dx < 0 then -dy else dy)) (if dx < 0 then 180000 else 0) k.toNat).1) - (((cdc (1024 * absI dx) (1024 * (if dx < 0 then -dy else dy)) (if dx < 0 then 180000 else 0) k.toNat).2.1) / 2 ^ k.toNat)))), (8, .int (iI (((cdc (1024 * absI dx) (1024 * (if dx < 0 then -dy else dy)) (if dx < 0 then 180000 else 0) k.toNat).2.1) / 2 ^ k.toNat))), (7, .int (iI (((cdc (1024 * absI dx) (1024 * (if dx < 0 then -dy else dy)) (if dx < 0 then 180000 else 0) k.toNat).1) / 2 ^ k.toNat))), (0, .int (iI dx)), (1, .int (iI dy))]) hx hb dX0_angle_130 hl (k := 5) rfl (iI_add _ _) (by decide) rfl (fun ls hl => ?_)
                refine lv_goto (tgt := 48) hx hb dX0_angle_133 (by decide) ?_
                exact ih48 (k + 1) (((cdc (1024 * absI dx) (1024 * (if dx < 0 then -dy else dy)) (if dx < 0 then 180000 else 0) k.toNat).2.1) + (((cdc (1024 * absI dx) (1024 * (if dx < 0 then -dy else dy)) (if dx < 0 then 180000 else 0) k.toNat).1) / 2 ^ k.toNat)) (((cdc (1024 * absI dx) (1024 * (if dx < 0 then -dy else dy)) (if dx < 0 then 180000 else 0) k.toNat).1) - (((cdc (1024 * absI dx) (1024 * (if dx < 0 then -dy else dy)) (if dx < 0 then 180000 else 0) k.toNat).2.1) / 2 ^ k.toNat)) (((cdc (1024 * absI dx) (1024 * (if dx < 0 then -dy else dy)) (if dx < 0 then 180000 else 0) k.toNat).2.2) - (turnsI k)) (by omega) (by omega) (by first | (rw [cdc_s1 hi0 (by assumption)]; done) | (rw [cdc_s2 hi0 (by assumption)]; done) | (rw [cdc_s0 hi0 (by omega)]; done) | (rw [cdc_s1 hi0 (by assumption)]; (try dsimp only); omega) | (rw [cdc_s2 hi0 (by assumption)]; (try dsimp only); omega)) (by first | (rw [cdc_s1 hi0 (by assumption)]; done) | (rw [cdc_s2 hi0 (by assumption)]; done) | (rw [cdc_s0 hi0 (by omega)]; done) | (rw [cdc_s1 hi0 (by assumption)]; (try dsimp only); omega) | (rw [cdc_s2 hi0 (by assumption)]; (try dsimp only); omega)) (by first | (rw [cdc_s1 hi0 (by assumption)]; done) | (rw [cdc_s2 hi0 (by assumption)]; done) | (rw [cdc_s0 hi0 (by omega)]; done) | (rw [cdc_s1 hi0 (by assumption)]; (try dsimp only); omega) | (rw [cdc_s2 hi0 (by assumption)]; (try dsimp only); omega)) (by omega) ls (lv_sub hl [0, 2, 3, 1, 6, 7] rfl)
            · skip
              refine lv_iload hx hb dX0_angle_76 (lv_at hl 4 rfl) ?_
              refine lv_iload hx hb dX0_angle_78 (lv_at hl 0 rfl) ?_
              refine k_iadd hx hb dX0_angle_80 ?_
              refine lv_istore (lv' := [(4, .int (iI (((cdc (1024 * absI dx) (1024 * (if dx < 0 then -dy else dy)) (if dx < 0 then 180000 else 0) k.toNat).1) + (((cdc (1024 * absI dx) (1024 * (if dx < 0 then -dy else dy)) (if dx < 0 then 180000 else 0) k.toNat).2.1) / 2 ^ k.toNat)))), (8, .int (iI (((cdc (1024 * absI dx) (1024 * (if dx < 0 then -dy else dy)) (if dx < 0 then 180000 else 0) k.toNat).2.1) / 2 ^ k.toNat))), (7, .int (iI (((cdc (1024 * absI dx) (1024 * (if dx < 0 then -dy else dy)) (if dx < 0 then 180000 else 0) k.toNat).1) / 2 ^ k.toNat))), (6, .int (iI k)), (5, .int (iI ((cdc (1024 * absI dx) (1024 * (if dx < 0 then -dy else dy)) (if dx < 0 then 180000 else 0) k.toNat).2.1))), (2, .int (iI ((cdc (1024 * absI dx) (1024 * (if dx < 0 then -dy else dy)) (if dx < 0 then 180000 else 0) k.toNat).2.2))), (0, .int (iI dx)), (1, .int (iI dy))]) hx hb dX0_angle_81 hl (by decide) rfl (fun ls hl => ?_)
              refine lv_iload hx hb dX0_angle_83 (lv_at hl 4 rfl) ?_
              refine lv_iload hx hb dX0_angle_85 (lv_at hl 2 rfl) ?_
              refine k_isub hx hb dX0_angle_87 ?_
              refine lv_istore (lv' := [(5, .int (iI (((cdc (1024 * absI dx) (1024 * (if dx < 0 then -dy else dy)) (if dx < 0 then 180000 else 0) k.toNat).2.1) - (((cdc (1024 * absI dx) (1024 * (if dx < 0 then -dy else dy)) (if dx < 0 then 180000 else 0) k.toNat).1) / 2 ^ k.toNat)))), (4, .int (iI (((cdc (1024 * absI dx) (1024 * (if dx < 0 then -dy else dy)) (if dx < 0 then 180000 else 0) k.toNat).1) + (((cdc (1024 * absI dx) (1024 * (if dx < 0 then -dy else dy)) (if dx < 0 then 180000 else 0) k.toNat).2.1) / 2 ^ k.toNat)))), (8, .int (iI (((cdc (1024 * absI dx) (1024 * (if dx < 0 then -dy else dy)) (if dx < 0 then 180000 else 0) k.toNat).2.1) / 2 ^ k.toNat))), (7, .int (iI (((cdc (1024 * absI dx) (1024 * (if dx < 0 then -dy else dy)) (if dx < 0 then 180000 else 0) k.toNat).1) / 2 ^ k.toNat))), (6, .int (iI k)), (2, .int (iI ((cdc (1024 * absI dx) (1024 * (if dx < 0 then -dy else dy)) (if dx < 0 then 180000 else 0) k.toNat).2.2))), (0, .int (iI dx)), (1, .int (iI dy))]) hx hb dX0_angle_88 hl (by decide) rfl (fun ls hl => ?_)
              refine lv_iload_n hx hb dX0_angle_90 rfl (lv_at hl 5 rfl) ?_
              obtain ⟨t_8, hZt_8, hTt_8⟩ := hG.2.2.1
              refine va_gets hx hb hZt_8 (va_S.rf) hown hm0 (fun _ h9 => h9) dX0_angle_91 ?_
              refine lv_iload hx hb dX0_angle_94 (lv_at hl 4 rfl) ?_
              refine k_tald hx hb hTt_8 (va_S.rf) (by omega) dX0_angle_96 ?_
              refine k_iadd hx hb dX0_angle_97 ?_
              refine lv_istore_n (lv' := [(2, .int (iI (((cdc (1024 * absI dx) (1024 * (if dx < 0 then -dy else dy)) (if dx < 0 then 180000 else 0) k.toNat).2.2) + (turnsI k)))), (5, .int (iI (((cdc (1024 * absI dx) (1024 * (if dx < 0 then -dy else dy)) (if dx < 0 then 180000 else 0) k.toNat).2.1) - (((cdc (1024 * absI dx) (1024 * (if dx < 0 then -dy else dy)) (if dx < 0 then 180000 else 0) k.toNat).1) / 2 ^ k.toNat)))), (4, .int (iI (((cdc (1024 * absI dx) (1024 * (if dx < 0 then -dy else dy)) (if dx < 0 then 180000 else 0) k.toNat).1) + (((cdc (1024 * absI dx) (1024 * (if dx < 0 then -dy else dy)) (if dx < 0 then 180000 else 0) k.toNat).2.1) / 2 ^ k.toNat)))), (8, .int (iI (((cdc (1024 * absI dx) (1024 * (if dx < 0 then -dy else dy)) (if dx < 0 then 180000 else 0) k.toNat).2.1) / 2 ^ k.toNat))), (7, .int (iI (((cdc (1024 * absI dx) (1024 * (if dx < 0 then -dy else dy)) (if dx < 0 then 180000 else 0) k.toNat).1) / 2 ^ k.toNat))), (6, .int (iI k)), (0, .int (iI dx)), (1, .int (iI dy))]) hx hb dX0_angle_98 rfl hl (by decide) rfl (fun ls hl => ?_)
              refine lv_goto (tgt := 130) hx hb dX0_angle_99 (by decide) ?_
              refine lv_iinc (v := iI (k + 1)) (lv' := [(6, .int (iI (k + 1))), (2, .int (iI (((cdc (1024 * absI dx) (1024 * (if dx < 0 then -dy else dy)) (if dx < 0 then 180000 else 0) k.toNat).2.2) + (turnsI k)))), (5, .int (iI (((cdc (1024 * absI dx) (1024 * (if dx < 0 then -dy else dy)) (if dx < 0 then 180000 else 0) k.toNat).2.1) - (((cdc (1024 * absI dx) (1024 * (if dx < 0 then -dy else dy)) (if dx < 0 then 180000 else 0) k.toNat).1) / 2 ^ k.toNat)))), (4, .int (iI (((cdc (1024 * absI dx) (1024 * (if dx < 0 then -dy else dy)) (if dx < 0 then 180000 else 0) k.toNat).1) + (((cdc (1024 * absI dx) (1024 * (if dx < 0 then -dy else dy)) (if dx < 0 then 180000 else 0) k.toNat).2.1) / 2 ^ k.toNat)))), (8, .int (iI (((cdc (1024 * absI dx) (1024 * (if dx < 0 then -dy else dy)) (if dx < 0 then 180000 else 0) k.toNat).2.1) / 2 ^ k.toNat))), (7, .int (iI (((cdc (1024 * absI dx) (1024 * (if dx < 0 then -dy else dy)) (if dx < 0 then 180000 else 0) k.toNat).1) / 2 ^ k.toNat))), (0, .int (iI dx)), (1, .int (iI dy))]) hx hb dX0_angle_130 hl (k := 5) rfl (iI_add _ _) (by decide) rfl (fun ls hl => ?_)
              refine lv_goto (tgt := 48) hx hb dX0_angle_133 (by decide) ?_
              exact ih48 (k + 1) (((cdc (1024 * absI dx) (1024 * (if dx < 0 then -dy else dy)) (if dx < 0 then 180000 else 0) k.toNat).2.1) - (((cdc (1024 * absI dx) (1024 * (if dx < 0 then -dy else dy)) (if dx < 0 then 180000 else 0) k.toNat).1) / 2 ^ k.toNat)) (((cdc (1024 * absI dx) (1024 * (if dx < 0 then -dy else dy)) (if dx < 0 then 180000 else 0) k.toNat).1) + (((cdc (1024 * absI dx) (1024 * (if dx < 0 then -dy else dy)) (if dx < 0 then 180000 else 0) k.toNat).2.1) / 2 ^ k.toNat)) (((cdc (1024 * absI dx) (1024 * (if dx < 0 then -dy else dy)) (if dx < 0 then 180000 else 0) k.toNat).2.2) + (turnsI k)) (by omega) (by omega) (by first | (rw [cdc_s1 hi0 (by assumption)]; done) | (rw [cdc_s2 hi0 (by assumption)]; done) | (rw [cdc_s0 hi0 (by omega)]; done) | (rw [cdc_s1 hi0 (by assumption)]; (try dsimp only); omega) | (rw [cdc_s2 hi0 (by assumption)]; (try dsimp only); omega)) (by first | (rw [cdc_s1 hi0 (by assumption)]; done) | (rw [cdc_s2 hi0 (by assumption)]; done) | (rw [cdc_s0 hi0 (by omega)]; done) | (rw [cdc_s1 hi0 (by assumption)]; (try dsimp only); omega) | (rw [cdc_s2 hi0 (by assumption)]; (try dsimp only); omega)) (by first | (rw [cdc_s1 hi0 (by assumption)]; done) | (rw [cdc_s2 hi0 (by assumption)]; done) | (rw [cdc_s0 hi0 (by omega)]; done) | (rw [cdc_s1 hi0 (by assumption)]; (try dsimp only); omega) | (rw [cdc_s2 hi0 (by assumption)]; (try dsimp only); omega)) (by omega) ls (lv_sub hl [0, 2, 3, 1, 6, 7] rfl)
      exact loop48 ((16 - 0 : Int) + 1).toNat 0 ((if dx < 0 then -1024 else 1024) * dy) ((if dx < 0 then -1024 else 1024) * dx) (if dx < 0 then 180000 else 0) (by omega) (by omega) (by show _ = 1024 * (if dx < 0 then -dy else dy); split <;> omega) (by show _ = 1024 * absI dx; split <;> omega) (rfl) (by omega) ls (lv_sub hl [0, 1, 2, 4, 5, 6] rfl)
    refine lv_iload_n hx hb dX0_angle_21 rfl (lv_at hl 1 rfl) ?_
    refine k_if_ge (tgt := 31) hx hb dX0_angle_22 (by decide) (by omega) (fun c_9 => ?_) (fun c_9 => ?_)
    · skip
      refine k_sipush hx hb dX0_angle_31 (by decide +kernel) ?_
      exact join34  1024 (by split <;> omega)  ls (lv_sub hl [0, 1, 2] rfl)
    · skip
      refine k_sipush hx hb dX0_angle_25 (by decide +kernel) ?_
      refine lv_goto (tgt := 34) hx hb dX0_angle_28 (by decide) ?_
      exact join34  (-1024) (by split <;> omega)  ls (lv_sub hl [0, 1, 2] rfl)
  refine lv_iload_n hx hb dX0_angle_0 rfl (lv_at hl 0 rfl) ?_
  refine k_if_ne (tgt := 10) hx hb dX0_angle_1 (by decide) (by omega) (fun c_10 => ?_) (fun c_10 => ?_)
  · skip
    refine lv_iload_n hx hb dX0_angle_10 rfl (lv_at hl 0 rfl) ?_
    refine k_if_ge (tgt := 19) hx hb dX0_angle_11 (by decide) (by omega) (fun c_11 => ?_) (fun c_11 => ?_)
    · skip
      refine k_iconst hx hb dX0_angle_19 ?_
      exact join20  0 (by omega) (by split <;> omega)  ls (lv_sub hl [0, 1] rfl)
    · skip
      refine k_ldc (z := 180000) hx hb hown hm2 (by decide +kernel) dX0_angle_14 ?_
      refine lv_goto (tgt := 20) hx hb dX0_angle_16 (by decide) ?_
      exact join20  180000 (by omega) (by split <;> omega)  ls (lv_sub hl [0, 1] rfl)
  · skip
    refine lv_iload_n hx hb dX0_angle_4 rfl (lv_at hl 1 rfl) ?_
    refine k_if_ne (tgt := 10) hx hb dX0_angle_5 (by decide) (by omega) (fun c_12 => ?_) (fun c_12 => ?_)
    · skip
      refine lv_iload_n hx hb dX0_angle_10 rfl (lv_at hl 0 rfl) ?_
      refine k_if_ge (tgt := 19) hx hb dX0_angle_11 (by decide) (by omega) (fun c_13 => ?_) (fun c_13 => ?_)
      · skip
        refine k_iconst hx hb dX0_angle_19 ?_
        exact join20  0 (by omega) (by split <;> omega)  ls (lv_sub hl [0, 1] rfl)
      · skip
        refine k_ldc (z := 180000) hx hb hown hm2 (by decide +kernel) dX0_angle_14 ?_
        refine lv_goto (tgt := 20) hx hb dX0_angle_16 (by decide) ?_
        exact join20  180000 (by omega) (by split <;> omega)  ls (lv_sub hl [0, 1] rfl)
    · skip
      refine k_iconst hx hb dX0_angle_8 ?_
      exact W.iret (v := iI 0) hx hb hr (fun t9 ht _ => ⟨0, rfl, (by unfold angF; rw [if_pos (by omega)] : (0 : Int) = angF dx dy), ht⟩) (fun _ h => nomatch h) dX0_angle_9 hlocks
