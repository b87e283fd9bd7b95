set_option maxHeartbeats 4000000 in
set_option maxRecDepth 100000 in
theorem c_X7_in (l : Launch) (D : va_G) (v least most : Int) (hrv : -2147483648 ≤ v ∧ v ≤ 2147483647) (hrleast : -2147483648 ≤ least ∧ least ≤ 2147483647) (hrmost : -2147483648 ≤ most ∧ most ≤ 2147483647) : Met l yX7_in wsX7_in { frames := 0, cells := 0, slots := 0, locals := 0 } (kPre kGT D [] ([.int (iI v), .int (iI least), .int (iI most)] : List Value)) (kRO (fun r => ((least ≤ v ∧ v ≤ most) ∧ r = 1) ∨ (¬ (least ≤ v ∧ v ≤ most) ∧ r = 0))) 0 0 (fun _ => False) := by
  refine kRO_start (cc := cX7_in) (maxL := 3) (ret := (some .boolean)) (by decide) rfl (Nat.le_of_ble_eq_true rfl) ?_
  intro p e s m below meth c hx hb hr hlocks hml hts hown hG hP ls hl
  have hl : lv_has ls 3 [(0, .int (iI v)), (1, .int (iI least)), (2, .int (iI most))] := hl
  refine lv_iload_n hx hb dX7_in_0 rfl (lv_at hl 0 rfl) ?_
  refine lv_iload_n hx hb dX7_in_1 rfl (lv_at hl 1 rfl) ?_
  refine k_icmp_lt (tgt := 14) hx hb dX7_in_2 (by decide) (by omega) (by omega) (fun c_1 => ?_) (fun c_1 => ?_)
  · skip
    refine k_iconst hx hb dX7_in_14 ?_
    exact W.zret (v := iI 0) hx hb hr (by decide +kernel) (fun t9 ht _ => ⟨0, rfl, (by first | exact Or.inl ⟨by omega, rfl⟩ | exact Or.inr ⟨by omega, rfl⟩ : ((least ≤ v ∧ v ≤ most) ∧ (0 : Int) = 1) ∨ (¬ (least ≤ v ∧ v ≤ most) ∧ (0 : Int) = 0)), ht⟩) (fun _ h => nomatch h) dX7_in_15 hlocks
  · skip
    refine lv_iload_n hx hb dX7_in_5 rfl (lv_at hl 0 rfl) ?_
    refine lv_iload_n hx hb dX7_in_6 rfl (lv_at hl 2 rfl) ?_
    refine k_icmp_gt (tgt := 14) hx hb dX7_in_7 (by decide) (by omega) (by omega) (fun c_2 => ?_) (fun c_2 => ?_)
    · skip
      refine k_iconst hx hb dX7_in_14 ?_
      exact W.zret (v := iI 0) hx hb hr (by decide +kernel) (fun t9 ht _ => ⟨0, rfl, (by first | exact Or.inl ⟨by omega, rfl⟩ | exact Or.inr ⟨by omega, rfl⟩ : ((least ≤ v ∧ v ≤ most) ∧ (0 : Int) = 1) ∨ (¬ (least ≤ v ∧ v ≤ most) ∧ (0 : Int) = 0)), ht⟩) (fun _ h => nomatch h) dX7_in_15 hlocks
    · skip
      refine k_iconst hx hb dX7_in_10 ?_
      refine lv_goto (tgt := 15) hx hb dX7_in_11 (by decide) ?_
      exact W.zret (v := iI 1) hx hb hr (by decide +kernel) (fun t9 ht _ => ⟨1, rfl, (by first | exact Or.inl ⟨by omega, rfl⟩ | exact Or.inr ⟨by omega, rfl⟩ : ((least ≤ v ∧ v ≤ most) ∧ (1 : Int) = 1) ∨ (¬ (least ≤ v ∧ v ≤ most) ∧ (1 : Int) = 0)), ht⟩) (fun _ h => nomatch h) dX7_in_15 hlocks
set_option maxHeartbeats 4000000 in
set_option maxRecDepth 100000 in
theorem c_X7_size (l : Launch) (D : va_G) (v : Int) (h : -2147483647 ≤ v ∧ v ≤ 2147483647) : Met l yX7_size wsX7_size { frames := 0, cells := 0, slots := 0, locals := 0 } (kPre kGT D [] ([.int (iI v)] : List Value)) (kRO (fun r => r = absI v)) 0 0 (fun _ => False) := by
  refine kRO_start (cc := cX7_size) (maxL := 1) (ret := (some .int)) (by decide) rfl (Nat.le_of_ble_eq_true rfl) ?_
  intro p e s m below meth c hx hb hr hlocks hml hts hown hG hP ls hl
  have hl : lv_has ls 1 [(0, .int (iI v))] := hl
  refine lv_iload_n hx hb dX7_size_0 rfl (lv_at hl 0 rfl) ?_
  refine k_if_ge (tgt := 9) hx hb dX7_size_1 (by decide) (by omega) (fun c_1 => ?_) (fun c_1 => ?_)
  · skip
    refine lv_iload_n hx hb dX7_size_9 rfl (lv_at hl 0 rfl) ?_
    exact W.iret (v := iI v) hx hb hr (fun t9 ht _ => ⟨v, rfl, (by have := absI_spec v; omega : (v : Int) = absI v), ht⟩) (fun _ h => nomatch h) dX7_size_10 hlocks
  · skip
    refine lv_iload_n hx hb dX7_size_4 rfl (lv_at hl 0 rfl) ?_
    refine k_ineg hx hb dX7_size_5 ?_
    refine lv_goto (tgt := 10) hx hb dX7_size_6 (by decide) ?_
    exact W.iret (v := iI (-v)) hx hb hr (fun t9 ht _ => ⟨(-v), rfl, (by have := absI_spec v; omega : (-v : Int) = absI v), ht⟩) (fun _ h => nomatch h) dX7_size_10 hlocks
set_option maxHeartbeats 4000000 in
set_option maxRecDepth 100000 in
theorem c_X7_floor (l : Launch) (D : va_G) (a b : Int) (h1 : -1073741824 ≤ a ∧ a ≤ 1073741824) (h2 : 0 < b ∧ b ≤ 1073741824) : Met l yX7_floor wsX7_floor { frames := 0, cells := 0, slots := 0, locals := 0 } (kPre kGT D [] ([.int (iI a), .int (iI b)] : List Value)) (kRO (fun r => r = a / b)) 0 0 (fun _ => False) := by
  refine kRO_start (cc := cX7_floor) (maxL := 2) (ret := (some .int)) (by decide) rfl (Nat.le_of_ble_eq_true rfl) ?_
  intro p e s m below meth c hx hb hr hlocks hml hts hown hG hP ls hl
  have hl : lv_has ls 2 [(0, .int (iI a)), (1, .int (iI b))] := hl
  refine lv_iload_n hx hb dX7_floor_0 rfl (lv_at hl 0 rfl) ?_
  refine k_if_lt (tgt := 10) hx hb dX7_floor_1 (by decide) (by omega) (fun c_1 => ?_) (fun c_1 => ?_)
  · skip
    refine lv_iload_n hx hb dX7_floor_10 rfl (lv_at hl 1 rfl) ?_
    refine k_iconst hx hb dX7_floor_11 ?_
    refine k_isub hx hb dX7_floor_12 ?_
    refine lv_iload_n hx hb dX7_floor_13 rfl (lv_at hl 0 rfl) ?_
    refine k_isub hx hb dX7_floor_14 ?_
    refine lv_iload_n hx hb dX7_floor_15 rfl (lv_at hl 1 rfl) ?_
    refine k_idiv hx hb dX7_floor_16 (by omega) (by omega) ?_
    refine k_ineg hx hb dX7_floor_17 ?_
    exact W.iret (v := iI (-(((b - 1) - a) / b))) hx hb hr (fun t9 ht _ => ⟨(-(((b - 1) - a) / b)), rfl, (by first | rfl | exact floor_neg (by omega) (by omega) : (-(((b - 1) - a) / b) : Int) = a / b), ht⟩) (fun _ h => nomatch h) dX7_floor_18 hlocks
  · skip
    refine lv_iload_n hx hb dX7_floor_4 rfl (lv_at hl 0 rfl) ?_
    refine lv_iload_n hx hb dX7_floor_5 rfl (lv_at hl 1 rfl) ?_
    refine k_idiv hx hb dX7_floor_6 (by omega) (by omega) ?_
    refine lv_goto (tgt := 18) hx hb dX7_floor_7 (by decide) ?_
    exact W.iret (v := iI (a / b)) hx hb hr (fun t9 ht _ => ⟨(a / b), rfl, (by first | rfl | exact floor_neg (by omega) (by omega) : (a / b : Int) = a / b), ht⟩) (fun _ h => nomatch h) dX7_floor_18 hlocks
set_option maxHeartbeats 4000000 in
set_option maxRecDepth 100000 in
theorem c_X7_around (l : Launch) (D : va_G) (a : Int) (hra : -2147483648 ≤ a ∧ a ≤ 2147483647) : Met l yX7_around wsX7_around { frames := 0, cells := 0, slots := 0, locals := 0 } (kPre kGT D [] ([.int (iI a)] : List Value)) (kRO (fun r => r = a % 360000)) 0 0 (fun _ => False) := by
  refine kRO_start (cc := cX7_around) (maxL := 2) (ret := (some .int)) (by decide) rfl (Nat.le_of_ble_eq_true rfl) ?_
  intro p e s m below meth c hx hb hr hlocks hml hts hown hG hP ls hl
  have hl : lv_has ls 2 [(0, .int (iI a))] := hl
  have hm0 := hts (.constant RX7 35 (360000)) (by decide +kernel)
  refine lv_iload_n hx hb dX7_around_0 rfl (lv_at hl 0 rfl) ?_
  refine k_ldc (z := 360000) hx hb hown hm0 (by decide +kernel) dX7_around_1 ?_
  refine k_iremT hx hb dX7_around_3 (by omega) (by omega) ?_
  refine lv_istore_n (lv' := [(1, .int (iI (Int.tmod a 360000))), (0, .int (iI a))]) hx hb dX7_around_4 rfl hl (by decide) rfl (fun ls hl => ?_)
  have ht := tmod_360 a
  refine lv_iload_n hx hb dX7_around_5 rfl (lv_at hl 0 rfl) ?_
  refine k_if_ge (tgt := 16) hx hb dX7_around_6 (by decide) (by omega) (fun c_1 => ?_) (fun c_1 => ?_)
  · skip
    refine lv_iload_n hx hb dX7_around_16 rfl (lv_at hl 0 rfl) ?_
    exact W.iret (v := iI (Int.tmod a 360000)) hx hb hr (fun t9 ht _ => ⟨(Int.tmod a 360000), rfl, (by omega : (Int.tmod a 360000 : Int) = a % 360000), ht⟩) (fun _ h => nomatch h) dX7_around_17 hlocks
  · skip
    refine lv_iload_n hx hb dX7_around_9 rfl (lv_at hl 0 rfl) ?_
    refine k_ldc (z := 360000) hx hb hown hm0 (by decide +kernel) dX7_around_10 ?_
    refine k_iadd hx hb dX7_around_12 ?_
    refine lv_goto (tgt := 17) hx hb dX7_around_13 (by decide) ?_
    exact W.iret (v := iI ((Int.tmod a 360000) + 360000)) hx hb hr (fun t9 ht _ => ⟨((Int.tmod a 360000) + 360000), rfl, (by omega : ((Int.tmod a 360000) + 360000 : Int) = a % 360000), ht⟩) (fun _ h => nomatch h) dX7_around_17 hlocks
set_option maxHeartbeats 4000000 in
set_option maxRecDepth 100000 in
theorem c_X7_cellOf (l : Launch) (D : va_G) (t q : Int)  : Met l yX7_cellOf wsX7_cellOf { frames := 0, cells := 0, slots := 0, locals := 0 } (kPre kGT D [] ([.int (iI t), .int (iI q)] : List Value)) (kRO (fun r => r = cel t q)) 0 0 (fun _ => False) := by
  refine kRO_start (cc := cX7_cellOf) (maxL := 2) (ret := (some .int)) (by decide) rfl (Nat.le_of_ble_eq_true rfl) ?_
  intro p e s m below meth c hx hb hr hlocks hml hts hown hG hP ls hl
  have hl : lv_has ls 2 [(0, .int (iI t)), (1, .int (iI q))] := hl
  refine k_bipush hx hb dX7_cellOf_0 (by decide +kernel) ?_
  refine k_bipush hx hb dX7_cellOf_2 (by decide +kernel) ?_
  refine lv_iload_n hx hb dX7_cellOf_4 rfl (lv_at hl 0 rfl) ?_
  refine k_imul hx hb dX7_cellOf_5 ?_
  refine k_iadd hx hb dX7_cellOf_6 ?_
  refine k_iconst hx hb dX7_cellOf_7 ?_
  refine k_iadd hx hb dX7_cellOf_8 ?_
  refine k_iconst hx hb dX7_cellOf_9 ?_
  refine lv_iload_n hx hb dX7_cellOf_10 rfl (lv_at hl 1 rfl) ?_
  refine k_imul hx hb dX7_cellOf_11 ?_
  refine k_iadd hx hb dX7_cellOf_12 ?_
  exact W.iret (v := iI (((14 + (37 * t)) + 1) + (3 * q))) hx hb hr (fun t9 ht _ => ⟨(((14 + (37 * t)) + 1) + (3 * q)), rfl, (by first | rfl | omega : (((14 + (37 * t)) + 1) + (3 * q) : Int) = cel t q), ht⟩) (fun _ h => nomatch h) dX7_cellOf_13 hlocks
set_option maxHeartbeats 4000000 in
set_option maxRecDepth 100000 in
theorem c_X7_turn (l : Launch) (D : va_G) (f t : Int) (h1 : 0 ≤ f ∧ f < 360000) (h2 : 0 ≤ t ∧ t < 360000) : Met l yX7_turn wsX7_turn { frames := 1, cells := 0, slots := 0, locals := 21 } (kPre kGT D [] ([.int (iI f), .int (iI t)] : List Value)) (kRO (fun r => r = turnI f t)) 0 0 (fun _ => False) := by
  refine kRO_start (cc := cX7_turn) (maxL := 3) (ret := (some .int)) (by decide) rfl (Nat.le_of_ble_eq_true rfl) ?_
  intro p e s m below meth c hx hb hr hlocks hml hts hown hG hP ls hl
  have hl : lv_has ls 3 [(0, .int (iI f)), (1, .int (iI t))] := hl
  have hm0 := hts (.constant RX7 85 (180000)) (by decide +kernel)
  have hm1 := hts (.constant RX7 35 (360000)) (by decide +kernel)
  refine lv_iload_n hx hb dX7_turn_0 rfl (lv_at hl 1 rfl) ?_
  refine lv_iload_n hx hb dX7_turn_1 rfl (lv_at hl 0 rfl) ?_
  refine k_isub hx hb dX7_turn_2 ?_
  refine k_roS (As := [.int (iI (t - f))]) (rest := []) ⟨hx, hb, hml, hown, hts⟩ (c_X7_around l D (t - f) (by omega)) gX7_turn_X7_around rfl ⟨rfl, rfl⟩ 1 rfl (by decide +kernel) ⟨Nat.le_of_ble_eq_true rfl, Nat.le_of_ble_eq_true rfl⟩ kGT_ok trivial (fun k q h => by simp at h) hl.1 rfl (Nat.le_of_ble_eq_true rfl) ⟨Nat.le_of_ble_eq_true rfl, Nat.le_of_ble_eq_true rfl⟩ dX7_turn_3 (fun r_1 hr_1 => ?_)
  have hr_1 : r_1 = (t - f) % 360000 := hr_1
  subst hr_1
  refine lv_istore_n (lv' := [(2, .int (iI ((t - f) % 360000))), (0, .int (iI f)), (1, .int (iI t))]) hx hb dX7_turn_6 rfl hl (by decide) rfl (fun ls hl => ?_)
  refine lv_iload_n hx hb dX7_turn_7 rfl (lv_at hl 0 rfl) ?_
  refine k_ldc (z := 180000) hx hb hown hm0 (by decide +kernel) dX7_turn_8 ?_
  refine k_icmp_le (tgt := 20) hx hb dX7_turn_10 (by decide) (by omega) (by omega) (fun c_2 => ?_) (fun c_2 => ?_)
  · skip
    refine lv_iload_n hx hb dX7_turn_20 rfl (lv_at hl 0 rfl) ?_
    exact W.iret (v := iI ((t - f) % 360000)) hx hb hr (fun t9 ht _ => ⟨((t - f) % 360000), rfl, (by unfold turnI; split <;> omega : ((t - f) % 360000 : Int) = turnI f t), ht⟩) (fun _ h => nomatch h) dX7_turn_21 hlocks
  · skip
    refine lv_iload_n hx hb dX7_turn_13 rfl (lv_at hl 0 rfl) ?_
    refine k_ldc (z := 360000) hx hb hown hm1 (by decide +kernel) dX7_turn_14 ?_
    refine k_isub hx hb dX7_turn_16 ?_
    refine lv_goto (tgt := 21) hx hb dX7_turn_17 (by decide) ?_
    exact W.iret (v := iI (((t - f) % 360000) - 360000)) hx hb hr (fun t9 ht _ => ⟨(((t - f) % 360000) - 360000), rfl, (by unfold turnI; split <;> omega : (((t - f) % 360000) - 360000 : Int) = turnI f t), ht⟩) (fun _ h => nomatch h) dX7_turn_21 hlocks
set_option maxHeartbeats 4000000 in
set_option maxRecDepth 100000 in
theorem c_X7_turnBy (l : Launch) (D : va_G) (k : Int) (h : 0 ≤ k ∧ k ≤ 15) : Met l yX7_turnBy wsX7_turnBy { frames := 0, cells := 0, slots := 0, locals := 0 } (kPre kGT D [] ([.int (iI k)] : List Value)) (kRO (fun r => r = turnsI k)) 0 0 (fun _ => False) := by
  refine kRO_start (cc := cX7_turnBy) (maxL := 1) (ret := (some .int)) (by decide) rfl (Nat.le_of_ble_eq_true rfl) ?_
  intro p e s m below meth c hx hb hr hlocks hml hts hown hG hP ls hl
  have hl : lv_has ls 1 [(0, .int (iI k))] := hl
  have hm0 := hts (.constant RX7 157 (45000)) (by decide +kernel)
  refine lv_iload_n hx hb dX7_turnBy_0 rfl (lv_at hl 0 rfl) ?_
  rcases (show k = 0 ∨ k = 1 ∨ k = 2 ∨ k = 3 ∨ k = 4 ∨ k = 5 ∨ k = 6 ∨ k = 7 ∨ k = 8 ∨ k = 9 ∨ k = 10 ∨ k = 11 ∨ k = 12 ∨ k = 13 ∨ k = 14 ∨ (k < 0 ∨ 14 < k) by omega) with c_1 | c_1 | c_1 | c_1 | c_1 | c_1 | c_1 | c_1 | c_1 | c_1 | c_1 | c_1 | c_1 | c_1 | c_1 | c_1
  · skip
    refine k_tin (tgt := 76) hx hb 0 c_1 (by decide) dX7_turnBy_1 (by decide) (by decide) rfl (by decide) ?_
    refine k_ldc (z := 45000) hx hb hown hm0 (by decide +kernel) dX7_turnBy_76 ?_
    exact W.iret (v := iI 45000) hx hb hr (fun t9 ht _ => ⟨45000, rfl, (by first | (subst c_1; rfl) | (have h9 : k = 15 := by omega); (subst h9; rfl) : (45000 : Int) = turnsI k), ht⟩) (fun _ h => nomatch h) dX7_turnBy_78 hlocks
  · skip
    refine k_tin (tgt := 79) hx hb 1 c_1 (by decide) dX7_turnBy_1 (by decide) (by decide) rfl (by decide) ?_
    refine k_sipush hx hb dX7_turnBy_79 (by decide +kernel) ?_
    exact W.iret (v := iI 26565) hx hb hr (fun t9 ht _ => ⟨26565, rfl, (by first | (subst c_1; rfl) | (have h9 : k = 15 := by omega); (subst h9; rfl) : (26565 : Int) = turnsI k), ht⟩) (fun _ h => nomatch h) dX7_turnBy_82 hlocks
  · skip
    refine k_tin (tgt := 83) hx hb 2 c_1 (by decide) dX7_turnBy_1 (by decide) (by decide) rfl (by decide) ?_
    refine k_sipush hx hb dX7_turnBy_83 (by decide +kernel) ?_
    exact W.iret (v := iI 14036) hx hb hr (fun t9 ht _ => ⟨14036, rfl, (by first | (subst c_1; rfl) | (have h9 : k = 15 := by omega); (subst h9; rfl) : (14036 : Int) = turnsI k), ht⟩) (fun _ h => nomatch h) dX7_turnBy_86 hlocks
  · skip
    refine k_tin (tgt := 87) hx hb 3 c_1 (by decide) dX7_turnBy_1 (by decide) (by decide) rfl (by decide) ?_
    refine k_sipush hx hb dX7_turnBy_87 (by decide +kernel) ?_
    exact W.iret (v := iI 7125) hx hb hr (fun t9 ht _ => ⟨7125, rfl, (by first | (subst c_1; rfl) | (have h9 : k = 15 := by omega); (subst h9; rfl) : (7125 : Int) = turnsI k), ht⟩) (fun _ h => nomatch h) dX7_turnBy_90 hlocks
  · skip
    refine k_tin (tgt := 91) hx hb 4 c_1 (by decide) dX7_turnBy_1 (by decide) (by decide) rfl (by decide) ?_
    refine k_sipush hx hb dX7_turnBy_91 (by decide +kernel) ?_
    exact W.iret (v := iI 3576) hx hb hr (fun t9 ht _ => ⟨3576, rfl, (by first | (subst c_1; rfl) | (have h9 : k = 15 := by omega); (subst h9; rfl) : (3576 : Int) = turnsI k), ht⟩) (fun _ h => nomatch h) dX7_turnBy_94 hlocks
  · skip
    refine k_tin (tgt := 95) hx hb 5 c_1 (by decide) dX7_turnBy_1 (by decide) (by decide) rfl (by decide) ?_
    refine k_sipush hx hb dX7_turnBy_95 (by decide +kernel) ?_
    exact W.iret (v := iI 1790) hx hb hr (fun t9 ht _ => ⟨1790, rfl, (by first | (subst c_1; rfl) | (have h9 : k = 15 := by omega); (subst h9; rfl) : (1790 : Int) = turnsI k), ht⟩) (fun _ h => nomatch h) dX7_turnBy_98 hlocks
  · skip
    refine k_tin (tgt := 99) hx hb 6 c_1 (by decide) dX7_turnBy_1 (by decide) (by decide) rfl (by decide) ?_
    refine k_sipush hx hb dX7_turnBy_99 (by decide +kernel) ?_
    exact W.iret (v := iI 895) hx hb hr (fun t9 ht _ => ⟨895, rfl, (by first | (subst c_1; rfl) | (have h9 : k = 15 := by omega); (subst h9; rfl) : (895 : Int) = turnsI k), ht⟩) (fun _ h => nomatch h) dX7_turnBy_102 hlocks
  · skip
    refine k_tin (tgt := 103) hx hb 7 c_1 (by decide) dX7_turnBy_1 (by decide) (by decide) rfl (by decide) ?_
    refine k_sipush hx hb dX7_turnBy_103 (by decide +kernel) ?_
    exact W.iret (v := iI 448) hx hb hr (fun t9 ht _ => ⟨448, rfl, (by first | (subst c_1; rfl) | (have h9 : k = 15 := by omega); (subst h9; rfl) : (448 : Int) = turnsI k), ht⟩) (fun _ h => nomatch h) dX7_turnBy_106 hlocks
  · skip
    refine k_tin (tgt := 107) hx hb 8 c_1 (by decide) dX7_turnBy_1 (by decide) (by decide) rfl (by decide) ?_
    refine k_sipush hx hb dX7_turnBy_107 (by decide +kernel) ?_
    exact W.iret (v := iI 224) hx hb hr (fun t9 ht _ => ⟨224, rfl, (by first | (subst c_1; rfl) | (have h9 : k = 15 := by omega); (subst h9; rfl) : (224 : Int) = turnsI k), ht⟩) (fun _ h => nomatch h) dX7_turnBy_110 hlocks
  · skip
    refine k_tin (tgt := 111) hx hb 9 c_1 (by decide) dX7_turnBy_1 (by decide) (by decide) rfl (by decide) ?_
    refine k_bipush hx hb dX7_turnBy_111 (by decide +kernel) ?_
    exact W.iret (v := iI 112) hx hb hr (fun t9 ht _ => ⟨112, rfl, (by first | (subst c_1; rfl) | (have h9 : k = 15 := by omega); (subst h9; rfl) : (112 : Int) = turnsI k), ht⟩) (fun _ h => nomatch h) dX7_turnBy_113 hlocks
  · skip
    refine k_tin (tgt := 114) hx hb 10 c_1 (by decide) dX7_turnBy_1 (by decide) (by decide) rfl (by decide) ?_
    refine k_bipush hx hb dX7_turnBy_114 (by decide +kernel) ?_
    exact W.iret (v := iI 56) hx hb hr (fun t9 ht _ => ⟨56, rfl, (by first | (subst c_1; rfl) | (have h9 : k = 15 := by omega); (subst h9; rfl) : (56 : Int) = turnsI k), ht⟩) (fun _ h => nomatch h) dX7_turnBy_116 hlocks
  · skip
    refine k_tin (tgt := 117) hx hb 11 c_1 (by decide) dX7_turnBy_1 (by decide) (by decide) rfl (by decide) ?_
    refine k_bipush hx hb dX7_turnBy_117 (by decide +kernel) ?_
    exact W.iret (v := iI 28) hx hb hr (fun t9 ht _ => ⟨28, rfl, (by first | (subst c_1; rfl) | (have h9 : k = 15 := by omega); (subst h9; rfl) : (28 : Int) = turnsI k), ht⟩) (fun _ h => nomatch h) dX7_turnBy_119 hlocks
  · skip
    refine k_tin (tgt := 120) hx hb 12 c_1 (by decide) dX7_turnBy_1 (by decide) (by decide) rfl (by decide) ?_
    refine k_bipush hx hb dX7_turnBy_120 (by decide +kernel) ?_
    exact W.iret (v := iI 14) hx hb hr (fun t9 ht _ => ⟨14, rfl, (by first | (subst c_1; rfl) | (have h9 : k = 15 := by omega); (subst h9; rfl) : (14 : Int) = turnsI k), ht⟩) (fun _ h => nomatch h) dX7_turnBy_122 hlocks
  · skip
    refine k_tin (tgt := 123) hx hb 13 c_1 (by decide) dX7_turnBy_1 (by decide) (by decide) rfl (by decide) ?_
    refine k_bipush hx hb dX7_turnBy_123 (by decide +kernel) ?_
    exact W.iret (v := iI 7) hx hb hr (fun t9 ht _ => ⟨7, rfl, (by first | (subst c_1; rfl) | (have h9 : k = 15 := by omega); (subst h9; rfl) : (7 : Int) = turnsI k), ht⟩) (fun _ h => nomatch h) dX7_turnBy_125 hlocks
  · skip
    refine k_tin (tgt := 126) hx hb 14 c_1 (by decide) dX7_turnBy_1 (by decide) (by decide) rfl (by decide) ?_
    refine k_iconst hx hb dX7_turnBy_126 ?_
    exact W.iret (v := iI 3) hx hb hr (fun t9 ht _ => ⟨3, rfl, (by first | (subst c_1; rfl) | (have h9 : k = 15 := by omega); (subst h9; rfl) : (3 : Int) = turnsI k), ht⟩) (fun _ h => nomatch h) dX7_turnBy_127 hlocks
  · skip
    refine k_tout (tgt := 128) hx hb (by omega) dX7_turnBy_1 c_1 (by decide) ?_
    refine k_iconst hx hb dX7_turnBy_128 ?_
    exact W.iret (v := iI 2) hx hb hr (fun t9 ht _ => ⟨2, rfl, (by first | (subst c_1; rfl) | (have h9 : k = 15 := by omega); (subst h9; rfl) : (2 : Int) = turnsI k), ht⟩) (fun _ h => nomatch h) dX7_turnBy_129 hlocks
set_option maxHeartbeats 4000000 in
set_option maxRecDepth 100000 in
theorem c_X7_root (l : Launch) (D : va_G) (n : Int) (h : 0 ≤ n ∧ n ≤ 200000000) : Met l yX7_root wsX7_root { frames := 0, cells := 0, slots := 0, locals := 0 } (kPre kGT D [] ([.int (iI n)] : List Value)) (kRO (fun r => r = rt n)) 0 0 (fun _ => False) := by
  refine kRO_start (cc := cX7_root) (maxL := 3) (ret := (some .int)) (by decide) rfl (Nat.le_of_ble_eq_true rfl) ?_
  intro p e s m below meth c hx hb hr hlocks hml hts hown hG hP ls hl
  have hl : lv_has ls 3 [(0, .int (iI n))] := hl
  refine k_iconst hx hb dX7_root_0 ?_
  refine lv_istore_n (lv' := [(1, .int (iI 0)), (0, .int (iI n))]) hx hb dX7_root_1 rfl hl (by decide) rfl (fun ls hl => ?_)
  refine k_sipush hx hb dX7_root_2 (by decide +kernel) ?_
  refine lv_istore_n (lv' := [(2, .int (iI 16384)), (1, .int (iI 0)), (0, .int (iI n))]) hx hb dX7_root_5 rfl hl (by decide) rfl (fun ls hl => ?_)
  have loop6 : ∀ (n_1 : Nat) (j : Nat) (r : Int) (x2 : Int) (hi0 : j ≤ 15) (hi1 : 0 ≤ r) (hi2 : r * r ≤ n) (hi3 : n < (r + 2 ^ j) * (r + 2 ^ j)) (hi4 : r + 2 ^ j ≤ 32768) (hex2 : x2 = bitN j) (hn : (j : Int) < (n_1 : Int)) (ls : Array Slot) (hl : lv_has ls 3 [(2, .int (iI x2)), (1, .int (iI r)), (0, .int (iI n))]), W p l e { frames := 0, cells := 0, slots := 0, locals := 0 } s m ([.int (iI n)] : List Value).toArray below meth c s.heap [] 0 0 (MQ below (kRO (fun r => r = rt n)) ([.int (iI n)] : List Value).toArray s 0 0 (fun _ => False)) (F0 m 6 ls []) := by
    intro n_1
    induction n_1 with
    | zero => intro j r x2 hi0 hi1 hi2 hi3 hi4 hex2 hn ls hl; exfalso; omega
    | succ n_1 ih6 =>
      intro j r x2 hi0 hi1 hi2 hi3 hi4 hex2 hn ls hl
      subst hex2
      have hb9 := bitN_bd j hi0
      refine lv_iload_n hx hb dX7_root_6 rfl (lv_at hl 0 rfl) ?_
      refine k_if_le (tgt := 36) hx hb dX7_root_7 (by decide) (by omega) (fun c_2 => ?_) (fun c_2 => ?_)
      · skip
        refine lv_iload_n hx hb dX7_root_36 rfl (lv_at hl 1 rfl) ?_
        exact W.iret (v := iI r) hx hb hr (fun t9 ht _ => ⟨r, rfl, ((rt_uniq hi1 hi2 (root_end hi3 (by assumption))).symm : (r : Int) = rt n), ht⟩) (fun _ h => nomatch h) dX7_root_37 hlocks
      · skip
        obtain ⟨i, hj⟩ := bitN_pos c_2
        have hq := root_rng hi1 hb9.2.1 hi4 hb9.1
        refine lv_iload_n hx hb dX7_root_10 rfl (lv_at hl 1 rfl) ?_
        refine lv_iload_n hx hb dX7_root_11 rfl (lv_at hl 1 rfl) ?_
        refine lv_iload_n hx hb dX7_root_12 rfl (lv_at hl 0 rfl) ?_
        refine k_iadd hx hb dX7_root_13 ?_
        refine lv_iload_n hx hb dX7_root_14 rfl (lv_at hl 1 rfl) ?_
        refine lv_iload_n hx hb dX7_root_15 rfl (lv_at hl 0 rfl) ?_
        refine k_iadd hx hb dX7_root_16 ?_
        refine k_imul hx hb dX7_root_17 ?_
        refine lv_iload_n hx hb dX7_root_18 rfl (lv_at hl 2 rfl) ?_
        refine k_icmp_gt (tgt := 26) hx hb dX7_root_19 (by decide) (by omega) (by omega) (fun c_3 => ?_) (fun c_3 => ?_)
        · skip
          refine k_iconst hx hb dX7_root_26 ?_
          refine k_iadd hx hb dX7_root_27 ?_
          refine lv_istore_n (lv' := [(1, .int (iI (r + 0))), (2, .int (iI (bitN j))), (0, .int (iI n))]) hx hb dX7_root_28 rfl hl (by decide) rfl (fun ls hl => ?_)
          refine lv_iload_n hx hb dX7_root_29 rfl (lv_at hl 1 rfl) ?_
          refine k_iconst hx hb dX7_root_30 ?_
          refine k_idiv hx hb dX7_root_31 (by omega) (by omega) ?_
          refine lv_istore_n (lv' := [(2, .int (iI ((bitN j) / 2))), (1, .int (iI (r + 0))), (0, .int (iI n))]) hx hb dX7_root_32 rfl hl (by decide) rfl (fun ls hl => ?_)
          refine lv_goto (tgt := 6) hx hb dX7_root_33 (by decide) ?_
          exact ih6 i (r + 0) ((bitN j) / 2) (by omega) (by omega) (by first | assumption | (rw [Int.add_zero]; exact hi2)) (by first | exact root_in hj hi3 | exact root_out hj (by assumption)) (by have h9 := two_half hj; omega) (by rw [hj]; exact bitN_half i) (by omega) ls (lv_sub hl [0, 1, 2] rfl)
        · skip
          refine lv_iload_n hx hb dX7_root_22 rfl (lv_at hl 0 rfl) ?_
          refine lv_goto (tgt := 27) hx hb dX7_root_23 (by decide) ?_
          refine k_iadd hx hb dX7_root_27 ?_
          refine lv_istore_n (lv' := [(1, .int (iI (r + (bitN j)))), (2, .int (iI (bitN j))), (0, .int (iI n))]) hx hb dX7_root_28 rfl hl (by decide) rfl (fun ls hl => ?_)
          refine lv_iload_n hx hb dX7_root_29 rfl (lv_at hl 1 rfl) ?_
          refine k_iconst hx hb dX7_root_30 ?_
          refine k_idiv hx hb dX7_root_31 (by omega) (by omega) ?_
          refine lv_istore_n (lv' := [(2, .int (iI ((bitN j) / 2))), (1, .int (iI (r + (bitN j)))), (0, .int (iI n))]) hx hb dX7_root_32 rfl hl (by decide) rfl (fun ls hl => ?_)
          refine lv_goto (tgt := 6) hx hb dX7_root_33 (by decide) ?_
          exact ih6 i (r + (bitN j)) ((bitN j) / 2) (by omega) (by omega) (by first | assumption | (rw [Int.add_zero]; exact hi2)) (by first | exact root_in hj hi3 | exact root_out hj (by assumption)) (by have h9 := two_half hj; omega) (by rw [hj]; exact bitN_half i) (by omega) ls (lv_sub hl [0, 1, 2] rfl)
  exact loop6 (((15 : Int) : Int) + 1).toNat 15 0 16384 (by omega) (by omega) (by omega) (by have e : (2 : Int) ^ 15 = 32768 := (by decide); rw [e]; omega) (by decide) (by decide) (by omega) ls (lv_sub hl [0, 1, 2] rfl)
set_option maxHeartbeats 4000000 in
set_option maxRecDepth 100000 in
theorem c_X7_angle (l : Launch) (D : va_G) (dx dy : Int) (h1 : -7000 ≤ dx ∧ dx ≤ 7000) (h2 : -7000 ≤ dy ∧ dy ≤ 7000) : Met l yX7_angle wsX7_angle { frames := 1, cells := 0, slots := 0, locals := 21 } (kPre kGT D [] ([.int (iI dx), .int (iI dy)] : List Value)) (kRO (fun r => r = angF dx dy)) 0 0 (fun _ => False) := by
  refine kRO_start (cc := cX7_angle) (maxL := 9) (ret := (some .int)) (by decide) rfl (Nat.le_of_ble_eq_true rfl) ?_
  intro p e s m below meth c hx hb hr hlocks hml hts hown hG hP ls hl
  have hl : lv_has ls 9 [(0, .int (iI dx)), (1, .int (iI dy))] := hl
  have hm0 := hts (.constant RX7 85 (180000)) (by decide +kernel)
  have hz := absI_spec dx
  have join20 : ∀ (z0 : Int) (ji0 : ¬ (dx = 0 ∧ dy = 0)) (jez0 : z0 = if dx < 0 then 180000 else 0) (ls : Array Slot) (hl : lv_has ls 9 [(0, .int (iI dx)), (1, .int (iI dy))]), W p l e { frames := 1, cells := 0, slots := 0, locals := 21 } s m ([.int (iI dx), .int (iI dy)] : List Value).toArray below meth c s.heap [] 0 0 (MQ below (kRO (fun r => r = angF dx dy)) ([.int (iI dx), .int (iI dy)] : List Value).toArray s 0 0 (fun _ => False)) (F0 m 20 ls [.int (iI z0)]) := by
    intro z0 ji0 jez0 ls hl
    subst jez0
    refine lv_istore_n (lv' := [(2, .int (iI (if dx < 0 then 180000 else 0))), (0, .int (iI dx)), (1, .int (iI dy))]) hx hb dX7_angle_20 rfl hl (by decide) rfl (fun ls hl => ?_)
    refine k_sipush hx hb dX7_angle_21 (by decide +kernel) ?_
    refine lv_iload_n hx hb dX7_angle_24 rfl (lv_at hl 1 rfl) ?_
    refine k_roS (As := [.int (iI dx)]) (rest := [.int (iI 1024)]) ⟨hx, hb, hml, hown, hts⟩ (c_X7_size l D dx (by omega)) gX7_angle_X7_size rfl ⟨rfl, rfl⟩ 1 rfl (by decide +kernel) ⟨Nat.le_of_ble_eq_true rfl, Nat.le_of_ble_eq_true rfl⟩ kGT_ok trivial (fun k q h => by simp at h) hl.1 rfl (Nat.le_of_ble_eq_true rfl) ⟨Nat.le_of_ble_eq_true rfl, Nat.le_of_ble_eq_true rfl⟩ dX7_angle_25 (fun r_1 hr_1 => ?_)
    have hr_1 : r_1 = absI dx := hr_1
    subst hr_1
    refine k_imul hx hb dX7_angle_28 ?_
    refine lv_istore_n (lv' := [(3, .int (iI (1024 * (absI dx)))), (2, .int (iI (if dx < 0 then 180000 else 0))), (0, .int (iI dx)), (1, .int (iI dy))]) hx hb dX7_angle_29 rfl hl (by decide) rfl (fun ls hl => ?_)
    refine k_sipush hx hb dX7_angle_30 (by decide +kernel) ?_
    have join43 : ∀ (z0 : Int) (jez0 : z0 = if dx < 0 then -dy else dy) (ls : Array Slot) (hl : lv_has ls 9 [(3, .int (iI (1024 * (absI dx)))), (2, .int (iI (if dx < 0 then 180000 else 0))), (0, .int (iI dx)), (1, .int (iI dy))]), W p l e { frames := 1, cells := 0, slots := 0, locals := 21 } s m ([.int (iI dx), .int (iI dy)] : List Value).toArray below meth c s.heap [] 0 0 (MQ below (kRO (fun r => r = angF dx dy)) ([.int (iI dx), .int (iI dy)] : List Value).toArray s 0 0 (fun _ => False)) (F0 m 43 ls [.int (iI z0), .int (iI 1024)]) := by
      intro z0 jez0 ls hl
      subst jez0
      refine k_imul hx hb dX7_angle_43 ?_
      refine lv_istore (lv' := [(4, .int (iI (1024 * (if dx < 0 then -dy else dy)))), (3, .int (iI (1024 * (absI dx)))), (2, .int (iI (if dx < 0 then 180000 else 0))), (0, .int (iI dx)), (1, .int (iI dy))]) hx hb dX7_angle_44 hl (by decide) rfl (fun ls hl => ?_)
      refine k_iconst hx hb dX7_angle_46 ?_
      refine lv_istore (lv' := [(5, .int (iI 0)), (4, .int (iI (1024 * (if dx < 0 then -dy else dy)))), (3, .int (iI (1024 * (absI dx)))), (2, .int (iI (if dx < 0 then 180000 else 0))), (0, .int (iI dx)), (1, .int (iI dy))]) hx hb dX7_angle_47 hl (by decide) rfl (fun ls hl => ?_)
      have loop49 : ∀ (n_2 : Nat) (k : Int) (x4 : Int) (x3 : Int) (x2 : Int) (hi0 : 0 ≤ k) (hi1 : k ≤ 16) (hex4 : x4 = (cdc (1024 * absI dx) (1024 * (if dx < 0 then -dy else dy)) (if dx < 0 then 180000 else 0) k.toNat).2.1) (hex3 : x3 = (cdc (1024 * absI dx) (1024 * (if dx < 0 then -dy else dy)) (if dx < 0 then 180000 else 0) k.toNat).1) (hex2 : x2 = (cdc (1024 * absI dx) (1024 * (if dx < 0 then -dy else dy)) (if dx < 0 then 180000 else 0) k.toNat).2.2) (hn : 16 - k < (n_2 : Int)) (ls : Array Slot) (hl : lv_has ls 9 [(5, .int (iI k)), (4, .int (iI x4)), (3, .int (iI x3)), (2, .int (iI x2)), (0, .int (iI dx)), (1, .int (iI dy))]), W p l e { frames := 1, cells := 0, slots := 0, locals := 21 } s m ([.int (iI dx), .int (iI dy)] : List Value).toArray below meth c s.heap [] 0 0 (MQ below (kRO (fun r => r = angF dx dy)) ([.int (iI dx), .int (iI dy)] : List Value).toArray s 0 0 (fun _ => False)) (F0 m 49 ls []) := by
        intro n_2
        induction n_2 with
        | zero => intro k x4 x3 x2 hi0 hi1 hex4 hex3 hex2 hn ls hl; exfalso; omega
        | succ n_2 ih49 =>
          intro k x4 x3 x2 hi0 hi1 hex4 hex3 hex2 hn ls hl
          subst hex4
          subst hex3
          subst hex2
          have hc := ang_bd h1 h2 k.toNat (by omega)
          have hk := cbd_le k.toNat (by omega)
          refine lv_iload hx hb dX7_angle_49 (lv_at hl 0 rfl) ?_
          refine k_bipush hx hb dX7_angle_51 (by decide +kernel) ?_
          refine k_icmp_ge (tgt := 125) hx hb dX7_angle_53 (by decide) (by omega) (by omega) (fun c_3 => ?_) (fun c_3 => ?_)
          · skip
            refine lv_iload_n hx hb dX7_angle_125 rfl (lv_at hl 3 rfl) ?_
            refine k_roS (As := [.int (iI ((cdc (1024 * absI dx) (1024 * (if dx < 0 then -dy else dy)) (if dx < 0 then 180000 else 0) k.toNat).2.2))]) (rest := []) ⟨hx, hb, hml, hown, hts⟩ (c_X7_around l D ((cdc (1024 * absI dx) (1024 * (if dx < 0 then -dy else dy)) (if dx < 0 then 180000 else 0) k.toNat).2.2) (by omega)) gX7_angle_X7_around rfl ⟨rfl, rfl⟩ 1 rfl (by decide +kernel) ⟨Nat.le_of_ble_eq_true rfl, Nat.le_of_ble_eq_true rfl⟩ kGT_ok trivial (fun k q h => by simp at h) hl.1 rfl (Nat.le_of_ble_eq_true rfl) ⟨Nat.le_of_ble_eq_true rfl, Nat.le_of_ble_eq_true rfl⟩ dX7_angle_126 (fun r_4 hr_4 => ?_)
            have hr_4 : r_4 = ((cdc (1024 * absI dx) (1024 * (if dx < 0 then -dy else dy)) (if dx < 0 then 180000 else 0) k.toNat).2.2) % 360000 := hr_4
            subst hr_4
            exact W.iret (v := iI (((cdc (1024 * absI dx) (1024 * (if dx < 0 then -dy else dy)) (if dx < 0 then 180000 else 0) k.toNat).2.2) % 360000)) hx hb hr (fun t9 ht _ => ⟨(((cdc (1024 * absI dx) (1024 * (if dx < 0 then -dy else dy)) (if dx < 0 then 180000 else 0) k.toNat).2.2) % 360000), rfl, (by have h9 : k = 16 := (by omega); subst h9; unfold angF; rw [if_neg ji0]; rfl : (((cdc (1024 * absI dx) (1024 * (if dx < 0 then -dy else dy)) (if dx < 0 then 180000 else 0) k.toNat).2.2) % 360000 : Int) = angF dx dy), ht⟩) (fun _ h => nomatch h) dX7_angle_129 hlocks
          · skip
            refine lv_iload hx hb dX7_angle_56 (lv_at hl 1 rfl) ?_
            refine k_if_le (tgt := 65) hx hb dX7_angle_58 (by decide) (by omega) (fun c_5 => ?_) (fun c_5 => ?_)
            · skip
              refine lv_iload hx hb dX7_angle_65 (lv_at hl 1 rfl) ?_
              refine k_if_ge (tgt := 74) hx hb dX7_angle_67 (by decide) (by omega) (fun c_6 => ?_) (fun c_6 => ?_)
              · skip
                refine k_iconst hx hb dX7_angle_74 ?_
                refine lv_istore (lv' := [(6, .int (iI 0)), (5, .int (iI k)), (4, .int (iI ((cdc (1024 * absI dx) (1024 * (if dx < 0 then -dy else dy)) (if dx < 0 then 180000 else 0) k.toNat).2.1))), (3, .int (iI ((cdc (1024 * absI dx) (1024 * (if dx < 0 then -dy else dy)) (if dx < 0 then 180000 else 0) k.toNat).1))), (2, .int (iI ((cdc (1024 * absI dx) (1024 * (if dx < 0 then -dy else dy)) (if dx < 0 then 180000 else 0) k.toNat).2.2))), (0, .int (iI dx)), (1, .int (iI dy))]) hx hb dX7_angle_75 hl (by decide) rfl (fun ls hl => ?_)
                refine lv_iload hx hb dX7_angle_77 (lv_at hl 0 rfl) ?_
                refine lv_iload hx hb dX7_angle_79 (lv_at hl 2 rfl) ?_
                refine lv_iload hx hb dX7_angle_81 (lv_at hl 1 rfl) ?_
                refine k_ishr hx hb dX7_angle_83 (by omega) (by omega) ?_
                refine k_imul hx hb dX7_angle_84 ?_
                refine lv_istore (lv' := [(7, .int (iI (0 * (((cdc (1024 * absI dx) (1024 * (if dx < 0 then -dy else dy)) (if dx < 0 then 180000 else 0) k.toNat).2.1) / 2 ^ k.toNat)))), (6, .int (iI 0)), (5, .int (iI k)), (4, .int (iI ((cdc (1024 * absI dx) (1024 * (if dx < 0 then -dy else dy)) (if dx < 0 then 180000 else 0) k.toNat).2.1))), (3, .int (iI ((cdc (1024 * absI dx) (1024 * (if dx < 0 then -dy else dy)) (if dx < 0 then 180000 else 0) k.toNat).1))), (2, .int (iI ((cdc (1024 * absI dx) (1024 * (if dx < 0 then -dy else dy)) (if dx < 0 then 180000 else 0) k.toNat).2.2))), (0, .int (iI dx)), (1, .int (iI dy))]) hx hb dX7_angle_85 hl (by decide) rfl (fun ls hl => ?_)
                refine lv_iload hx hb dX7_angle_87 (lv_at hl 1 rfl) ?_
                refine lv_iload_n hx hb dX7_angle_89 rfl (lv_at hl 4 rfl) ?_
                refine lv_iload hx hb dX7_angle_90 (lv_at hl 2 rfl) ?_
                refine k_ishr hx hb dX7_angle_92 (by omega) (by omega) ?_
                refine k_imul hx hb dX7_angle_93 ?_
                refine lv_istore (lv' := [(8, .int (iI (0 * (((cdc (1024 * absI dx) (1024 * (if dx < 0 then -dy else dy)) (if dx < 0 then 180000 else 0) k.toNat).1) / 2 ^ k.toNat)))), (7, .int (iI (0 * (((cdc (1024 * absI dx) (1024 * (if dx < 0 then -dy else dy)) (if dx < 0 then 180000 else 0) k.toNat).2.1) / 2 ^ k.toNat)))), (6, .int (iI 0)), (5, .int (iI k)), (4, .int (iI ((cdc (1024 * absI dx) (1024 * (if dx < 0 then -dy else dy)) (if dx < 0 then 180000 else 0) k.toNat).2.1))), (3, .int (iI ((cdc (1024 * absI dx) (1024 * (if dx < 0 then -dy else dy)) (if dx < 0 then 180000 else 0) k.toNat).1))), (2, .int (iI ((cdc (1024 * absI dx) (1024 * (if dx < 0 then -dy else dy)) (if dx < 0 then 180000 else 0) k.toNat).2.2))), (0, .int (iI dx)), (1, .int (iI dy))]) hx hb dX7_angle_94 hl (by decide) rfl (fun ls hl => ?_)
                refine lv_iload_n hx hb dX7_angle_96 rfl (lv_at hl 5 rfl) ?_
                refine lv_iload hx hb dX7_angle_97 (lv_at hl 1 rfl) ?_
                refine k_iadd hx hb dX7_angle_99 ?_
                refine lv_istore_n (lv' := [(3, .int (iI (((cdc (1024 * absI dx) (1024 * (if dx < 0 then -dy else dy)) (if dx < 0 then 180000 else 0) k.toNat).1) + (0 * (((cdc (1024 * absI dx) (1024 * (if dx < 0 then -dy else dy)) (if dx < 0 then 180000 else 0) k.toNat).2.1) / 2 ^ k.toNat))))), (8, .int (iI (0 * (((cdc (1024 * absI dx) (1024 * (if dx < 0 then -dy else dy)) (if dx < 0 then 180000 else 0) k.toNat).1) / 2 ^ k.toNat)))), (7, .int (iI (0 * (((cdc (1024 * absI dx) (1024 * (if dx < 0 then -dy else dy)) (if dx < 0 then 180000 else 0) k.toNat).2.1) / 2 ^ k.toNat)))), (6, .int (iI 0)), (5, .int (iI k)), (4, .int (iI ((cdc (1024 * absI dx) (1024 * (if dx < 0 then -dy else dy)) (if dx < 0 then 180000 else 0) k.toNat).2.1))), (2, .int (iI ((cdc (1024 * absI dx) (1024 * (if dx < 0 then -dy else dy)) (if dx < 0 then 180000 else 0) k.toNat).2.2))), (0, .int (iI dx)), (1, .int (iI dy))]) hx hb dX7_angle_100 rfl hl (by decide) rfl (fun ls hl => ?_)
                refine lv_iload hx hb dX7_angle_101 (lv_at hl 5 rfl) ?_
                refine lv_iload hx hb dX7_angle_103 (lv_at hl 1 rfl) ?_
                refine k_isub hx hb dX7_angle_105 ?_
                refine lv_istore (lv' := [(4, .int (iI (((cdc (1024 * absI dx) (1024 * (if dx < 0 then -dy else dy)) (if dx < 0 then 180000 else 0) k.toNat).2.1) - (0 * (((cdc (1024 * absI dx) (1024 * (if dx < 0 then -dy else dy)) (if dx < 0 then 180000 else 0) k.toNat).1) / 2 ^ k.toNat))))), (3, .int (iI (((cdc (1024 * absI dx) (1024 * (if dx < 0 then -dy else dy)) (if dx < 0 then 180000 else 0) k.toNat).1) + (0 * (((cdc (1024 * absI dx) (1024 * (if dx < 0 then -dy else dy)) (if dx < 0 then 180000 else 0) k.toNat).2.1) / 2 ^ k.toNat))))), (8, .int (iI (0 * (((cdc (1024 * absI dx) (1024 * (if dx < 0 then -dy else dy)) (if dx < 0 then 180000 else 0) k.toNat).1) / 2 ^ k.toNat)))), (7, .int (iI (0 * (((cdc (1024 * absI dx) (1024 * (if dx < 0 then -dy else dy)) (if dx < 0 then 180000 else 0) k.toNat).2.1) / 2 ^ k.toNat)))), (6, .int (iI 0)), (5, .int (iI k)), (2, .int (iI ((cdc (1024 * absI dx) (1024 * (if dx < 0 then -dy else dy)) (if dx < 0 then 180000 else 0) k.toNat).2.2))), (0, .int (iI dx)), (1, .int (iI dy))]) hx hb dX7_angle_106 hl (by decide) rfl (fun ls hl => ?_)
                refine lv_iload_n hx hb dX7_angle_108 rfl (lv_at hl 6 rfl) ?_
                refine lv_iload hx hb dX7_angle_109 (lv_at hl 4 rfl) ?_
                refine lv_iload hx hb dX7_angle_111 (lv_at hl 5 rfl) ?_
                refine k_roS (As := [.int (iI k)]) (rest := [.int (iI 0), .int (iI ((cdc (1024 * absI dx) (1024 * (if dx < 0 then -dy else dy)) (if dx < 0 then 180000 else 0) k.toNat).2.2))]) ⟨hx, hb, hml, hown, hts⟩ (c_X7_turnBy l D k (by omega)) gX7_angle_X7_turnBy rfl ⟨rfl, rfl⟩ 1 rfl (by decide +kernel) ⟨Nat.le_of_ble_eq_true rfl, Nat.le_of_ble_eq_true rfl⟩ kGT_ok trivial (fun k q h => by simp at h) hl.1 rfl (Nat.le_of_ble_eq_true rfl) ⟨Nat.le_of_ble_eq_true rfl, Nat.le_of_ble_eq_true rfl⟩ dX7_angle_113 (fun r_7 hr_7 => ?_)
                have hr_7 : r_7 = turnsI k := hr_7
                subst hr_7
                refine k_imul hx hb dX7_angle_116 ?_
                refine k_iadd hx hb dX7_angle_117 ?_
                refine lv_istore_n (lv' := [(2, .int (iI (((cdc (1024 * absI dx) (1024 * (if dx < 0 then -dy else dy)) (if dx < 0 then 180000 else 0) k.toNat).2.2) + (0 * (turnsI k))))), (4, .int (iI (((cdc (1024 * absI dx) (1024 * (if dx < 0 then -dy else dy)) (if dx < 0 then 180000 else 0) k.toNat).2.1) - (0 * (((cdc (1024 * absI dx) (1024 * (if dx < 0 then -dy else dy)) (if dx < 0 then 180000 else 0) k.toNat).1) / 2 ^ k.toNat))))), (3, .int (iI (((cdc (1024 * absI dx) (1024 * (if dx < 0 then -dy else dy)) (if dx < 0 then 180000 else 0) k.toNat).1) + (0 * (((cdc (1024 * absI dx) (1024 * (if dx < 0 then -dy else dy)) (if dx < 0 then 180000 else 0) k.toNat).2.1) / 2 ^ k.toNat))))), (8, .int (iI (0 * (((cdc (1024 * absI dx) (1024 * (if dx < 0 then -dy else dy)) (if dx < 0 then 180000 else 0) k.toNat).1) / 2 ^ k.toNat)))), (7, .int (iI (0 * (((cdc (1024 * absI dx) (1024 * (if dx < 0 then -dy else dy)) (if dx < 0 then 180000 else 0) k.toNat).2.1) / 2 ^ k.toNat)))), (6, .int (iI 0)), (5, .int (iI k)), (0, .int (iI dx)), (1, .int (iI dy))]) hx hb dX7_angle_118 rfl hl (by decide) rfl (fun ls hl => ?_)
                refine lv_iinc (v := iI (k + 1)) (lv' := [(5, .int (iI (k + 1))), (2, .int (iI (((cdc (1024 * absI dx) (1024 * (if dx < 0 then -dy else dy)) (if dx < 0 then 180000 else 0) k.toNat).2.2) + (0 * (turnsI k))))), (4, .int (iI (((cdc (1024 * absI dx) (1024 * (if dx < 0 then -dy else dy)) (if dx < 0 then 180000 else 0) k.toNat).2.1) - (0 * (((cdc (1024 * absI dx) (1024 * (if dx < 0 then -dy else dy)) (if dx < 0 then 180000 else 0) k.toNat).1) / 2 ^ k.toNat))))), (3, .int (iI (((cdc (1024 * absI dx) (1024 * (if dx < 0 then -dy else dy)) (if dx < 0 then 180000 else 0) k.toNat).1) + (0 * (((cdc (1024 * absI dx) (1024 * (if dx < 0 then -dy else dy)) (if dx < 0 then 180000 else 0) k.toNat).2.1) / 2 ^ k.toNat))))), (8, .int (iI (0 * (((cdc (1024 * absI dx) (1024 * (if dx < 0 then -dy else dy)) (if dx < 0 then 180000 else 0) k.toNat).1) / 2 ^ k.toNat)))), (7, .int (iI (0 * (((cdc (1024 * absI dx) (1024 * (if dx < 0 then -dy else dy)) (if dx < 0 then 180000 else 0) k.toNat).2.1) / 2 ^ k.toNat)))), (6, .int (iI 0)), (0, .int (iI dx)), (1, .int (iI dy))]) hx hb dX7_angle_119 hl (k := 6) rfl (iI_add _ _) (by decide) rfl (fun ls hl => ?_)
                refine lv_goto (tgt := 49) hx hb dX7_angle_122 (by decide) ?_
                exact ih49 (k + 1) (((cdc (1024 * absI dx) (1024 * (if dx < 0 then -dy else dy)) (if dx < 0 then 180000 else 0) k.toNat).2.1) - (0 * (((cdc (1024 * absI dx) (1024 * (if dx < 0 then -dy else dy)) (if dx < 0 then 180000 else 0) k.toNat).1) / 2 ^ k.toNat))) (((cdc (1024 * absI dx) (1024 * (if dx < 0 then -dy else dy)) (if dx < 0 then 180000 else 0) k.toNat).1) + (0 * (((cdc (1024 * absI dx) (1024 * (if dx < 0 then -dy else dy)) (if dx < 0 then 180000 else 0) k.toNat).2.1) / 2 ^ k.toNat))) (((cdc (1024 * absI dx) (1024 * (if dx < 0 then -dy else dy)) (if dx < 0 then 180000 else 0) k.toNat).2.2) + (0 * (turnsI k))) (by omega) (by omega) (by first | (rw [cdc_s1 hi0 (by assumption)]; (try dsimp only); omega) | (rw [cdc_s2 hi0 (by assumption)]; (try dsimp only); omega) | (rw [cdc_s0 hi0 (by omega)]; omega)) (by first | (rw [cdc_s1 hi0 (by assumption)]; (try dsimp only); omega) | (rw [cdc_s2 hi0 (by assumption)]; (try dsimp only); omega) | (rw [cdc_s0 hi0 (by omega)]; omega)) (by first | (rw [cdc_s1 hi0 (by assumption)]; (try dsimp only); omega) | (rw [cdc_s2 hi0 (by assumption)]; (try dsimp only); omega) | (rw [cdc_s0 hi0 (by omega)]; omega)) (by omega) ls (lv_sub hl [0, 2, 3, 1, 7, 8] rfl)
              · skip
                refine k_iconst hx hb dX7_angle_70 ?_
                refine lv_goto (tgt := 75) hx hb dX7_angle_71 (by decide) ?_
                refine lv_istore (lv' := [(6, .int (iI (-1))), (5, .int (iI k)), (4, .int (iI ((cdc (1024 * absI dx) (1024 * (if dx < 0 then -dy else dy)) (if dx < 0 then 180000 else 0) k.toNat).2.1))), (3, .int (iI ((cdc (1024 * absI dx) (1024 * (if dx < 0 then -dy else dy)) (if dx < 0 then 180000 else 0) k.toNat).1))), (2, .int (iI ((cdc (1024 * absI dx) (1024 * (if dx < 0 then -dy else dy)) (if dx < 0 then 180000 else 0) k.toNat).2.2))), (0, .int (iI dx)), (1, .int (iI dy))]) hx hb dX7_angle_75 hl (by decide) rfl (fun ls hl => ?_)
                refine lv_iload hx hb dX7_angle_77 (lv_at hl 0 rfl) ?_
                refine lv_iload hx hb dX7_angle_79 (lv_at hl 2 rfl) ?_
                refine lv_iload hx hb dX7_angle_81 (lv_at hl 1 rfl) ?_
                refine k_ishr hx hb dX7_angle_83 (by omega) (by omega) ?_
                refine k_imul hx hb dX7_angle_84 ?_
                refine lv_istore (lv' := [(7, .int (iI ((-1) * (((cdc (1024 * absI dx) (1024 * (if dx < 0 then -dy else dy)) (if dx < 0 then 180000 else 0) k.toNat).2.1) / 2 ^ k.toNat)))), (6, .int (iI (-1))), (5, .int (iI k)), (4, .int (iI ((cdc (1024 * absI dx) (1024 * (if dx < 0 then -dy else dy)) (if dx < 0 then 180000 else 0) k.toNat).2.1))), (3, .int (iI ((cdc (1024 * absI dx) (1024 * (if dx < 0 then -dy else dy)) (if dx < 0 then 180000 else 0) k.toNat).1))), (2, .int (iI ((cdc (1024 * absI dx) (1024 * (if dx < 0 then -dy else dy)) (if dx < 0 then 180000 else 0) k.toNat).2.2))), (0, .int (iI dx)), (1, .int (iI dy))]) hx hb dX7_angle_85 hl (by decide) rfl (fun ls hl => ?_)
                refine lv_iload hx hb dX7_angle_87 (lv_at hl 1 rfl) ?_
                refine lv_iload_n hx hb dX7_angle_89 rfl (lv_at hl 4 rfl) ?_
                refine lv_iload hx hb dX7_angle_90 (lv_at hl 2 rfl) ?_
                refine k_ishr hx hb dX7_angle_92 (by omega) (by omega) ?_
                refine k_imul hx hb dX7_angle_93 ?_
                refine lv_istore (lv' := [(8, .int (iI ((-1) * (((cdc (1024 * absI dx) (1024 * (if dx < 0 then -dy else dy)) (if dx < 0 then 180000 else 0) k.toNat).1) / 2 ^ k.toNat)))), (7, .int (iI ((-1) * (((cdc (1024 * absI dx) (1024 * (if dx < 0 then -dy else dy)) (if dx < 0 then 180000 else 0) k.toNat).2.1) / 2 ^ k.toNat)))), (6, .int (iI (-1))), (5, .int (iI k)), (4, .int (iI ((cdc (1024 * absI dx) (1024 * (if dx < 0 then -dy else dy)) (if dx < 0 then 180000 else 0) k.toNat).2.1))), (3, .int (iI ((cdc (1024 * absI dx) (1024 * (if dx < 0 then -dy else dy)) (if dx < 0 then 180000 else 0) k.toNat).1))), (2, .int (iI ((cdc (1024 * absI dx) (1024 * (if dx < 0 then -dy else dy)) (if dx < 0 then 180000 else 0) k.toNat).2.2))), (0, .int (iI dx)), (1, .int (iI dy))]) hx hb dX7_angle_94 hl (by decide) rfl (fun ls hl => ?_)
                refine lv_iload_n hx hb dX7_angle_96 rfl (lv_at hl 5 rfl) ?_
                refine lv_iload hx hb dX7_angle_97 (lv_at hl 1 rfl) ?_
                refine k_iadd hx hb dX7_angle_99 ?_
                refine lv_istore_n (lv' := [(3, .int (iI (((cdc (1024 * absI dx) (1024 * (if dx < 0 then -dy else dy)) (if dx < 0 then 180000 else 0) k.toNat).1) + ((-1) * (((cdc (1024 * absI dx) (1024 * (if dx < 0 then -dy else dy)) (if dx < 0 then 180000 else 0) k.toNat).2.1) / 2 ^ k.toNat))))), (8, .int (iI ((-1) * (((cdc (1024 * absI dx) (1024 * (if dx < 0 then -dy else dy)) (if dx < 0 then 180000 else 0) k.toNat).1) / 2 ^ k.toNat)))), (7, .int (iI ((-1) * (((cdc (1024 * absI dx) (1024 * (if dx < 0 then -dy else dy)) (if dx < 0 then 180000 else 0) k.toNat).2.1) / 2 ^ k.toNat)))), (6, .int (iI (-1))), (5, .int (iI k)), (4, .int (iI ((cdc (1024 * absI dx) (1024 * (if dx < 0 then -dy else dy)) (if dx < 0 then 180000 else 0) k.toNat).2.1))), (2, .int (iI ((cdc (1024 * absI dx) (1024 * (if dx < 0 then -dy else dy)) (if dx < 0 then 180000 else 0) k.toNat).2.2))), (0, .int (iI dx)), (1, .int (iI dy))]) hx hb dX7_angle_100 rfl hl (by decide) rfl (fun ls hl => ?_)
                refine lv_iload hx hb dX7_angle_101 (lv_at hl 5 rfl) ?_
                refine lv_iload hx hb dX7_angle_103 (lv_at hl 1 rfl) ?_
                refine k_isub hx hb dX7_angle_105 ?_
                refine lv_istore (lv' := [(4, .int (iI (((cdc (1024 * absI dx) (1024 * (if dx < 0 then -dy else dy)) (if dx < 0 then 180000 else 0) k.toNat).2.1) - ((-1) * (((cdc (1024 * absI dx) (1024 * (if dx < 0 then -dy else dy)) (if dx < 0 then 180000 else 0) k.toNat).1) / 2 ^ k.toNat))))), (3, .int (iI (((cdc (1024 * absI dx) (1024 * (if dx < 0 then -dy else dy)) (if dx < 0 then 180000 else 0) k.toNat).1) + ((-1) * (((cdc (1024 * absI dx) (1024 * (if dx < 0 then -dy else dy)) (if dx < 0 then 180000 else 0) k.toNat).2.1) / 2 ^ k.toNat))))), (8, .int (iI ((-1) * (((cdc (1024 * absI dx) (1024 * (if dx < 0 then -dy else dy)) (if dx < 0 then 180000 else 0) k.toNat).1) / 2 ^ k.toNat)))), (7, .int (iI ((-1) * (((cdc (1024 * absI dx) (1024 * (if dx < 0 then -dy else dy)) (if dx < 0 then 180000 else 0) k.toNat).2.1) / 2 ^ k.toNat)))), (6, .int (iI (-1))), (5, .int (iI k)), (2, .int (iI ((cdc (1024 * absI dx) (1024 * (if dx < 0 then -dy else dy)) (if dx < 0 then 180000 else 0) k.toNat).2.2))), (0, .int (iI dx)), (1, .int (iI dy))]) hx hb dX7_angle_106 hl (by decide) rfl (fun ls hl => ?_)
                refine lv_iload_n hx hb dX7_angle_108 rfl (lv_at hl 6 rfl) ?_
                refine lv_iload hx hb dX7_angle_109 (lv_at hl 4 rfl) ?_
                refine lv_iload hx hb dX7_angle_111 (lv_at hl 5 rfl) ?_
                refine k_roS (As := [.int (iI k)]) (rest := [.int (iI (-1)), .int (iI ((cdc (1024 * absI dx) (1024 * (if dx < 0 then -dy else dy)) (if dx < 0 then 180000 else 0) k.toNat).2.2))]) ⟨hx, hb, hml, hown, hts⟩ (c_X7_turnBy l D k (by omega)) gX7_angle_X7_turnBy rfl ⟨rfl, rfl⟩ 1 rfl (by decide +kernel) ⟨Nat.le_of_ble_eq_true rfl, Nat.le_of_ble_eq_true rfl⟩ kGT_ok trivial (fun k q h => by simp at h) hl.1 rfl (Nat.le_of_ble_eq_true rfl) ⟨Nat.le_of_ble_eq_true rfl, Nat.le_of_ble_eq_true rfl⟩ dX7_angle_113 (fun r_8 hr_8 => ?_)
                have hr_8 : r_8 = turnsI k := hr_8
                subst hr_8
                refine k_imul hx hb dX7_angle_116 ?_
                refine k_iadd hx hb dX7_angle_117 ?_
                refine lv_istore_n (lv' := [(2, .int (iI (((cdc (1024 * absI dx) (1024 * (if dx < 0 then -dy else dy)) (if dx < 0 then 180000 else 0) k.toNat).2.2) + ((-1) * (turnsI k))))), (4, .int (iI (((cdc (1024 * absI dx) (1024 * (if dx < 0 then -dy else dy)) (if dx < 0 then 180000 else 0) k.toNat).2.1) - ((-1) * (((cdc (1024 * absI dx) (1024 * (if dx < 0 then -dy else dy)) (if dx < 0 then 180000 else 0) k.toNat).1) / 2 ^ k.toNat))))), (3, .int (iI (((cdc (1024 * absI dx) (1024 * (if dx < 0 then -dy else dy)) (if dx < 0 then 180000 else 0) k.toNat).1) + ((-1) * (((cdc (1024 * absI dx) (1024 * (if dx < 0 then -dy else dy)) (if dx < 0 then 180000 else 0) k.toNat).2.1) / 2 ^ k.toNat))))), (8, .int (iI ((-1) * (((cdc (1024 * absI dx) (1024 * (if dx < 0 then -dy else dy)) (if dx < 0 then 180000 else 0) k.toNat).1) / 2 ^ k.toNat)))), (7, .int (iI ((-1) * (((cdc (1024 * absI dx) (1024 * (if dx < 0 then -dy else dy)) (if dx < 0 then 180000 else 0) k.toNat).2.1) / 2 ^ k.toNat)))), (6, .int (iI (-1))), (5, .int (iI k)), (0, .int (iI dx)), (1, .int (iI dy))]) hx hb dX7_angle_118 rfl hl (by decide) rfl (fun ls hl => ?_)
                refine lv_iinc (v := iI (k + 1)) (lv' := [(5, .int (iI (k + 1))), (2, .int (iI (((cdc (1024 * absI dx) (1024 * (if dx < 0 then -dy else dy)) (if dx < 0 then 180000 else 0) k.toNat).2.2) + ((-1) * (turnsI k))))), (4, .int (iI (((cdc (1024 * absI dx) (1024 * (if dx < 0 then -dy else dy)) (if dx < 0 then 180000 else 0) k.toNat).2.1) - ((-1) * (((cdc (1024 * absI dx) (1024 * (if dx < 0 then -dy else dy)) (if dx < 0 then 180000 else 0) k.toNat).1) / 2 ^ k.toNat))))), (3, .int (iI (((cdc (1024 * absI dx) (1024 * (if dx < 0 then -dy else dy)) (if dx < 0 then 180000 else 0) k.toNat).1) + ((-1) * (((cdc (1024 * absI dx) (1024 * (if dx < 0 then -dy else dy)) (if dx < 0 then 180000 else 0) k.toNat).2.1) / 2 ^ k.toNat))))), (8, .int (iI ((-1) * (((cdc (1024 * absI dx) (1024 * (if dx < 0 then -dy else dy)) (if dx < 0 then 180000 else 0) k.toNat).1) / 2 ^ k.toNat)))), (7, .int (iI ((-1) * (((cdc (1024 * absI dx) (1024 * (if dx < 0 then -dy else dy)) (if dx < 0 then 180000 else 0) k.toNat).2.1) / 2 ^ k.toNat)))), (6, .int (iI (-1))), (0, .int (iI dx)), (1, .int (iI dy))]) hx hb dX7_angle_119 hl (k := 6) rfl (iI_add _ _) (by decide) rfl (fun ls hl => ?_)
                refine lv_goto (tgt := 49) hx hb dX7_angle_122 (by decide) ?_
                exact ih49 (k + 1) (((cdc (1024 * absI dx) (1024 * (if dx < 0 then -dy else dy)) (if dx < 0 then 180000 else 0) k.toNat).2.1) - ((-1) * (((cdc (1024 * absI dx) (1024 * (if dx < 0 then -dy else dy)) (if dx < 0 then 180000 else 0) k.toNat).1) / 2 ^ k.toNat))) (((cdc (1024 * absI dx) (1024 * (if dx < 0 then -dy else dy)) (if dx < 0 then 180000 else 0) k.toNat).1) + ((-1) * (((cdc (1024 * absI dx) (1024 * (if dx < 0 then -dy else dy)) (if dx < 0 then 180000 else 0) k.toNat).2.1) / 2 ^ k.toNat))) (((cdc (1024 * absI dx) (1024 * (if dx < 0 then -dy else dy)) (if dx < 0 then 180000 else 0) k.toNat).2.2) + ((-1) * (turnsI k))) (by omega) (by omega) (by first | (rw [cdc_s1 hi0 (by assumption)]; (try dsimp only); omega) | (rw [cdc_s2 hi0 (by assumption)]; (try dsimp only); omega) | (rw [cdc_s0 hi0 (by omega)]; omega)) (by first | (rw [cdc_s1 hi0 (by assumption)]; (try dsimp only); omega) | (rw [cdc_s2 hi0 (by assumption)]; (try dsimp only); omega) | (rw [cdc_s0 hi0 (by omega)]; omega)) (by first | (rw [cdc_s1 hi0 (by assumption)]; (try dsimp only); omega) | (rw [cdc_s2 hi0 (by assumption)]; (try dsimp only); omega) | (rw [cdc_s0 hi0 (by omega)]; omega)) (by omega) ls (lv_sub hl [0, 2, 3, 1, 7, 8] rfl)
            · skip
              refine k_iconst hx hb dX7_angle_61 ?_
              refine lv_goto (tgt := 75) hx hb dX7_angle_62 (by decide) ?_
              refine lv_istore (lv' := [(6, .int (iI 1)), (5, .int (iI k)), (4, .int (iI ((cdc (1024 * absI dx) (1024 * (if dx < 0 then -dy else dy)) (if dx < 0 then 180000 else 0) k.toNat).2.1))), (3, .int (iI ((cdc (1024 * absI dx) (1024 * (if dx < 0 then -dy else dy)) (if dx < 0 then 180000 else 0) k.toNat).1))), (2, .int (iI ((cdc (1024 * absI dx) (1024 * (if dx < 0 then -dy else dy)) (if dx < 0 then 180000 else 0) k.toNat).2.2))), (0, .int (iI dx)), (1, .int (iI dy))]) hx hb dX7_angle_75 hl (by decide) rfl (fun ls hl => ?_)
              refine lv_iload hx hb dX7_angle_77 (lv_at hl 0 rfl) ?_
              refine lv_iload hx hb dX7_angle_79 (lv_at hl 2 rfl) ?_
              refine lv_iload hx hb dX7_angle_81 (lv_at hl 1 rfl) ?_
              refine k_ishr hx hb dX7_angle_83 (by omega) (by omega) ?_
              refine k_imul hx hb dX7_angle_84 ?_
              refine lv_istore (lv' := [(7, .int (iI (1 * (((cdc (1024 * absI dx) (1024 * (if dx < 0 then -dy else dy)) (if dx < 0 then 180000 else 0) k.toNat).2.1) / 2 ^ k.toNat)))), (6, .int (iI 1)), (5, .int (iI k)), (4, .int (iI ((cdc (1024 * absI dx) (1024 * (if dx < 0 then -dy else dy)) (if dx < 0 then 180000 else 0) k.toNat).2.1))), (3, .int (iI ((cdc (1024 * absI dx) (1024 * (if dx < 0 then -dy else dy)) (if dx < 0 then 180000 else 0) k.toNat).1))), (2, .int (iI ((cdc (1024 * absI dx) (1024 * (if dx < 0 then -dy else dy)) (if dx < 0 then 180000 else 0) k.toNat).2.2))), (0, .int (iI dx)), (1, .int (iI dy))]) hx hb dX7_angle_85 hl (by decide) rfl (fun ls hl => ?_)
              refine lv_iload hx hb dX7_angle_87 (lv_at hl 1 rfl) ?_
              refine lv_iload_n hx hb dX7_angle_89 rfl (lv_at hl 4 rfl) ?_
              refine lv_iload hx hb dX7_angle_90 (lv_at hl 2 rfl) ?_
              refine k_ishr hx hb dX7_angle_92 (by omega) (by omega) ?_
              refine k_imul hx hb dX7_angle_93 ?_
              refine lv_istore (lv' := [(8, .int (iI (1 * (((cdc (1024 * absI dx) (1024 * (if dx < 0 then -dy else dy)) (if dx < 0 then 180000 else 0) k.toNat).1) / 2 ^ k.toNat)))), (7, .int (iI (1 * (((cdc (1024 * absI dx) (1024 * (if dx < 0 then -dy else dy)) (if dx < 0 then 180000 else 0) k.toNat).2.1) / 2 ^ k.toNat)))), (6, .int (iI 1)), (5, .int (iI k)), (4, .int (iI ((cdc (1024 * absI dx) (1024 * (if dx < 0 then -dy else dy)) (if dx < 0 then 180000 else 0) k.toNat).2.1))), (3, .int (iI ((cdc (1024 * absI dx) (1024 * (if dx < 0 then -dy else dy)) (if dx < 0 then 180000 else 0) k.toNat).1))), (2, .int (iI ((cdc (1024 * absI dx) (1024 * (if dx < 0 then -dy else dy)) (if dx < 0 then 180000 else 0) k.toNat).2.2))), (0, .int (iI dx)), (1, .int (iI dy))]) hx hb dX7_angle_94 hl (by decide) rfl (fun ls hl => ?_)
              refine lv_iload_n hx hb dX7_angle_96 rfl (lv_at hl 5 rfl) ?_
              refine lv_iload hx hb dX7_angle_97 (lv_at hl 1 rfl) ?_
              refine k_iadd hx hb dX7_angle_99 ?_
              refine lv_istore_n (lv' := [(3, .int (iI (((cdc (1024 * absI dx) (1024 * (if dx < 0 then -dy else dy)) (if dx < 0 then 180000 else 0) k.toNat).1) + (1 * (((cdc (1024 * absI dx) (1024 * (if dx < 0 then -dy else dy)) (if dx < 0 then 180000 else 0) k.toNat).2.1) / 2 ^ k.toNat))))), (8, .int (iI (1 * (((cdc (1024 * absI dx) (1024 * (if dx < 0 then -dy else dy)) (if dx < 0 then 180000 else 0) k.toNat).1) / 2 ^ k.toNat)))), (7, .int (iI (1 * (((cdc (1024 * absI dx) (1024 * (if dx < 0 then -dy else dy)) (if dx < 0 then 180000 else 0) k.toNat).2.1) / 2 ^ k.toNat)))), (6, .int (iI 1)), (5, .int (iI k)), (4, .int (iI ((cdc (1024 * absI dx) (1024 * (if dx < 0 then -dy else dy)) (if dx < 0 then 180000 else 0) k.toNat).2.1))), (2, .int (iI ((cdc (1024 * absI dx) (1024 * (if dx < 0 then -dy else dy)) (if dx < 0 then 180000 else 0) k.toNat).2.2))), (0, .int (iI dx)), (1, .int (iI dy))]) hx hb dX7_angle_100 rfl hl (by decide) rfl (fun ls hl => ?_)
              refine lv_iload hx hb dX7_angle_101 (lv_at hl 5 rfl) ?_
              refine lv_iload hx hb dX7_angle_103 (lv_at hl 1 rfl) ?_
              refine k_isub hx hb dX7_angle_105 ?_
              refine lv_istore (lv' := [(4, .int (iI (((cdc (1024 * absI dx) (1024 * (if dx < 0 then -dy else dy)) (if dx < 0 then 180000 else 0) k.toNat).2.1) - (1 * (((cdc (1024 * absI dx) (1024 * (if dx < 0 then -dy else dy)) (if dx < 0 then 180000 else 0) k.toNat).1) / 2 ^ k.toNat))))), (3, .int (iI (((cdc (1024 * absI dx) (1024 * (if dx < 0 then -dy else dy)) (if dx < 0 then 180000 else 0) k.toNat).1) + (1 * (((cdc (1024 * absI dx) (1024 * (if dx < 0 then -dy else dy)) (if dx < 0 then 180000 else 0) k.toNat).2.1) / 2 ^ k.toNat))))), (8, .int (iI (1 * (((cdc (1024 * absI dx) (1024 * (if dx < 0 then -dy else dy)) (if dx < 0 then 180000 else 0) k.toNat).1) / 2 ^ k.toNat)))), (7, .int (iI (1 * (((cdc (1024 * absI dx) (1024 * (if dx < 0 then -dy else dy)) (if dx < 0 then 180000 else 0) k.toNat).2.1) / 2 ^ k.toNat)))), (6, .int (iI 1)), (5, .int (iI k)), (2, .int (iI ((cdc (1024 * absI dx) (1024 * (if dx < 0 then -dy else dy)) (if dx < 0 then 180000 else 0) k.toNat).2.2))), (0, .int (iI dx)), (1, .int (iI dy))]) hx hb dX7_angle_106 hl (by decide) rfl (fun ls hl => ?_)
              refine lv_iload_n hx hb dX7_angle_108 rfl (lv_at hl 6 rfl) ?_
              refine lv_iload hx hb dX7_angle_109 (lv_at hl 4 rfl) ?_
              refine lv_iload hx hb dX7_angle_111 (lv_at hl 5 rfl) ?_
              refine k_roS (As := [.int (iI k)]) (rest := [.int (iI 1), .int (iI ((cdc (1024 * absI dx) (1024 * (if dx < 0 then -dy else dy)) (if dx < 0 then 180000 else 0) k.toNat).2.2))]) ⟨hx, hb, hml, hown, hts⟩ (c_X7_turnBy l D k (by omega)) gX7_angle_X7_turnBy rfl ⟨rfl, rfl⟩ 1 rfl (by decide +kernel) ⟨Nat.le_of_ble_eq_true rfl, Nat.le_of_ble_eq_true rfl⟩ kGT_ok trivial (fun k q h => by simp at h) hl.1 rfl (Nat.le_of_ble_eq_true rfl) ⟨Nat.le_of_ble_eq_true rfl, Nat.le_of_ble_eq_true rfl⟩ dX7_angle_113 (fun r_9 hr_9 => ?_)
              have hr_9 : r_9 = turnsI k := hr_9
              subst hr_9
              refine k_imul hx hb dX7_angle_116 ?_
              refine k_iadd hx hb dX7_angle_117 ?_
              refine lv_istore_n (lv' := [(2, .int (iI (((cdc (1024 * absI dx) (1024 * (if dx < 0 then -dy else dy)) (if dx < 0 then 180000 else 0) k.toNat).2.2) + (1 * (turnsI k))))), (4, .int (iI (((cdc (1024 * absI dx) (1024 * (if dx < 0 then -dy else dy)) (if dx < 0 then 180000 else 0) k.toNat).2.1) - (1 * (((cdc (1024 * absI dx) (1024 * (if dx < 0 then -dy else dy)) (if dx < 0 then 180000 else 0) k.toNat).1) / 2 ^ k.toNat))))), (3, .int (iI (((cdc (1024 * absI dx) (1024 * (if dx < 0 then -dy else dy)) (if dx < 0 then 180000 else 0) k.toNat).1) + (1 * (((cdc (1024 * absI dx) (1024 * (if dx < 0 then -dy else dy)) (if dx < 0 then 180000 else 0) k.toNat).2.1) / 2 ^ k.toNat))))), (8, .int (iI (1 * (((cdc (1024 * absI dx) (1024 * (if dx < 0 then -dy else dy)) (if dx < 0 then 180000 else 0) k.toNat).1) / 2 ^ k.toNat)))), (7, .int (iI (1 * (((cdc (1024 * absI dx) (1024 * (if dx < 0 then -dy else dy)) (if dx < 0 then 180000 else 0) k.toNat).2.1) / 2 ^ k.toNat)))), (6, .int (iI 1)), (5, .int (iI k)), (0, .int (iI dx)), (1, .int (iI dy))]) hx hb dX7_angle_118 rfl hl (by decide) rfl (fun ls hl => ?_)
              refine lv_iinc (v := iI (k + 1)) (lv' := [(5, .int (iI (k + 1))), (2, .int (iI (((cdc (1024 * absI dx) (1024 * (if dx < 0 then -dy else dy)) (if dx < 0 then 180000 else 0) k.toNat).2.2) + (1 * (turnsI k))))), (4, .int (iI (((cdc (1024 * absI dx) (1024 * (if dx < 0 then -dy else dy)) (if dx < 0 then 180000 else 0) k.toNat).2.1) - (1 * (((cdc (1024 * absI dx) (1024 * (if dx < 0 then -dy else dy)) (if dx < 0 then 180000 else 0) k.toNat).1) / 2 ^ k.toNat))))), (3, .int (iI (((cdc (1024 * absI dx) (1024 * (if dx < 0 then -dy else dy)) (if dx < 0 then 180000 else 0) k.toNat).1) + (1 * (((cdc (1024 * absI dx) (1024 * (if dx < 0 then -dy else dy)) (if dx < 0 then 180000 else 0) k.toNat).2.1) / 2 ^ k.toNat))))), (8, .int (iI (1 * (((cdc (1024 * absI dx) (1024 * (if dx < 0 then -dy else dy)) (if dx < 0 then 180000 else 0) k.toNat).1) / 2 ^ k.toNat)))), (7, .int (iI (1 * (((cdc (1024 * absI dx) (1024 * (if dx < 0 then -dy else dy)) (if dx < 0 then 180000 else 0) k.toNat).2.1) / 2 ^ k.toNat)))), (6, .int (iI 1)), (0, .int (iI dx)), (1, .int (iI dy))]) hx hb dX7_angle_119 hl (k := 6) rfl (iI_add _ _) (by decide) rfl (fun ls hl => ?_)
              refine lv_goto (tgt := 49) hx hb dX7_angle_122 (by decide) ?_
              exact ih49 (k + 1) (((cdc (1024 * absI dx) (1024 * (if dx < 0 then -dy else dy)) (if dx < 0 then 180000 else 0) k.toNat).2.1) - (1 * (((cdc (1024 * absI dx) (1024 * (if dx < 0 then -dy else dy)) (if dx < 0 then 180000 else 0) k.toNat).1) / 2 ^ k.toNat))) (((cdc (1024 * absI dx) (1024 * (if dx < 0 then -dy else dy)) (if dx < 0 then 180000 else 0) k.toNat).1) + (1 * (((cdc (1024 * absI dx) (1024 * (if dx < 0 then -dy else dy)) (if dx < 0 then 180000 else 0) k.toNat).2.1) / 2 ^ k.toNat))) (((cdc (1024 * absI dx) (1024 * (if dx < 0 then -dy else dy)) (if dx < 0 then 180000 else 0) k.toNat).2.2) + (1 * (turnsI k))) (by omega) (by omega) (by first | (rw [cdc_s1 hi0 (by assumption)]; (try dsimp only); omega) | (rw [cdc_s2 hi0 (by assumption)]; (try dsimp only); omega) | (rw [cdc_s0 hi0 (by omega)]; omega)) (by first | (rw [cdc_s1 hi0 (by assumption)]; (try dsimp only); omega) | (rw [cdc_s2 hi0 (by assumption)]; (try dsimp only); omega) | (rw [cdc_s0 hi0 (by omega)]; omega)) (by first | (rw [cdc_s1 hi0 (by assumption)]; (try dsimp only); omega) | (rw [cdc_s2 hi0 (by assumption)]; (try dsimp only); omega) | (rw [cdc_s0 hi0 (by omega)]; omega)) (by omega) ls (lv_sub hl [0, 2, 3, 1, 7, 8] rfl)
      exact loop49 ((16 - 0 : Int) + 1).toNat 0 (1024 * (if dx < 0 then -dy else dy)) (1024 * (absI dx)) (if dx < 0 then 180000 else 0) (by omega) (by omega) (rfl) (rfl) (rfl) (by omega) ls (lv_sub hl [0, 1, 2, 3, 4, 5] rfl)
    refine lv_iload_n hx hb dX7_angle_33 rfl (lv_at hl 2 rfl) ?_
    refine k_if_ge (tgt := 42) hx hb dX7_angle_34 (by decide) (by omega) (fun c_10 => ?_) (fun c_10 => ?_)
    · skip
      refine lv_iload_n hx hb dX7_angle_42 rfl (lv_at hl 3 rfl) ?_
      exact join43  dy (by split <;> omega)  ls (lv_sub hl [0, 1, 2, 3] rfl)
    · skip
      refine lv_iload_n hx hb dX7_angle_37 rfl (lv_at hl 3 rfl) ?_
      refine k_ineg hx hb dX7_angle_38 ?_
      refine lv_goto (tgt := 43) hx hb dX7_angle_39 (by decide) ?_
      exact join43  (-dy) (by split <;> omega)  ls (lv_sub hl [0, 1, 2, 3] rfl)
  refine lv_iload_n hx hb dX7_angle_0 rfl (lv_at hl 0 rfl) ?_
  refine k_if_ne (tgt := 10) hx hb dX7_angle_1 (by decide) (by omega) (fun c_11 => ?_) (fun c_11 => ?_)
  · skip
    refine lv_iload_n hx hb dX7_angle_10 rfl (lv_at hl 0 rfl) ?_
    refine k_if_ge (tgt := 19) hx hb dX7_angle_11 (by decide) (by omega) (fun c_12 => ?_) (fun c_12 => ?_)
    · skip
      refine k_iconst hx hb dX7_angle_19 ?_
      exact join20  0 (by omega) (by split <;> omega)  ls (lv_sub hl [0, 1] rfl)
    · skip
      refine k_ldc (z := 180000) hx hb hown hm0 (by decide +kernel) dX7_angle_14 ?_
      refine lv_goto (tgt := 20) hx hb dX7_angle_16 (by decide) ?_
      exact join20  180000 (by omega) (by split <;> omega)  ls (lv_sub hl [0, 1] rfl)
  · skip
    refine lv_iload_n hx hb dX7_angle_4 rfl (lv_at hl 1 rfl) ?_
    refine k_if_ne (tgt := 10) hx hb dX7_angle_5 (by decide) (by omega) (fun c_13 => ?_) (fun c_13 => ?_)
    · skip
      refine lv_iload_n hx hb dX7_angle_10 rfl (lv_at hl 0 rfl) ?_
      refine k_if_ge (tgt := 19) hx hb dX7_angle_11 (by decide) (by omega) (fun c_14 => ?_) (fun c_14 => ?_)
      · skip
        refine k_iconst hx hb dX7_angle_19 ?_
        exact join20  0 (by omega) (by split <;> omega)  ls (lv_sub hl [0, 1] rfl)
      · skip
        refine k_ldc (z := 180000) hx hb hown hm0 (by decide +kernel) dX7_angle_14 ?_
        refine lv_goto (tgt := 20) hx hb dX7_angle_16 (by decide) ?_
        exact join20  180000 (by omega) (by split <;> omega)  ls (lv_sub hl [0, 1] rfl)
    · skip
      refine k_iconst hx hb dX7_angle_8 ?_
      exact W.iret (v := iI 0) hx hb hr (fun t9 ht _ => ⟨0, rfl, (by unfold angF; rw [if_pos (by omega)] : (0 : Int) = angF dx dy), ht⟩) (fun _ h => nomatch h) dX7_angle_9 hlocks
set_option maxHeartbeats 4000000 in
set_option maxRecDepth 100000 in
theorem c_X7_isTrail (l : Launch) (D : va_G) (cy : Nat → ClassId) (a : Nat → Nat) (R : Nat → Int → Int) (t : Int) (hI : Inv (R 1)) (hrt : -2147483648 ≤ t ∧ t ≤ 2147483647) : Met l yX7_isTrail wsX7_isTrail { frames := 1, cells := 0, slots := 0, locals := 22 } (kPre (GG D cy) D (rfW cy a R) ([.ref (a 0), .int (iI t)] : List Value)) (kRO (fun r => ((0 ≤ t ∧ t < R 1 12) ∧ r = 1) ∨ (¬ (0 ≤ t ∧ t < R 1 12) ∧ r = 0))) 0 0 (fun _ => False) := by
  refine kRO_start (cc := cX7_isTrail) (maxL := 2) (ret := (some .boolean)) (by decide) rfl (Nat.le_of_ble_eq_true rfl) ?_
  intro p e s m below meth c hx hb hr hlocks hml hts hown hG hP ls hl
  have hK := hG.1
  have hl : lv_has ls 2 [(0, .ref (a 0)), (1, .int (iI t))] := hl
  have hinX7 : ∀ w ∈ u_ws RX7 TX7 19, w ∈ wsX7_isTrail := by decide +kernel
  have hm0 := hts (.fieldLink RX7 7 "ArcPlateModel" "m" "[I") (by decide +kernel)
  have h12 := inv_S12 hI
  refine lv_iload_n hx hb dX7_isTrail_0 rfl (lv_at hl 1 rfl) ?_
  refine k_iconst hx hb dX7_isTrail_1 ?_
  refine lv_aload_n hx hb dX7_isTrail_2 rfl (lv_at hl 0 rfl) ?_
  refine va_get (D := D) (ci := 6) (v := .ref (a 1)) (C := RX7) (T := TX7) (N := 19) hx hb hts hinX7 hown hK hP 0 rfl rfl 0 (by decide) hm0 (fun _ h9 => h9) rfl dX7_isTrail_3 ?_
  refine k_bipush hx hb dX7_isTrail_6 (by decide +kernel) ?_
  refine k_iald hx hb hK hP 1 0 rfl rfl (i := 12) (by omega) dX7_isTrail_8 ?_
  refine k_iconst hx hb dX7_isTrail_9 ?_
  refine k_isub hx hb dX7_isTrail_10 ?_
  refine k_roS (As := [.int (iI t), .int (iI 0), .int (iI ((R 1 12) - 1))]) (rest := []) ⟨hx, hb, hml, hown, hts⟩ (c_X7_in l D t 0 ((R 1 12) - 1) (by omega) (by omega) (by omega)) gX7_isTrail_X7_in rfl ⟨rfl, rfl⟩ 3 rfl (by decide +kernel) ⟨Nat.le_of_ble_eq_true rfl, Nat.le_of_ble_eq_true rfl⟩ kGT_ok trivial (fun k q h => by simp at h) hl.1 rfl (Nat.le_of_ble_eq_true rfl) ⟨Nat.le_of_ble_eq_true rfl, Nat.le_of_ble_eq_true rfl⟩ dX7_isTrail_11 (fun r_1 hr_1 => ?_)
  have hr_1 : ((0 ≤ t ∧ t ≤ ((R 1 12) - 1)) ∧ r_1 = 1) ∨ (¬ (0 ≤ t ∧ t ≤ ((R 1 12) - 1)) ∧ r_1 = 0) := hr_1
  rcases hr_1 with ⟨c_2, hr_1⟩ | ⟨c_2, hr_1⟩ <;> subst hr_1
  · skip
    exact W.zret (v := iI 1) hx hb hr (by decide +kernel) (fun t9 ht _ => ⟨1, rfl, (by first | exact Or.inl ⟨by omega, rfl⟩ | exact Or.inr ⟨by omega, rfl⟩ : ((0 ≤ t ∧ t < R 1 12) ∧ (1 : Int) = 1) ∨ (¬ (0 ≤ t ∧ t < R 1 12) ∧ (1 : Int) = 0)), ht⟩) (fun _ h => nomatch h) dX7_isTrail_14 hlocks
  · skip
    exact W.zret (v := iI 0) hx hb hr (by decide +kernel) (fun t9 ht _ => ⟨0, rfl, (by first | exact Or.inl ⟨by omega, rfl⟩ | exact Or.inr ⟨by omega, rfl⟩ : ((0 ≤ t ∧ t < R 1 12) ∧ (0 : Int) = 1) ∨ (¬ (0 ≤ t ∧ t < R 1 12) ∧ (0 : Int) = 0)), ht⟩) (fun _ h => nomatch h) dX7_isTrail_14 hlocks
set_option maxHeartbeats 4000000 in
set_option maxRecDepth 100000 in
theorem c_X7_isStar (l : Launch) (D : va_G) (cy : Nat → ClassId) (a : Nat → Nat) (R : Nat → Int → Int) (u : Int) (hI : Inv (R 1)) (hru : -2147483648 ≤ u ∧ u ≤ 2147483647) : Met l yX7_isStar wsX7_isStar { frames := 1, cells := 0, slots := 0, locals := 22 } (kPre (GG D cy) D (rfW cy a R) ([.ref (a 0), .int (iI u)] : List Value)) (kRO (fun r => ((0 ≤ u ∧ u < R 1 13) ∧ r = 1) ∨ (¬ (0 ≤ u ∧ u < R 1 13) ∧ r = 0))) 0 0 (fun _ => False) := by
  refine kRO_start (cc := cX7_isStar) (maxL := 2) (ret := (some .boolean)) (by decide) rfl (Nat.le_of_ble_eq_true rfl) ?_
  intro p e s m below meth c hx hb hr hlocks hml hts hown hG hP ls hl
  have hK := hG.1
  have hl : lv_has ls 2 [(0, .ref (a 0)), (1, .int (iI u))] := hl
  have hinX7 : ∀ w ∈ u_ws RX7 TX7 19, w ∈ wsX7_isStar := by decide +kernel
  have hm0 := hts (.fieldLink RX7 7 "ArcPlateModel" "m" "[I") (by decide +kernel)
  have h12 := inv_S12 hI
  refine lv_iload_n hx hb dX7_isStar_0 rfl (lv_at hl 1 rfl) ?_
  refine k_iconst hx hb dX7_isStar_1 ?_
  refine lv_aload_n hx hb dX7_isStar_2 rfl (lv_at hl 0 rfl) ?_
  refine va_get (D := D) (ci := 6) (v := .ref (a 1)) (C := RX7) (T := TX7) (N := 19) hx hb hts hinX7 hown hK hP 0 rfl rfl 0 (by decide) hm0 (fun _ h9 => h9) rfl dX7_isStar_3 ?_
  refine k_bipush hx hb dX7_isStar_6 (by decide +kernel) ?_
  refine k_iald hx hb hK hP 1 0 rfl rfl (i := 13) (by omega) dX7_isStar_8 ?_
  refine k_iconst hx hb dX7_isStar_9 ?_
  refine k_isub hx hb dX7_isStar_10 ?_
  refine k_roS (As := [.int (iI u), .int (iI 0), .int (iI ((R 1 13) - 1))]) (rest := []) ⟨hx, hb, hml, hown, hts⟩ (c_X7_in l D u 0 ((R 1 13) - 1) (by omega) (by omega) (by omega)) gX7_isStar_X7_in rfl ⟨rfl, rfl⟩ 3 rfl (by decide +kernel) ⟨Nat.le_of_ble_eq_true rfl, Nat.le_of_ble_eq_true rfl⟩ kGT_ok trivial (fun k q h => by simp at h) hl.1 rfl (Nat.le_of_ble_eq_true rfl) ⟨Nat.le_of_ble_eq_true rfl, Nat.le_of_ble_eq_true rfl⟩ dX7_isStar_11 (fun r_1 hr_1 => ?_)
  have hr_1 : ((0 ≤ u ∧ u ≤ ((R 1 13) - 1)) ∧ r_1 = 1) ∨ (¬ (0 ≤ u ∧ u ≤ ((R 1 13) - 1)) ∧ r_1 = 0) := hr_1
  rcases hr_1 with ⟨c_2, hr_1⟩ | ⟨c_2, hr_1⟩ <;> subst hr_1
  · skip
    exact W.zret (v := iI 1) hx hb hr (by decide +kernel) (fun t9 ht _ => ⟨1, rfl, (by first | exact Or.inl ⟨by omega, rfl⟩ | exact Or.inr ⟨by omega, rfl⟩ : ((0 ≤ u ∧ u < R 1 13) ∧ (1 : Int) = 1) ∨ (¬ (0 ≤ u ∧ u < R 1 13) ∧ (1 : Int) = 0)), ht⟩) (fun _ h => nomatch h) dX7_isStar_14 hlocks
  · skip
    exact W.zret (v := iI 0) hx hb hr (by decide +kernel) (fun t9 ht _ => ⟨0, rfl, (by first | exact Or.inl ⟨by omega, rfl⟩ | exact Or.inr ⟨by omega, rfl⟩ : ((0 ≤ u ∧ u < R 1 13) ∧ (0 : Int) = 1) ∨ (¬ (0 ≤ u ∧ u < R 1 13) ∧ (0 : Int) = 0)), ht⟩) (fun _ h => nomatch h) dX7_isStar_14 hlocks
set_option maxHeartbeats 4000000 in
set_option maxRecDepth 100000 in
theorem c_X7_points (l : Launch) (D : va_G) (cy : Nat → ClassId) (a : Nat → Nat) (R : Nat → Int → Int) (t : Int) (h0 : 0 ≤ t) (h1 : t < 12) : Met l yX7_points wsX7_points { frames := 0, cells := 0, slots := 0, locals := 0 } (kPre (GG D cy) D (rfW cy a R) ([.ref (a 0), .int (iI t)] : List Value)) (kRO (fun r => r = pts (R 1) t)) 0 0 (fun _ => False) := by
  refine kRO_start (cc := cX7_points) (maxL := 2) (ret := (some .int)) (by decide) rfl (Nat.le_of_ble_eq_true rfl) ?_
  intro p e s m below meth c hx hb hr hlocks hml hts hown hG hP ls hl
  have hK := hG.1
  have hl : lv_has ls 2 [(0, .ref (a 0)), (1, .int (iI t))] := hl
  have hinX7 : ∀ w ∈ u_ws RX7 TX7 19, w ∈ wsX7_points := by decide +kernel
  have hm0 := hts (.fieldLink RX7 7 "ArcPlateModel" "m" "[I") (by decide +kernel)
  refine lv_aload_n hx hb dX7_points_0 rfl (lv_at hl 0 rfl) ?_
  refine va_get (D := D) (ci := 6) (v := .ref (a 1)) (C := RX7) (T := TX7) (N := 19) hx hb hts hinX7 hown hK hP 0 rfl rfl 0 (by decide) hm0 (fun _ h9 => h9) rfl dX7_points_1 ?_
  refine k_bipush hx hb dX7_points_4 (by decide +kernel) ?_
  refine k_bipush hx hb dX7_points_6 (by decide +kernel) ?_
  refine lv_iload_n hx hb dX7_points_8 rfl (lv_at hl 1 rfl) ?_
  refine k_imul hx hb dX7_points_9 ?_
  refine k_iadd hx hb dX7_points_10 ?_
  refine k_iald hx hb hK hP 1 0 rfl rfl (i := 14 + (37 * t)) (by omega) dX7_points_11 ?_
  exact W.iret (v := iI (R 1 (14 + (37 * t)))) hx hb hr (fun t9 ht _ => ⟨(R 1 (14 + (37 * t))), rfl, (by first | rfl | omega : (R 1 (14 + (37 * t)) : Int) = pts (R 1) t), ht⟩) (fun _ h => nomatch h) dX7_points_12 hlocks
set_option maxHeartbeats 4000000 in
set_option maxRecDepth 100000 in
theorem c_X7_frameOf (l : Launch) (D : va_G) (cy : Nat → ClassId) (a : Nat → Nat) (R : Nat → Int → Int) (t q : Int) (h0 : 0 ≤ t) (h1 : t < 12) (h2 : 0 ≤ q) (h3 : q < 12) : Met l yX7_frameOf wsX7_frameOf { frames := 1, cells := 0, slots := 0, locals := 21 } (kPre (GG D cy) D (rfW cy a R) ([.ref (a 0), .int (iI t), .int (iI q)] : List Value)) (kRO (fun r => r = frm (R 1) t q)) 0 0 (fun _ => False) := by
  refine kRO_start (cc := cX7_frameOf) (maxL := 3) (ret := (some .int)) (by decide) rfl (Nat.le_of_ble_eq_true rfl) ?_
  intro p e s m below meth c hx hb hr hlocks hml hts hown hG hP ls hl
  have hK := hG.1
  have hl : lv_has ls 3 [(0, .ref (a 0)), (1, .int (iI t)), (2, .int (iI q))] := hl
  have hinX7 : ∀ w ∈ u_ws RX7 TX7 19, w ∈ wsX7_frameOf := by decide +kernel
  have hm0 := hts (.fieldLink RX7 7 "ArcPlateModel" "m" "[I") (by decide +kernel)
  refine lv_aload_n hx hb dX7_frameOf_0 rfl (lv_at hl 0 rfl) ?_
  refine va_get (D := D) (ci := 6) (v := .ref (a 1)) (C := RX7) (T := TX7) (N := 19) hx hb hts hinX7 hown hK hP 0 rfl rfl 0 (by decide) hm0 (fun _ h9 => h9) rfl dX7_frameOf_1 ?_
  refine lv_iload_n hx hb dX7_frameOf_4 rfl (lv_at hl 1 rfl) ?_
  refine lv_iload_n hx hb dX7_frameOf_5 rfl (lv_at hl 2 rfl) ?_
  refine k_roS (As := [.int (iI t), .int (iI q)]) (rest := [.ref (a 1)]) ⟨hx, hb, hml, hown, hts⟩ (c_X7_cellOf l D t q ) gX7_frameOf_X7_cellOf rfl ⟨rfl, rfl⟩ 2 rfl (by decide +kernel) ⟨Nat.le_of_ble_eq_true rfl, Nat.le_of_ble_eq_true rfl⟩ kGT_ok trivial (fun k q h => by simp at h) hl.1 rfl (Nat.le_of_ble_eq_true rfl) ⟨Nat.le_of_ble_eq_true rfl, Nat.le_of_ble_eq_true rfl⟩ dX7_frameOf_6 (fun r_1 hr_1 => ?_)
  have hr_1 : r_1 = cel t q := hr_1
  subst hr_1
  have := cel_eq t q
  refine k_iald hx hb hK hP 1 0 rfl rfl (i := cel t q) (by omega) dX7_frameOf_9 ?_
  exact W.iret (v := iI (R 1 (cel t q))) hx hb hr (fun t9 ht _ => ⟨(R 1 (cel t q)), rfl, (by first | rfl | omega : (R 1 (cel t q) : Int) = frm (R 1) t q), ht⟩) (fun _ h => nomatch h) dX7_frameOf_10 hlocks
set_option maxHeartbeats 4000000 in
set_option maxRecDepth 100000 in
theorem c_X7_isPoint (l : Launch) (D : va_G) (cy : Nat → ClassId) (a : Nat → Nat) (R : Nat → Int → Int) (t q : Int) (hI : Inv (R 1)) (hrt : -2147483648 ≤ t ∧ t ≤ 2147483647) (hrq : -2147483648 ≤ q ∧ q ≤ 2147483647) : Met l yX7_isPoint wsX7_isPoint { frames := 2, cells := 0, slots := 0, locals := 43 } (kPre (GG D cy) D (rfW cy a R) ([.ref (a 0), .int (iI t), .int (iI q)] : List Value)) (kRO (fun r => (((0 ≤ t ∧ t < R 1 12) ∧ 0 ≤ q ∧ q < pts (R 1) t) ∧ r = 1) ∨ (¬ ((0 ≤ t ∧ t < R 1 12) ∧ 0 ≤ q ∧ q < pts (R 1) t) ∧ r = 0))) 0 0 (fun _ => False) := by
  refine kRO_start (cc := cX7_isPoint) (maxL := 3) (ret := (some .boolean)) (by decide) rfl (Nat.le_of_ble_eq_true rfl) ?_
  intro p e s m below meth c hx hb hr hlocks hml hts hown hG hP ls hl
  have hK := hG.1
  have hl : lv_has ls 3 [(0, .ref (a 0)), (1, .int (iI t)), (2, .int (iI q))] := hl
  have h12 := inv_S12 hI
  refine lv_aload_n hx hb dX7_isPoint_0 rfl (lv_at hl 0 rfl) ?_
  refine lv_iload_n hx hb dX7_isPoint_1 rfl (lv_at hl 1 rfl) ?_
  refine k_roV (As := [.int (iI t)]) (rest := []) ⟨hx, hb, hml, hown, hts⟩ (c_X7_isTrail l D cy a R t hI (by omega)) gX7_isPoint_X7_isTrail rfl ⟨rfl, rfl⟩ 1 rfl (by decide +kernel) ⟨Nat.le_of_ble_eq_true rfl, Nat.le_of_ble_eq_true rfl⟩ (GG_ok D cy) hG hP (va_recv hK hP (ci := 6) (q0 := 0) rfl rfl) hl.1 rfl (Nat.le_of_ble_eq_true rfl) ⟨Nat.le_of_ble_eq_true rfl, Nat.le_of_ble_eq_true rfl⟩ dX7_isPoint_2 (fun r_1 hr_1 => ?_)
  have hr_1 : ((0 ≤ t ∧ t < R 1 12) ∧ r_1 = 1) ∨ (¬ (0 ≤ t ∧ t < R 1 12) ∧ r_1 = 0) := hr_1
  rcases hr_1 with ⟨c_2, hr_1⟩ | ⟨c_2, hr_1⟩ <;> subst hr_1
  · skip
    have h13 := inv_pts hI c_2.1 c_2.2
    refine k_if_eq (tgt := 27) hx hb dX7_isPoint_5 (by decide) (by omega) (fun c_3 => ?_) (fun c_3 => ?_)
    · exfalso; omega
    · skip
      refine lv_iload_n hx hb dX7_isPoint_8 rfl (lv_at hl 2 rfl) ?_
      refine k_iconst hx hb dX7_isPoint_9 ?_
      refine lv_aload_n hx hb dX7_isPoint_10 rfl (lv_at hl 0 rfl) ?_
      refine lv_iload_n hx hb dX7_isPoint_11 rfl (lv_at hl 1 rfl) ?_
      refine k_roV (As := [.int (iI t)]) (rest := [.int (iI 0), .int (iI q)]) ⟨hx, hb, hml, hown, hts⟩ (c_X7_points l D cy a R t (by omega) (by omega)) gX7_isPoint_X7_points rfl ⟨rfl, rfl⟩ 1 rfl (by decide +kernel) ⟨Nat.le_of_ble_eq_true rfl, Nat.le_of_ble_eq_true rfl⟩ (GG_ok D cy) hG hP (va_recv hK hP (ci := 6) (q0 := 0) rfl rfl) hl.1 rfl (Nat.le_of_ble_eq_true rfl) ⟨Nat.le_of_ble_eq_true rfl, Nat.le_of_ble_eq_true rfl⟩ dX7_isPoint_12 (fun r_4 hr_4 => ?_)
      have hr_4 : r_4 = pts (R 1) t := hr_4
      subst hr_4
      refine k_iconst hx hb dX7_isPoint_15 ?_
      refine k_isub hx hb dX7_isPoint_16 ?_
      refine k_roS (As := [.int (iI q), .int (iI 0), .int (iI ((pts (R 1) t) - 1))]) (rest := []) ⟨hx, hb, hml, hown, hts⟩ (c_X7_in l D q 0 ((pts (R 1) t) - 1) (by omega) (by omega) (by omega)) gX7_isPoint_X7_in rfl ⟨rfl, rfl⟩ 3 rfl (by decide +kernel) ⟨Nat.le_of_ble_eq_true rfl, Nat.le_of_ble_eq_true rfl⟩ kGT_ok trivial (fun k q h => by simp at h) hl.1 rfl (Nat.le_of_ble_eq_true rfl) ⟨Nat.le_of_ble_eq_true rfl, Nat.le_of_ble_eq_true rfl⟩ dX7_isPoint_17 (fun r_5 hr_5 => ?_)
      have hr_5 : ((0 ≤ q ∧ q ≤ ((pts (R 1) t) - 1)) ∧ r_5 = 1) ∨ (¬ (0 ≤ q ∧ q ≤ ((pts (R 1) t) - 1)) ∧ r_5 = 0) := hr_5
      rcases hr_5 with ⟨c_6, hr_5⟩ | ⟨c_6, hr_5⟩ <;> subst hr_5
      · skip
        refine k_if_eq (tgt := 27) hx hb dX7_isPoint_20 (by decide) (by omega) (fun c_7 => ?_) (fun c_7 => ?_)
        · exfalso; omega
        · skip
          refine k_iconst hx hb dX7_isPoint_23 ?_
          refine lv_goto (tgt := 28) hx hb dX7_isPoint_24 (by decide) ?_
          exact W.zret (v := iI 1) hx hb hr (by decide +kernel) (fun t9 ht _ => ⟨1, rfl, (by first | exact Or.inl ⟨by omega, rfl⟩ | exact Or.inr ⟨by omega, rfl⟩ : (((0 ≤ t ∧ t < R 1 12) ∧ 0 ≤ q ∧ q < pts (R 1) t) ∧ (1 : Int) = 1) ∨ (¬ ((0 ≤ t ∧ t < R 1 12) ∧ 0 ≤ q ∧ q < pts (R 1) t) ∧ (1 : Int) = 0)), ht⟩) (fun _ h => nomatch h) dX7_isPoint_28 hlocks
      · skip
        refine k_if_eq (tgt := 27) hx hb dX7_isPoint_20 (by decide) (by omega) (fun c_8 => ?_) (fun c_8 => ?_)
        · skip
          refine k_iconst hx hb dX7_isPoint_27 ?_
          exact W.zret (v := iI 0) hx hb hr (by decide +kernel) (fun t9 ht _ => ⟨0, rfl, (by first | exact Or.inl ⟨by omega, rfl⟩ | exact Or.inr ⟨by omega, rfl⟩ : (((0 ≤ t ∧ t < R 1 12) ∧ 0 ≤ q ∧ q < pts (R 1) t) ∧ (0 : Int) = 1) ∨ (¬ ((0 ≤ t ∧ t < R 1 12) ∧ 0 ≤ q ∧ q < pts (R 1) t) ∧ (0 : Int) = 0)), ht⟩) (fun _ h => nomatch h) dX7_isPoint_28 hlocks
        · exfalso; omega
  · skip
    refine k_if_eq (tgt := 27) hx hb dX7_isPoint_5 (by decide) (by omega) (fun c_9 => ?_) (fun c_9 => ?_)
    · skip
      refine k_iconst hx hb dX7_isPoint_27 ?_
      exact W.zret (v := iI 0) hx hb hr (by decide +kernel) (fun t9 ht _ => ⟨0, rfl, (by first | exact Or.inl ⟨by omega, rfl⟩ | exact Or.inr ⟨by omega, rfl⟩ : (((0 ≤ t ∧ t < R 1 12) ∧ 0 ≤ q ∧ q < pts (R 1) t) ∧ (0 : Int) = 1) ∨ (¬ ((0 ≤ t ∧ t < R 1 12) ∧ 0 ≤ q ∧ q < pts (R 1) t) ∧ (0 : Int) = 0)), ht⟩) (fun _ h => nomatch h) dX7_isPoint_28 hlocks
    · exfalso; omega
set_option maxHeartbeats 4000000 in
set_option maxRecDepth 100000 in
theorem c_X7_ofStar (l : Launch) (D : va_G) (cy : Nat → ClassId) (a : Nat → Nat) (R : Nat → Int → Int) (u w : Int) (h0 : 0 ≤ u) (h1 : u < 12) (h2 : 0 ≤ w) (h3 : w ≤ 2) : Met l yX7_ofStar wsX7_ofStar { frames := 0, cells := 0, slots := 0, locals := 0 } (kPre (GG D cy) D (rfW cy a R) ([.ref (a 0), .int (iI u), .int (iI w)] : List Value)) (kRO (fun r => r = R 1 (458 + 3 * u + w))) 0 0 (fun _ => False) := by
  refine kRO_start (cc := cX7_ofStar) (maxL := 3) (ret := (some .int)) (by decide) rfl (Nat.le_of_ble_eq_true rfl) ?_
  intro p e s m below meth c hx hb hr hlocks hml hts hown hG hP ls hl
  have hK := hG.1
  have hl : lv_has ls 3 [(0, .ref (a 0)), (1, .int (iI u)), (2, .int (iI w))] := hl
  have hinX7 : ∀ w ∈ u_ws RX7 TX7 19, w ∈ wsX7_ofStar := by decide +kernel
  have hm0 := hts (.fieldLink RX7 7 "ArcPlateModel" "m" "[I") (by decide +kernel)
  refine lv_aload_n hx hb dX7_ofStar_0 rfl (lv_at hl 0 rfl) ?_
  refine va_get (D := D) (ci := 6) (v := .ref (a 1)) (C := RX7) (T := TX7) (N := 19) hx hb hts hinX7 hown hK hP 0 rfl rfl 0 (by decide) hm0 (fun _ h9 => h9) rfl dX7_ofStar_1 ?_
  refine k_sipush hx hb dX7_ofStar_4 (by decide +kernel) ?_
  refine k_iconst hx hb dX7_ofStar_7 ?_
  refine lv_iload_n hx hb dX7_ofStar_8 rfl (lv_at hl 1 rfl) ?_
  refine k_imul hx hb dX7_ofStar_9 ?_
  refine k_iadd hx hb dX7_ofStar_10 ?_
  refine lv_iload_n hx hb dX7_ofStar_11 rfl (lv_at hl 2 rfl) ?_
  refine k_iadd hx hb dX7_ofStar_12 ?_
  refine k_iald hx hb hK hP 1 0 rfl rfl (i := (458 + (3 * u)) + w) (by omega) dX7_ofStar_13 ?_
  exact W.iret (v := iI (R 1 ((458 + (3 * u)) + w))) hx hb hr (fun t9 ht _ => ⟨(R 1 ((458 + (3 * u)) + w)), rfl, (by first | rfl | omega : (R 1 ((458 + (3 * u)) + w) : Int) = R 1 (458 + 3 * u + w)), ht⟩) (fun _ h => nomatch h) dX7_ofStar_14 hlocks
set_option maxHeartbeats 4000000 in
set_option maxRecDepth 100000 in
theorem c_X7_notTrail (l : Launch) (D : va_G) (cy : Nat → ClassId) (a : Nat → Nat) (R : Nat → Int → Int)  (hI : Inv (R 1)) : Met l yX7_notTrail wsX7_notTrail { frames := 0, cells := 0, slots := 0, locals := 0 } (kPre (GG D cy) D (rfW cy a R) ([.ref (a 0)] : List Value)) (kRO (fun r => ((R 1 12 = 12) ∧ r = 3) ∨ ((R 1 12 < 12) ∧ r = 0))) 0 0 (fun _ => False) := by
  refine kRO_start (cc := cX7_notTrail) (maxL := 1) (ret := (some .int)) (by decide) rfl (Nat.le_of_ble_eq_true rfl) ?_
  intro p e s m below meth c hx hb hr hlocks hml hts hown hG hP ls hl
  have hK := hG.1
  have hl : lv_has ls 1 [(0, .ref (a 0))] := hl
  have hinX7 : ∀ w ∈ u_ws RX7 TX7 19, w ∈ wsX7_notTrail := by decide +kernel
  have hm0 := hts (.fieldLink RX7 7 "ArcPlateModel" "m" "[I") (by decide +kernel)
  have h12 := inv_S12 hI
  refine lv_aload_n hx hb dX7_notTrail_0 rfl (lv_at hl 0 rfl) ?_
  refine va_get (D := D) (ci := 6) (v := .ref (a 1)) (C := RX7) (T := TX7) (N := 19) hx hb hts hinX7 hown hK hP 0 rfl rfl 0 (by decide) hm0 (fun _ h9 => h9) rfl dX7_notTrail_1 ?_
  refine k_bipush hx hb dX7_notTrail_4 (by decide +kernel) ?_
  refine k_iald hx hb hK hP 1 0 rfl rfl (i := 12) (by omega) dX7_notTrail_6 ?_
  refine k_bipush hx hb dX7_notTrail_7 (by decide +kernel) ?_
  refine k_icmp_ne (tgt := 16) hx hb dX7_notTrail_9 (by decide) (by omega) (by omega) (fun c_1 => ?_) (fun c_1 => ?_)
  · skip
    refine k_iconst hx hb dX7_notTrail_16 ?_
    exact W.iret (v := iI 0) hx hb hr (fun t9 ht _ => ⟨0, rfl, (by omega : ((R 1 12 = 12) ∧ (0 : Int) = 3) ∨ ((R 1 12 < 12) ∧ (0 : Int) = 0)), ht⟩) (fun _ h => nomatch h) dX7_notTrail_17 hlocks
  · skip
    refine k_iconst hx hb dX7_notTrail_12 ?_
    refine lv_goto (tgt := 17) hx hb dX7_notTrail_13 (by decide) ?_
    exact W.iret (v := iI 3) hx hb hr (fun t9 ht _ => ⟨3, rfl, (by omega : ((R 1 12 = 12) ∧ (3 : Int) = 3) ∨ ((R 1 12 < 12) ∧ (3 : Int) = 0)), ht⟩) (fun _ h => nomatch h) dX7_notTrail_17 hlocks
set_option maxHeartbeats 4000000 in
set_option maxRecDepth 100000 in
theorem c_X7_hasFrame (l : Launch) (D : va_G) (cy : Nat → ClassId) (a : Nat → Nat) (R : Nat → Int → Int) (t f : Int) (hI : Inv (R 1)) (h0 : 0 ≤ t) (h1 : t < R 1 12) (hrf : -2147483648 ≤ f ∧ f ≤ 2147483647) : Met l yX7_hasFrame wsX7_hasFrame { frames := 2, cells := 0, slots := 0, locals := 43 } (kPre (GG D cy) D (rfW cy a R) ([.ref (a 0), .int (iI t), .int (iI f)] : List Value)) (kRO (fun r => ((hasF (R 1) t f) ∧ r = 1) ∨ (¬ (hasF (R 1) t f) ∧ r = 0))) 0 0 (fun _ => False) := by
  refine kRO_start (cc := cX7_hasFrame) (maxL := 5) (ret := (some .boolean)) (by decide) rfl (Nat.le_of_ble_eq_true rfl) ?_
  intro p e s m below meth c hx hb hr hlocks hml hts hown hG hP ls hl
  have hK := hG.1
  have hl : lv_has ls 5 [(0, .ref (a 0)), (1, .int (iI t)), (2, .int (iI f))] := hl
  have h12 := inv_S12 hI
  have hp := inv_pts hI h0 h1
  refine k_iconst hx hb dX7_hasFrame_0 ?_
  refine lv_istore_n (lv' := [(3, .int (iI 0)), (0, .ref (a 0)), (1, .int (iI t)), (2, .int (iI f))]) hx hb dX7_hasFrame_1 rfl hl (by decide) rfl (fun ls hl => ?_)
  refine k_iconst hx hb dX7_hasFrame_2 ?_
  refine lv_istore (lv' := [(4, .int (iI 0)), (3, .int (iI 0)), (0, .ref (a 0)), (1, .int (iI t)), (2, .int (iI f))]) hx hb dX7_hasFrame_3 hl (by decide) rfl (fun ls hl => ?_)
  have loop5 : ∀ (n_1 : Nat) (q : Int) (hb0 : Int) (hi0 : 0 ≤ q) (hi1 : q ≤ pts (R 1) t) (hi2 : (hb0 = 0 ∧ ∀ k : Int, 0 ≤ k → k < q → frm (R 1) t k ≠ f) ∨ (hb0 = 1 ∧ ∃ k : Int, 0 ≤ k ∧ k < q ∧ frm (R 1) t k = f)) (hn : pts (R 1) t - q < (n_1 : Int)) (ls : Array Slot) (hl : lv_has ls 5 [(4, .int (iI q)), (3, .int (iI hb0)), (0, .ref (a 0)), (1, .int (iI t)), (2, .int (iI f))]), W p l e { frames := 2, cells := 0, slots := 0, locals := 43 } s m ([.ref (a 0), .int (iI t), .int (iI f)] : List Value).toArray below meth c s.heap [] 0 0 (MQ below (kRO (fun r => ((hasF (R 1) t f) ∧ r = 1) ∨ (¬ (hasF (R 1) t f) ∧ r = 0))) ([.ref (a 0), .int (iI t), .int (iI f)] : List Value).toArray s 0 0 (fun _ => False)) (F0 m 5 ls []) := by
    intro n_1
    induction n_1 with
    | zero => intro q hb0 hi0 hi1 hi2 hn ls hl; exfalso; omega
    | succ n_1 ih5 =>
      intro q hb0 hi0 hi1 hi2 hn ls hl
      refine lv_iload hx hb dX7_hasFrame_5 (lv_at hl 0 rfl) ?_
      refine lv_aload_n hx hb dX7_hasFrame_7 rfl (lv_at hl 2 rfl) ?_
      refine lv_iload_n hx hb dX7_hasFrame_8 rfl (lv_at hl 3 rfl) ?_
      refine k_roV (As := [.int (iI t)]) (rest := [.int (iI q)]) ⟨hx, hb, hml, hown, hts⟩ (c_X7_points l D cy a R t (by omega) (by omega)) gX7_hasFrame_X7_points rfl ⟨rfl, rfl⟩ 1 rfl (by decide +kernel) ⟨Nat.le_of_ble_eq_true rfl, Nat.le_of_ble_eq_true rfl⟩ (GG_ok D cy) hG hP (va_recv hK hP (ci := 6) (q0 := 0) rfl rfl) hl.1 rfl (Nat.le_of_ble_eq_true rfl) ⟨Nat.le_of_ble_eq_true rfl, Nat.le_of_ble_eq_true rfl⟩ dX7_hasFrame_9 (fun r_2 hr_2 => ?_)
      have hr_2 : r_2 = pts (R 1) t := hr_2
      subst hr_2
      refine k_icmp_ge (tgt := 42) hx hb dX7_hasFrame_12 (by decide) (by omega) (by omega) (fun c_3 => ?_) (fun c_3 => ?_)
      · skip
        refine lv_iload_n hx hb dX7_hasFrame_42 rfl (lv_at hl 1 rfl) ?_
        exact W.zret (v := iI hb0) hx hb hr (by exact bool_nar (by omega)) (fun t9 ht _ => ⟨hb0, rfl, (by have e9 : q = pts (R 1) t := (by omega); subst e9; exact hf_end hi2 : ((hasF (R 1) t f) ∧ (hb0 : Int) = 1) ∨ (¬ (hasF (R 1) t f) ∧ (hb0 : Int) = 0)), ht⟩) (fun _ h => nomatch h) dX7_hasFrame_43 hlocks
      · skip
        refine lv_iload_n hx hb dX7_hasFrame_15 rfl (lv_at hl 1 rfl) ?_
        refine k_if_ne (tgt := 30) hx hb dX7_hasFrame_16 (by decide) (by omega) (fun c_4 => ?_) (fun c_4 => ?_)
        · skip
          refine k_iconst hx hb dX7_hasFrame_30 ?_
          refine lv_goto (tgt := 35) hx hb dX7_hasFrame_31 (by decide) ?_
          refine lv_istore_n (lv' := [(3, .int (iI 1)), (4, .int (iI q)), (0, .ref (a 0)), (1, .int (iI t)), (2, .int (iI f))]) hx hb dX7_hasFrame_35 rfl hl (by decide) rfl (fun ls hl => ?_)
          refine lv_iinc (v := iI (q + 1)) (lv' := [(4, .int (iI (q + 1))), (3, .int (iI 1)), (0, .ref (a 0)), (1, .int (iI t)), (2, .int (iI f))]) hx hb dX7_hasFrame_36 hl (k := 1) rfl (iI_add _ _) (by decide) rfl (fun ls hl => ?_)
          refine lv_goto (tgt := 5) hx hb dX7_hasFrame_39 (by decide) ?_
          exact ih5 (q + 1) 1  (by omega) (by omega) (hf_step hi2 hi0 (by omega) (by omega)) (by omega) ls (lv_sub hl [0, 1, 2, 3, 4] rfl)
        · skip
          refine lv_aload_n hx hb dX7_hasFrame_19 rfl (lv_at hl 2 rfl) ?_
          refine lv_iload_n hx hb dX7_hasFrame_20 rfl (lv_at hl 3 rfl) ?_
          refine lv_iload hx hb dX7_hasFrame_21 (lv_at hl 0 rfl) ?_
          refine k_roV (As := [.int (iI t), .int (iI q)]) (rest := []) ⟨hx, hb, hml, hown, hts⟩ (c_X7_frameOf l D cy a R t q (by omega) (by omega) (by omega) (by omega)) gX7_hasFrame_X7_frameOf rfl ⟨rfl, rfl⟩ 2 rfl (by decide +kernel) ⟨Nat.le_of_ble_eq_true rfl, Nat.le_of_ble_eq_true rfl⟩ (GG_ok D cy) hG hP (va_recv hK hP (ci := 6) (q0 := 0) rfl rfl) hl.1 rfl (Nat.le_of_ble_eq_true rfl) ⟨Nat.le_of_ble_eq_true rfl, Nat.le_of_ble_eq_true rfl⟩ dX7_hasFrame_23 (fun r_5 hr_5 => ?_)
          have hr_5 : r_5 = frm (R 1) t q := hr_5
          subst hr_5
          have hf := inv_frm hI h0 h1 hi0 (by omega)
          refine lv_iload_n hx hb dX7_hasFrame_26 rfl (lv_at hl 4 rfl) ?_
          refine k_icmp_ne (tgt := 34) hx hb dX7_hasFrame_27 (by decide) (by omega) (by omega) (fun c_6 => ?_) (fun c_6 => ?_)
          · skip
            refine k_iconst hx hb dX7_hasFrame_34 ?_
            refine lv_istore_n (lv' := [(3, .int (iI 0)), (4, .int (iI q)), (0, .ref (a 0)), (1, .int (iI t)), (2, .int (iI f))]) hx hb dX7_hasFrame_35 rfl hl (by decide) rfl (fun ls hl => ?_)
            refine lv_iinc (v := iI (q + 1)) (lv' := [(4, .int (iI (q + 1))), (3, .int (iI 0)), (0, .ref (a 0)), (1, .int (iI t)), (2, .int (iI f))]) hx hb dX7_hasFrame_36 hl (k := 1) rfl (iI_add _ _) (by decide) rfl (fun ls hl => ?_)
            refine lv_goto (tgt := 5) hx hb dX7_hasFrame_39 (by decide) ?_
            exact ih5 (q + 1) 0  (by omega) (by omega) (hf_step hi2 hi0 (by omega) (by omega)) (by omega) ls (lv_sub hl [0, 1, 2, 3, 4] rfl)
          · skip
            refine k_iconst hx hb dX7_hasFrame_30 ?_
            refine lv_goto (tgt := 35) hx hb dX7_hasFrame_31 (by decide) ?_
            refine lv_istore_n (lv' := [(3, .int (iI 1)), (4, .int (iI q)), (0, .ref (a 0)), (1, .int (iI t)), (2, .int (iI f))]) hx hb dX7_hasFrame_35 rfl hl (by decide) rfl (fun ls hl => ?_)
            refine lv_iinc (v := iI (q + 1)) (lv' := [(4, .int (iI (q + 1))), (3, .int (iI 1)), (0, .ref (a 0)), (1, .int (iI t)), (2, .int (iI f))]) hx hb dX7_hasFrame_36 hl (k := 1) rfl (iI_add _ _) (by decide) rfl (fun ls hl => ?_)
            refine lv_goto (tgt := 5) hx hb dX7_hasFrame_39 (by decide) ?_
            exact ih5 (q + 1) 1  (by omega) (by omega) (hf_step hi2 hi0 (by omega) (by omega)) (by omega) ls (lv_sub hl [0, 1, 2, 3, 4] rfl)
  exact loop5 ((pts (R 1) t - 0 : Int) + 1).toNat 0 0  (by omega) (by omega) (Or.inl ⟨rfl, fun k a b => by omega⟩) (by omega) ls (lv_sub hl [0, 1, 2, 3, 4] rfl)
set_option maxHeartbeats 4000000 in
set_option maxRecDepth 100000 in
theorem c_X7_notPoint (l : Launch) (D : va_G) (cy : Nat → ClassId) (a : Nat → Nat) (R : Nat → Int → Int) (t f x y : Int) (hI : Inv (R 1)) (hrt : -2147483648 ≤ t ∧ t ≤ 2147483647) (hrf : -2147483648 ≤ f ∧ f ≤ 2147483647) (hrx : -2147483648 ≤ x ∧ x ≤ 2147483647) (hry : -2147483648 ≤ y ∧ y ≤ 2147483647) : Met l yX7_notPoint wsX7_notPoint { frames := 3, cells := 0, slots := 0, locals := 67 } (kPre (GG D cy) D (rfW cy a R) ([.ref (a 0), .int (iI t), .int (iI f), .int (iI x), .int (iI y)] : List Value)) (kRO (fun r => ((¬ (0 ≤ t ∧ t < R 1 12)) ∧ r = 1) ∨ (((0 ≤ t ∧ t < R 1 12) ∧ ¬ pointOK f x y) ∧ r = 2) ∨ ((((0 ≤ t ∧ t < R 1 12) ∧ pointOK f x y) ∧ (pts (R 1) t = 12 ∨ hasF (R 1) t f)) ∧ r = 3) ∨ ((((0 ≤ t ∧ t < R 1 12) ∧ pointOK f x y) ∧ (pts (R 1) t < 12 ∧ ¬ hasF (R 1) t f)) ∧ r = 0))) 0 0 (fun _ => False) := by
  refine kRO_start (cc := cX7_notPoint) (maxL := 5) (ret := (some .int)) (by decide) rfl (Nat.le_of_ble_eq_true rfl) ?_
  intro p e s m below meth c hx hb hr hlocks hml hts hown hG hP ls hl
  have hK := hG.1
  have hl : lv_has ls 5 [(0, .ref (a 0)), (1, .int (iI t)), (2, .int (iI f)), (3, .int (iI x)), (4, .int (iI y))] := hl
  have h12 := inv_S12 hI
  refine lv_aload_n hx hb dX7_notPoint_0 rfl (lv_at hl 0 rfl) ?_
  refine lv_iload_n hx hb dX7_notPoint_1 rfl (lv_at hl 1 rfl) ?_
  refine k_roV (As := [.int (iI t)]) (rest := []) ⟨hx, hb, hml, hown, hts⟩ (c_X7_isTrail l D cy a R t hI (by omega)) gX7_notPoint_X7_isTrail rfl ⟨rfl, rfl⟩ 1 rfl (by decide +kernel) ⟨Nat.le_of_ble_eq_true rfl, Nat.le_of_ble_eq_true rfl⟩ (GG_ok D cy) hG hP (va_recv hK hP (ci := 6) (q0 := 0) rfl rfl) hl.1 rfl (Nat.le_of_ble_eq_true rfl) ⟨Nat.le_of_ble_eq_true rfl, Nat.le_of_ble_eq_true rfl⟩ dX7_notPoint_2 (fun r_1 hr_1 => ?_)
  have hr_1 : ((0 ≤ t ∧ t < R 1 12) ∧ r_1 = 1) ∨ (¬ (0 ≤ t ∧ t < R 1 12) ∧ r_1 = 0) := hr_1
  rcases hr_1 with ⟨c_2, hr_1⟩ | ⟨c_2, hr_1⟩ <;> subst hr_1
  · skip
    have hp := inv_pts hI c_2.1 c_2.2
    refine k_if_ne (tgt := 10) hx hb dX7_notPoint_5 (by decide) (by omega) (fun c_3 => ?_) (fun c_3 => ?_)
    · skip
      refine lv_iload_n hx hb dX7_notPoint_10 rfl (lv_at hl 2 rfl) ?_
      refine k_iconst hx hb dX7_notPoint_11 ?_
      refine k_sipush hx hb dX7_notPoint_12 (by decide +kernel) ?_
      refine k_roS (As := [.int (iI f), .int (iI 0), .int (iI 1000)]) (rest := []) ⟨hx, hb, hml, hown, hts⟩ (c_X7_in l D f 0 1000 (by omega) (by omega) (by omega)) gX7_notPoint_X7_in rfl ⟨rfl, rfl⟩ 3 rfl (by decide +kernel) ⟨Nat.le_of_ble_eq_true rfl, Nat.le_of_ble_eq_true rfl⟩ kGT_ok trivial (fun k q h => by simp at h) hl.1 rfl (Nat.le_of_ble_eq_true rfl) ⟨Nat.le_of_ble_eq_true rfl, Nat.le_of_ble_eq_true rfl⟩ dX7_notPoint_15 (fun r_4 hr_4 => ?_)
      have hr_4 : ((0 ≤ f ∧ f ≤ 1000) ∧ r_4 = 1) ∨ (¬ (0 ≤ f ∧ f ≤ 1000) ∧ r_4 = 0) := hr_4
      rcases hr_4 with ⟨c_5, hr_4⟩ | ⟨c_5, hr_4⟩ <;> subst hr_4
      · skip
        refine k_if_eq (tgt := 44) hx hb dX7_notPoint_18 (by decide) (by omega) (fun c_6 => ?_) (fun c_6 => ?_)
        · exfalso; omega
        · skip
          refine lv_iload_n hx hb dX7_notPoint_21 rfl (lv_at hl 3 rfl) ?_
          refine k_iconst hx hb dX7_notPoint_22 ?_
          refine k_sipush hx hb dX7_notPoint_23 (by decide +kernel) ?_
          refine k_roS (As := [.int (iI x), .int (iI 0), .int (iI 4000)]) (rest := []) ⟨hx, hb, hml, hown, hts⟩ (c_X7_in l D x 0 4000 (by omega) (by omega) (by omega)) gX7_notPoint_X7_in rfl ⟨rfl, rfl⟩ 3 rfl (by decide +kernel) ⟨Nat.le_of_ble_eq_true rfl, Nat.le_of_ble_eq_true rfl⟩ kGT_ok trivial (fun k q h => by simp at h) hl.1 rfl (Nat.le_of_ble_eq_true rfl) ⟨Nat.le_of_ble_eq_true rfl, Nat.le_of_ble_eq_true rfl⟩ dX7_notPoint_26 (fun r_7 hr_7 => ?_)
          have hr_7 : ((0 ≤ x ∧ x ≤ 4000) ∧ r_7 = 1) ∨ (¬ (0 ≤ x ∧ x ≤ 4000) ∧ r_7 = 0) := hr_7
          rcases hr_7 with ⟨c_8, hr_7⟩ | ⟨c_8, hr_7⟩ <;> subst hr_7
          · skip
            refine k_if_eq (tgt := 44) hx hb dX7_notPoint_29 (by decide) (by omega) (fun c_9 => ?_) (fun c_9 => ?_)
            · exfalso; omega
            · skip
              refine lv_iload hx hb dX7_notPoint_32 (lv_at hl 4 rfl) ?_
              refine k_iconst hx hb dX7_notPoint_34 ?_
              refine k_sipush hx hb dX7_notPoint_35 (by decide +kernel) ?_
              refine k_roS (As := [.int (iI y), .int (iI 0), .int (iI 4000)]) (rest := []) ⟨hx, hb, hml, hown, hts⟩ (c_X7_in l D y 0 4000 (by omega) (by omega) (by omega)) gX7_notPoint_X7_in rfl ⟨rfl, rfl⟩ 3 rfl (by decide +kernel) ⟨Nat.le_of_ble_eq_true rfl, Nat.le_of_ble_eq_true rfl⟩ kGT_ok trivial (fun k q h => by simp at h) hl.1 rfl (Nat.le_of_ble_eq_true rfl) ⟨Nat.le_of_ble_eq_true rfl, Nat.le_of_ble_eq_true rfl⟩ dX7_notPoint_38 (fun r_10 hr_10 => ?_)
              have hr_10 : ((0 ≤ y ∧ y ≤ 4000) ∧ r_10 = 1) ∨ (¬ (0 ≤ y ∧ y ≤ 4000) ∧ r_10 = 0) := hr_10
              rcases hr_10 with ⟨c_11, hr_10⟩ | ⟨c_11, hr_10⟩ <;> subst hr_10
              · skip
                refine k_if_ne (tgt := 46) hx hb dX7_notPoint_41 (by decide) (by omega) (fun c_12 => ?_) (fun c_12 => ?_)
                · skip
                  refine lv_aload_n hx hb dX7_notPoint_46 rfl (lv_at hl 0 rfl) ?_
                  refine lv_iload_n hx hb dX7_notPoint_47 rfl (lv_at hl 1 rfl) ?_
                  refine k_roV (As := [.int (iI t)]) (rest := []) ⟨hx, hb, hml, hown, hts⟩ (c_X7_points l D cy a R t (by omega) (by omega)) gX7_notPoint_X7_points rfl ⟨rfl, rfl⟩ 1 rfl (by decide +kernel) ⟨Nat.le_of_ble_eq_true rfl, Nat.le_of_ble_eq_true rfl⟩ (GG_ok D cy) hG hP (va_recv hK hP (ci := 6) (q0 := 0) rfl rfl) hl.1 rfl (Nat.le_of_ble_eq_true rfl) ⟨Nat.le_of_ble_eq_true rfl, Nat.le_of_ble_eq_true rfl⟩ dX7_notPoint_48 (fun r_13 hr_13 => ?_)
                  have hr_13 : r_13 = pts (R 1) t := hr_13
                  subst hr_13
                  refine k_bipush hx hb dX7_notPoint_51 (by decide +kernel) ?_
                  refine k_icmp_eq (tgt := 65) hx hb dX7_notPoint_53 (by decide) (by omega) (by omega) (fun c_14 => ?_) (fun c_14 => ?_)
                  · skip
                    refine k_iconst hx hb dX7_notPoint_65 ?_
                    refine lv_goto (tgt := 70) hx hb dX7_notPoint_66 (by decide) ?_
                    exact W.iret (v := iI 3) hx hb hr (fun t9 ht _ => ⟨3, rfl, (by first | exact Or.inr (Or.inr (Or.inl ⟨⟨⟨by omega, by unfold pointOK; omega⟩, by first | exact Or.inl (by omega) | exact Or.inr (by assumption)⟩, rfl⟩)) | exact Or.inr (Or.inr (Or.inr ⟨⟨⟨by omega, by unfold pointOK; omega⟩, by omega, by assumption⟩, rfl⟩)) : ((¬ (0 ≤ t ∧ t < R 1 12)) ∧ (3 : Int) = 1) ∨ (((0 ≤ t ∧ t < R 1 12) ∧ ¬ pointOK f x y) ∧ (3 : Int) = 2) ∨ ((((0 ≤ t ∧ t < R 1 12) ∧ pointOK f x y) ∧ (pts (R 1) t = 12 ∨ hasF (R 1) t f)) ∧ (3 : Int) = 3) ∨ ((((0 ≤ t ∧ t < R 1 12) ∧ pointOK f x y) ∧ (pts (R 1) t < 12 ∧ ¬ hasF (R 1) t f)) ∧ (3 : Int) = 0)), ht⟩) (fun _ h => nomatch h) dX7_notPoint_70 hlocks
                  · skip
                    refine lv_aload_n hx hb dX7_notPoint_56 rfl (lv_at hl 0 rfl) ?_
                    refine lv_iload_n hx hb dX7_notPoint_57 rfl (lv_at hl 1 rfl) ?_
                    refine lv_iload_n hx hb dX7_notPoint_58 rfl (lv_at hl 2 rfl) ?_
                    refine k_roV (As := [.int (iI t), .int (iI f)]) (rest := []) ⟨hx, hb, hml, hown, hts⟩ (c_X7_hasFrame l D cy a R t f hI (by omega) (by omega) (by omega)) gX7_notPoint_X7_hasFrame rfl ⟨rfl, rfl⟩ 2 rfl (by decide +kernel) ⟨Nat.le_of_ble_eq_true rfl, Nat.le_of_ble_eq_true rfl⟩ (GG_ok D cy) hG hP (va_recv hK hP (ci := 6) (q0 := 0) rfl rfl) hl.1 rfl (Nat.le_of_ble_eq_true rfl) ⟨Nat.le_of_ble_eq_true rfl, Nat.le_of_ble_eq_true rfl⟩ dX7_notPoint_59 (fun r_15 hr_15 => ?_)
                    have hr_15 : ((hasF (R 1) t f) ∧ r_15 = 1) ∨ (¬ (hasF (R 1) t f) ∧ r_15 = 0) := hr_15
                    rcases hr_15 with ⟨c_16, hr_15⟩ | ⟨c_16, hr_15⟩ <;> subst hr_15
                    · skip
                      refine k_if_eq (tgt := 69) hx hb dX7_notPoint_62 (by decide) (by omega) (fun c_17 => ?_) (fun c_17 => ?_)
                      · exfalso; omega
                      · skip
                        refine k_iconst hx hb dX7_notPoint_65 ?_
                        refine lv_goto (tgt := 70) hx hb dX7_notPoint_66 (by decide) ?_
                        exact W.iret (v := iI 3) hx hb hr (fun t9 ht _ => ⟨3, rfl, (by first | exact Or.inr (Or.inr (Or.inl ⟨⟨⟨by omega, by unfold pointOK; omega⟩, by first | exact Or.inl (by omega) | exact Or.inr (by assumption)⟩, rfl⟩)) | exact Or.inr (Or.inr (Or.inr ⟨⟨⟨by omega, by unfold pointOK; omega⟩, by omega, by assumption⟩, rfl⟩)) : ((¬ (0 ≤ t ∧ t < R 1 12)) ∧ (3 : Int) = 1) ∨ (((0 ≤ t ∧ t < R 1 12) ∧ ¬ pointOK f x y) ∧ (3 : Int) = 2) ∨ ((((0 ≤ t ∧ t < R 1 12) ∧ pointOK f x y) ∧ (pts (R 1) t = 12 ∨ hasF (R 1) t f)) ∧ (3 : Int) = 3) ∨ ((((0 ≤ t ∧ t < R 1 12) ∧ pointOK f x y) ∧ (pts (R 1) t < 12 ∧ ¬ hasF (R 1) t f)) ∧ (3 : Int) = 0)), ht⟩) (fun _ h => nomatch h) dX7_notPoint_70 hlocks
                    · skip
                      refine k_if_eq (tgt := 69) hx hb dX7_notPoint_62 (by decide) (by omega) (fun c_18 => ?_) (fun c_18 => ?_)
                      · skip
                        refine k_iconst hx hb dX7_notPoint_69 ?_
                        exact W.iret (v := iI 0) hx hb hr (fun t9 ht _ => ⟨0, rfl, (by first | exact Or.inr (Or.inr (Or.inl ⟨⟨⟨by omega, by unfold pointOK; omega⟩, by first | exact Or.inl (by omega) | exact Or.inr (by assumption)⟩, rfl⟩)) | exact Or.inr (Or.inr (Or.inr ⟨⟨⟨by omega, by unfold pointOK; omega⟩, by omega, by assumption⟩, rfl⟩)) : ((¬ (0 ≤ t ∧ t < R 1 12)) ∧ (0 : Int) = 1) ∨ (((0 ≤ t ∧ t < R 1 12) ∧ ¬ pointOK f x y) ∧ (0 : Int) = 2) ∨ ((((0 ≤ t ∧ t < R 1 12) ∧ pointOK f x y) ∧ (pts (R 1) t = 12 ∨ hasF (R 1) t f)) ∧ (0 : Int) = 3) ∨ ((((0 ≤ t ∧ t < R 1 12) ∧ pointOK f x y) ∧ (pts (R 1) t < 12 ∧ ¬ hasF (R 1) t f)) ∧ (0 : Int) = 0)), ht⟩) (fun _ h => nomatch h) dX7_notPoint_70 hlocks
                      · exfalso; omega
                · exfalso; omega
              · skip
                refine k_if_ne (tgt := 46) hx hb dX7_notPoint_41 (by decide) (by omega) (fun c_19 => ?_) (fun c_19 => ?_)
                · exfalso; omega
                · skip
                  refine k_iconst hx hb dX7_notPoint_44 ?_
                  exact W.iret (v := iI 2) hx hb hr (fun t9 ht _ => ⟨2, rfl, (Or.inr (Or.inl ⟨⟨by omega, by unfold pointOK; omega⟩, rfl⟩) : ((¬ (0 ≤ t ∧ t < R 1 12)) ∧ (2 : Int) = 1) ∨ (((0 ≤ t ∧ t < R 1 12) ∧ ¬ pointOK f x y) ∧ (2 : Int) = 2) ∨ ((((0 ≤ t ∧ t < R 1 12) ∧ pointOK f x y) ∧ (pts (R 1) t = 12 ∨ hasF (R 1) t f)) ∧ (2 : Int) = 3) ∨ ((((0 ≤ t ∧ t < R 1 12) ∧ pointOK f x y) ∧ (pts (R 1) t < 12 ∧ ¬ hasF (R 1) t f)) ∧ (2 : Int) = 0)), ht⟩) (fun _ h => nomatch h) dX7_notPoint_45 hlocks
          · skip
            refine k_if_eq (tgt := 44) hx hb dX7_notPoint_29 (by decide) (by omega) (fun c_20 => ?_) (fun c_20 => ?_)
            · skip
              refine k_iconst hx hb dX7_notPoint_44 ?_
              exact W.iret (v := iI 2) hx hb hr (fun t9 ht _ => ⟨2, rfl, (Or.inr (Or.inl ⟨⟨by omega, by unfold pointOK; omega⟩, rfl⟩) : ((¬ (0 ≤ t ∧ t < R 1 12)) ∧ (2 : Int) = 1) ∨ (((0 ≤ t ∧ t < R 1 12) ∧ ¬ pointOK f x y) ∧ (2 : Int) = 2) ∨ ((((0 ≤ t ∧ t < R 1 12) ∧ pointOK f x y) ∧ (pts (R 1) t = 12 ∨ hasF (R 1) t f)) ∧ (2 : Int) = 3) ∨ ((((0 ≤ t ∧ t < R 1 12) ∧ pointOK f x y) ∧ (pts (R 1) t < 12 ∧ ¬ hasF (R 1) t f)) ∧ (2 : Int) = 0)), ht⟩) (fun _ h => nomatch h) dX7_notPoint_45 hlocks
            · exfalso; omega
      · skip
        refine k_if_eq (tgt := 44) hx hb dX7_notPoint_18 (by decide) (by omega) (fun c_21 => ?_) (fun c_21 => ?_)
        · skip
          refine k_iconst hx hb dX7_notPoint_44 ?_
          exact W.iret (v := iI 2) hx hb hr (fun t9 ht _ => ⟨2, rfl, (Or.inr (Or.inl ⟨⟨by omega, by unfold pointOK; omega⟩, rfl⟩) : ((¬ (0 ≤ t ∧ t < R 1 12)) ∧ (2 : Int) = 1) ∨ (((0 ≤ t ∧ t < R 1 12) ∧ ¬ pointOK f x y) ∧ (2 : Int) = 2) ∨ ((((0 ≤ t ∧ t < R 1 12) ∧ pointOK f x y) ∧ (pts (R 1) t = 12 ∨ hasF (R 1) t f)) ∧ (2 : Int) = 3) ∨ ((((0 ≤ t ∧ t < R 1 12) ∧ pointOK f x y) ∧ (pts (R 1) t < 12 ∧ ¬ hasF (R 1) t f)) ∧ (2 : Int) = 0)), ht⟩) (fun _ h => nomatch h) dX7_notPoint_45 hlocks
        · exfalso; omega
    · exfalso; omega
  · skip
    refine k_if_ne (tgt := 10) hx hb dX7_notPoint_5 (by decide) (by omega) (fun c_22 => ?_) (fun c_22 => ?_)
    · exfalso; omega
    · skip
      refine k_iconst hx hb dX7_notPoint_8 ?_
      exact W.iret (v := iI 1) hx hb hr (fun t9 ht _ => ⟨1, rfl, (Or.inl ⟨by omega, rfl⟩ : ((¬ (0 ≤ t ∧ t < R 1 12)) ∧ (1 : Int) = 1) ∨ (((0 ≤ t ∧ t < R 1 12) ∧ ¬ pointOK f x y) ∧ (1 : Int) = 2) ∨ ((((0 ≤ t ∧ t < R 1 12) ∧ pointOK f x y) ∧ (pts (R 1) t = 12 ∨ hasF (R 1) t f)) ∧ (1 : Int) = 3) ∨ ((((0 ≤ t ∧ t < R 1 12) ∧ pointOK f x y) ∧ (pts (R 1) t < 12 ∧ ¬ hasF (R 1) t f)) ∧ (1 : Int) = 0)), ht⟩) (fun _ h => nomatch h) dX7_notPoint_9 hlocks
set_option maxHeartbeats 4000000 in
set_option maxRecDepth 100000 in
theorem c_X7_isDrift (l : Launch) (D : va_G) (v : Int) (hrv : -2147483648 ≤ v ∧ v ≤ 2147483647) : Met l yX7_isDrift wsX7_isDrift { frames := 1, cells := 0, slots := 0, locals := 22 } (kPre kGT D [] ([.int (iI v)] : List Value)) (kRO (fun r => ((-100 ≤ v ∧ v ≤ 100) ∧ r = 1) ∨ (¬ (-100 ≤ v ∧ v ≤ 100) ∧ r = 0))) 0 0 (fun _ => False) := by
  refine kRO_start (cc := cX7_isDrift) (maxL := 1) (ret := (some .boolean)) (by decide) rfl (Nat.le_of_ble_eq_true rfl) ?_
  intro p e s m below meth c hx hb hr hlocks hml hts hown hG hP ls hl
  have hl : lv_has ls 1 [(0, .int (iI v))] := hl
  refine lv_iload_n hx hb dX7_isDrift_0 rfl (lv_at hl 0 rfl) ?_
  refine k_bipush hx hb dX7_isDrift_1 (by decide +kernel) ?_
  refine k_bipush hx hb dX7_isDrift_3 (by decide +kernel) ?_
  refine k_roS (As := [.int (iI v), .int (iI (-100)), .int (iI 100)]) (rest := []) ⟨hx, hb, hml, hown, hts⟩ (c_X7_in l D v (-100) 100 (by omega) (by omega) (by omega)) gX7_isDrift_X7_in rfl ⟨rfl, rfl⟩ 3 rfl (by decide +kernel) ⟨Nat.le_of_ble_eq_true rfl, Nat.le_of_ble_eq_true rfl⟩ kGT_ok trivial (fun k q h => by simp at h) hl.1 rfl (Nat.le_of_ble_eq_true rfl) ⟨Nat.le_of_ble_eq_true rfl, Nat.le_of_ble_eq_true rfl⟩ dX7_isDrift_5 (fun r_1 hr_1 => ?_)
  have hr_1 : (((-100) ≤ v ∧ v ≤ 100) ∧ r_1 = 1) ∨ (¬ ((-100) ≤ v ∧ v ≤ 100) ∧ r_1 = 0) := hr_1
  rcases hr_1 with ⟨c_2, hr_1⟩ | ⟨c_2, hr_1⟩ <;> subst hr_1
  · skip
    exact W.zret (v := iI 1) hx hb hr (by decide +kernel) (fun t9 ht _ => ⟨1, rfl, (by first | exact Or.inl ⟨by omega, rfl⟩ | exact Or.inr ⟨by omega, rfl⟩ : ((-100 ≤ v ∧ v ≤ 100) ∧ (1 : Int) = 1) ∨ (¬ (-100 ≤ v ∧ v ≤ 100) ∧ (1 : Int) = 0)), ht⟩) (fun _ h => nomatch h) dX7_isDrift_8 hlocks
  · skip
    exact W.zret (v := iI 0) hx hb hr (by decide +kernel) (fun t9 ht _ => ⟨0, rfl, (by first | exact Or.inl ⟨by omega, rfl⟩ | exact Or.inr ⟨by omega, rfl⟩ : ((-100 ≤ v ∧ v ≤ 100) ∧ (0 : Int) = 1) ∨ (¬ (-100 ≤ v ∧ v ≤ 100) ∧ (0 : Int) = 0)), ht⟩) (fun _ h => nomatch h) dX7_isDrift_8 hlocks
set_option maxHeartbeats 4000000 in
set_option maxRecDepth 100000 in
theorem c_X7_isSetting (l : Launch) (D : va_G) (w v : Int) (hrw : -2147483648 ≤ w ∧ w ≤ 2147483647) (hrv : -2147483648 ≤ v ∧ v ≤ 2147483647) : Met l yX7_isSetting wsX7_isSetting { frames := 2, cells := 0, slots := 0, locals := 42 } (kPre kGT D [] ([.int (iI w), .int (iI v)] : List Value)) (kRO (fun r => ((setOK w v) ∧ r = 1) ∨ (¬ (setOK w v) ∧ r = 0))) 0 0 (fun _ => False) := by
  refine kRO_start (cc := cX7_isSetting) (maxL := 2) (ret := (some .boolean)) (by decide) rfl (Nat.le_of_ble_eq_true rfl) ?_
  intro p e s m below meth c hx hb hr hlocks hml hts hown hG hP ls hl
  have hl : lv_has ls 2 [(0, .int (iI w)), (1, .int (iI v))] := hl
  have hm0 := hts (.constant RX7 85 (180000)) (by decide +kernel)
  have hm1 := hts (.constant RX7 86 (100000)) (by decide +kernel)
  have hm2 := hts (.constant RX7 87 (359999)) (by decide +kernel)
  have hlm := lm_tab w
  refine lv_iload_n hx hb dX7_isSetting_0 rfl (lv_at hl 0 rfl) ?_
  rcases (show w = 0 ∨ w = 1 ∨ w = 2 ∨ w = 3 ∨ w = 4 ∨ w = 5 ∨ w = 6 ∨ w = 7 ∨ w = 8 ∨ (w < 0 ∨ 8 < w) by omega) with c_1 | c_1 | c_1 | c_1 | c_1 | c_1 | c_1 | c_1 | c_1 | c_1
  · skip
    refine k_tin (tgt := 52) hx hb 0 c_1 (by decide) dX7_isSetting_1 (by decide) (by decide) rfl (by decide) ?_
    refine lv_iload_n hx hb dX7_isSetting_52 rfl (lv_at hl 1 rfl) ?_
    refine k_sipush hx hb dX7_isSetting_53 (by decide +kernel) ?_
    refine k_sipush hx hb dX7_isSetting_56 (by decide +kernel) ?_
    refine k_roS (As := [.int (iI v), .int (iI (-5000)), .int (iI 5000)]) (rest := []) ⟨hx, hb, hml, hown, hts⟩ (c_X7_in l D v (-5000) 5000 (by omega) (by omega) (by omega)) gX7_isSetting_X7_in rfl ⟨rfl, rfl⟩ 3 rfl (by decide +kernel) ⟨Nat.le_of_ble_eq_true rfl, Nat.le_of_ble_eq_true rfl⟩ kGT_ok trivial (fun k q h => by simp at h) hl.1 rfl (Nat.le_of_ble_eq_true rfl) ⟨Nat.le_of_ble_eq_true rfl, Nat.le_of_ble_eq_true rfl⟩ dX7_isSetting_59 (fun r_2 hr_2 => ?_)
    have hr_2 : (((-5000) ≤ v ∧ v ≤ 5000) ∧ r_2 = 1) ∨ (¬ ((-5000) ≤ v ∧ v ≤ 5000) ∧ r_2 = 0) := hr_2
    rcases hr_2 with ⟨c_3, hr_2⟩ | ⟨c_3, hr_2⟩ <;> subst hr_2
    · skip
      exact W.zret (v := iI 1) hx hb hr (by decide +kernel) (fun t9 ht _ => ⟨1, rfl, (by unfold setOK; omega : ((setOK w v) ∧ (1 : Int) = 1) ∨ (¬ (setOK w v) ∧ (1 : Int) = 0)), ht⟩) (fun _ h => nomatch h) dX7_isSetting_62 hlocks
    · skip
      exact W.zret (v := iI 0) hx hb hr (by decide +kernel) (fun t9 ht _ => ⟨0, rfl, (by unfold setOK; omega : ((setOK w v) ∧ (0 : Int) = 1) ∨ (¬ (setOK w v) ∧ (0 : Int) = 0)), ht⟩) (fun _ h => nomatch h) dX7_isSetting_62 hlocks
  · skip
    refine k_tin (tgt := 63) hx hb 1 c_1 (by decide) dX7_isSetting_1 (by decide) (by decide) rfl (by decide) ?_
    refine lv_iload_n hx hb dX7_isSetting_63 rfl (lv_at hl 1 rfl) ?_
    refine k_roS (As := [.int (iI v)]) (rest := []) ⟨hx, hb, hml, hown, hts⟩ (c_X7_isDrift l D v (by omega)) gX7_isSetting_X7_isDrift rfl ⟨rfl, rfl⟩ 1 rfl (by decide +kernel) ⟨Nat.le_of_ble_eq_true rfl, Nat.le_of_ble_eq_true rfl⟩ kGT_ok trivial (fun k q h => by simp at h) hl.1 rfl (Nat.le_of_ble_eq_true rfl) ⟨Nat.le_of_ble_eq_true rfl, Nat.le_of_ble_eq_true rfl⟩ dX7_isSetting_64 (fun r_4 hr_4 => ?_)
    have hr_4 : ((-100 ≤ v ∧ v ≤ 100) ∧ r_4 = 1) ∨ (¬ (-100 ≤ v ∧ v ≤ 100) ∧ r_4 = 0) := hr_4
    rcases hr_4 with ⟨c_5, hr_4⟩ | ⟨c_5, hr_4⟩ <;> subst hr_4
    · skip
      exact W.zret (v := iI 1) hx hb hr (by decide +kernel) (fun t9 ht _ => ⟨1, rfl, (by unfold setOK; omega : ((setOK w v) ∧ (1 : Int) = 1) ∨ (¬ (setOK w v) ∧ (1 : Int) = 0)), ht⟩) (fun _ h => nomatch h) dX7_isSetting_67 hlocks
    · skip
      exact W.zret (v := iI 0) hx hb hr (by decide +kernel) (fun t9 ht _ => ⟨0, rfl, (by unfold setOK; omega : ((setOK w v) ∧ (0 : Int) = 1) ∨ (¬ (setOK w v) ∧ (0 : Int) = 0)), ht⟩) (fun _ h => nomatch h) dX7_isSetting_67 hlocks
  · skip
    refine k_tin (tgt := 63) hx hb 2 c_1 (by decide) dX7_isSetting_1 (by decide) (by decide) rfl (by decide) ?_
    refine lv_iload_n hx hb dX7_isSetting_63 rfl (lv_at hl 1 rfl) ?_
    refine k_roS (As := [.int (iI v)]) (rest := []) ⟨hx, hb, hml, hown, hts⟩ (c_X7_isDrift l D v (by omega)) gX7_isSetting_X7_isDrift rfl ⟨rfl, rfl⟩ 1 rfl (by decide +kernel) ⟨Nat.le_of_ble_eq_true rfl, Nat.le_of_ble_eq_true rfl⟩ kGT_ok trivial (fun k q h => by simp at h) hl.1 rfl (Nat.le_of_ble_eq_true rfl) ⟨Nat.le_of_ble_eq_true rfl, Nat.le_of_ble_eq_true rfl⟩ dX7_isSetting_64 (fun r_6 hr_6 => ?_)
    have hr_6 : ((-100 ≤ v ∧ v ≤ 100) ∧ r_6 = 1) ∨ (¬ (-100 ≤ v ∧ v ≤ 100) ∧ r_6 = 0) := hr_6
    rcases hr_6 with ⟨c_7, hr_6⟩ | ⟨c_7, hr_6⟩ <;> subst hr_6
    · skip
      exact W.zret (v := iI 1) hx hb hr (by decide +kernel) (fun t9 ht _ => ⟨1, rfl, (by unfold setOK; omega : ((setOK w v) ∧ (1 : Int) = 1) ∨ (¬ (setOK w v) ∧ (1 : Int) = 0)), ht⟩) (fun _ h => nomatch h) dX7_isSetting_67 hlocks
    · skip
      exact W.zret (v := iI 0) hx hb hr (by decide +kernel) (fun t9 ht _ => ⟨0, rfl, (by unfold setOK; omega : ((setOK w v) ∧ (0 : Int) = 1) ∨ (¬ (setOK w v) ∧ (0 : Int) = 0)), ht⟩) (fun _ h => nomatch h) dX7_isSetting_67 hlocks
  · skip
    refine k_tin (tgt := 68) hx hb 3 c_1 (by decide) dX7_isSetting_1 (by decide) (by decide) rfl (by decide) ?_
    refine lv_iload_n hx hb dX7_isSetting_68 rfl (lv_at hl 1 rfl) ?_
    refine k_iconst hx hb dX7_isSetting_69 ?_
    refine k_sipush hx hb dX7_isSetting_70 (by decide +kernel) ?_
    refine k_roS (As := [.int (iI v), .int (iI 0), .int (iI 500)]) (rest := []) ⟨hx, hb, hml, hown, hts⟩ (c_X7_in l D v 0 500 (by omega) (by omega) (by omega)) gX7_isSetting_X7_in rfl ⟨rfl, rfl⟩ 3 rfl (by decide +kernel) ⟨Nat.le_of_ble_eq_true rfl, Nat.le_of_ble_eq_true rfl⟩ kGT_ok trivial (fun k q h => by simp at h) hl.1 rfl (Nat.le_of_ble_eq_true rfl) ⟨Nat.le_of_ble_eq_true rfl, Nat.le_of_ble_eq_true rfl⟩ dX7_isSetting_73 (fun r_8 hr_8 => ?_)
    have hr_8 : ((0 ≤ v ∧ v ≤ 500) ∧ r_8 = 1) ∨ (¬ (0 ≤ v ∧ v ≤ 500) ∧ r_8 = 0) := hr_8
    rcases hr_8 with ⟨c_9, hr_8⟩ | ⟨c_9, hr_8⟩ <;> subst hr_8
    · skip
      exact W.zret (v := iI 1) hx hb hr (by decide +kernel) (fun t9 ht _ => ⟨1, rfl, (by unfold setOK; omega : ((setOK w v) ∧ (1 : Int) = 1) ∨ (¬ (setOK w v) ∧ (1 : Int) = 0)), ht⟩) (fun _ h => nomatch h) dX7_isSetting_76 hlocks
    · skip
      exact W.zret (v := iI 0) hx hb hr (by decide +kernel) (fun t9 ht _ => ⟨0, rfl, (by unfold setOK; omega : ((setOK w v) ∧ (0 : Int) = 1) ∨ (¬ (setOK w v) ∧ (0 : Int) = 0)), ht⟩) (fun _ h => nomatch h) dX7_isSetting_76 hlocks
  · skip
    refine k_tin (tgt := 77) hx hb 4 c_1 (by decide) dX7_isSetting_1 (by decide) (by decide) rfl (by decide) ?_
    refine lv_iload_n hx hb dX7_isSetting_77 rfl (lv_at hl 1 rfl) ?_
    refine k_iconst hx hb dX7_isSetting_78 ?_
    refine k_ldc (z := 180000) hx hb hown hm0 (by decide +kernel) dX7_isSetting_79 ?_
    refine k_roS (As := [.int (iI v), .int (iI 0), .int (iI 180000)]) (rest := []) ⟨hx, hb, hml, hown, hts⟩ (c_X7_in l D v 0 180000 (by omega) (by omega) (by omega)) gX7_isSetting_X7_in rfl ⟨rfl, rfl⟩ 3 rfl (by decide +kernel) ⟨Nat.le_of_ble_eq_true rfl, Nat.le_of_ble_eq_true rfl⟩ kGT_ok trivial (fun k q h => by simp at h) hl.1 rfl (Nat.le_of_ble_eq_true rfl) ⟨Nat.le_of_ble_eq_true rfl, Nat.le_of_ble_eq_true rfl⟩ dX7_isSetting_81 (fun r_10 hr_10 => ?_)
    have hr_10 : ((0 ≤ v ∧ v ≤ 180000) ∧ r_10 = 1) ∨ (¬ (0 ≤ v ∧ v ≤ 180000) ∧ r_10 = 0) := hr_10
    rcases hr_10 with ⟨c_11, hr_10⟩ | ⟨c_11, hr_10⟩ <;> subst hr_10
    · skip
      exact W.zret (v := iI 1) hx hb hr (by decide +kernel) (fun t9 ht _ => ⟨1, rfl, (by unfold setOK; omega : ((setOK w v) ∧ (1 : Int) = 1) ∨ (¬ (setOK w v) ∧ (1 : Int) = 0)), ht⟩) (fun _ h => nomatch h) dX7_isSetting_84 hlocks
    · skip
      exact W.zret (v := iI 0) hx hb hr (by decide +kernel) (fun t9 ht _ => ⟨0, rfl, (by unfold setOK; omega : ((setOK w v) ∧ (0 : Int) = 1) ∨ (¬ (setOK w v) ∧ (0 : Int) = 0)), ht⟩) (fun _ h => nomatch h) dX7_isSetting_84 hlocks
  · skip
    refine k_tin (tgt := 85) hx hb 5 c_1 (by decide) dX7_isSetting_1 (by decide) (by decide) rfl (by decide) ?_
    refine lv_iload_n hx hb dX7_isSetting_85 rfl (lv_at hl 1 rfl) ?_
    refine k_iconst hx hb dX7_isSetting_86 ?_
    refine k_sipush hx hb dX7_isSetting_87 (by decide +kernel) ?_
    refine k_roS (As := [.int (iI v), .int (iI 0), .int (iI 5000)]) (rest := []) ⟨hx, hb, hml, hown, hts⟩ (c_X7_in l D v 0 5000 (by omega) (by omega) (by omega)) gX7_isSetting_X7_in rfl ⟨rfl, rfl⟩ 3 rfl (by decide +kernel) ⟨Nat.le_of_ble_eq_true rfl, Nat.le_of_ble_eq_true rfl⟩ kGT_ok trivial (fun k q h => by simp at h) hl.1 rfl (Nat.le_of_ble_eq_true rfl) ⟨Nat.le_of_ble_eq_true rfl, Nat.le_of_ble_eq_true rfl⟩ dX7_isSetting_90 (fun r_12 hr_12 => ?_)
    have hr_12 : ((0 ≤ v ∧ v ≤ 5000) ∧ r_12 = 1) ∨ (¬ (0 ≤ v ∧ v ≤ 5000) ∧ r_12 = 0) := hr_12
    rcases hr_12 with ⟨c_13, hr_12⟩ | ⟨c_13, hr_12⟩ <;> subst hr_12
    · skip
      exact W.zret (v := iI 1) hx hb hr (by decide +kernel) (fun t9 ht _ => ⟨1, rfl, (by unfold setOK; omega : ((setOK w v) ∧ (1 : Int) = 1) ∨ (¬ (setOK w v) ∧ (1 : Int) = 0)), ht⟩) (fun _ h => nomatch h) dX7_isSetting_93 hlocks
    · skip
      exact W.zret (v := iI 0) hx hb hr (by decide +kernel) (fun t9 ht _ => ⟨0, rfl, (by unfold setOK; omega : ((setOK w v) ∧ (0 : Int) = 1) ∨ (¬ (setOK w v) ∧ (0 : Int) = 0)), ht⟩) (fun _ h => nomatch h) dX7_isSetting_93 hlocks
  · skip
    refine k_tin (tgt := 94) hx hb 6 c_1 (by decide) dX7_isSetting_1 (by decide) (by decide) rfl (by decide) ?_
    refine lv_iload_n hx hb dX7_isSetting_94 rfl (lv_at hl 1 rfl) ?_
    refine k_iconst hx hb dX7_isSetting_95 ?_
    refine k_sipush hx hb dX7_isSetting_96 (by decide +kernel) ?_
    refine k_roS (As := [.int (iI v), .int (iI 1), .int (iI 1000)]) (rest := []) ⟨hx, hb, hml, hown, hts⟩ (c_X7_in l D v 1 1000 (by omega) (by omega) (by omega)) gX7_isSetting_X7_in rfl ⟨rfl, rfl⟩ 3 rfl (by decide +kernel) ⟨Nat.le_of_ble_eq_true rfl, Nat.le_of_ble_eq_true rfl⟩ kGT_ok trivial (fun k q h => by simp at h) hl.1 rfl (Nat.le_of_ble_eq_true rfl) ⟨Nat.le_of_ble_eq_true rfl, Nat.le_of_ble_eq_true rfl⟩ dX7_isSetting_99 (fun r_14 hr_14 => ?_)
    have hr_14 : ((1 ≤ v ∧ v ≤ 1000) ∧ r_14 = 1) ∨ (¬ (1 ≤ v ∧ v ≤ 1000) ∧ r_14 = 0) := hr_14
    rcases hr_14 with ⟨c_15, hr_14⟩ | ⟨c_15, hr_14⟩ <;> subst hr_14
    · skip
      exact W.zret (v := iI 1) hx hb hr (by decide +kernel) (fun t9 ht _ => ⟨1, rfl, (by unfold setOK; omega : ((setOK w v) ∧ (1 : Int) = 1) ∨ (¬ (setOK w v) ∧ (1 : Int) = 0)), ht⟩) (fun _ h => nomatch h) dX7_isSetting_102 hlocks
    · skip
      exact W.zret (v := iI 0) hx hb hr (by decide +kernel) (fun t9 ht _ => ⟨0, rfl, (by unfold setOK; omega : ((setOK w v) ∧ (0 : Int) = 1) ∨ (¬ (setOK w v) ∧ (0 : Int) = 0)), ht⟩) (fun _ h => nomatch h) dX7_isSetting_102 hlocks
  · skip
    refine k_tin (tgt := 103) hx hb 7 c_1 (by decide) dX7_isSetting_1 (by decide) (by decide) rfl (by decide) ?_
    refine lv_iload_n hx hb dX7_isSetting_103 rfl (lv_at hl 1 rfl) ?_
    refine k_iconst hx hb dX7_isSetting_104 ?_
    refine k_ldc (z := 100000) hx hb hown hm1 (by decide +kernel) dX7_isSetting_105 ?_
    refine k_roS (As := [.int (iI v), .int (iI 1), .int (iI 100000)]) (rest := []) ⟨hx, hb, hml, hown, hts⟩ (c_X7_in l D v 1 100000 (by omega) (by omega) (by omega)) gX7_isSetting_X7_in rfl ⟨rfl, rfl⟩ 3 rfl (by decide +kernel) ⟨Nat.le_of_ble_eq_true rfl, Nat.le_of_ble_eq_true rfl⟩ kGT_ok trivial (fun k q h => by simp at h) hl.1 rfl (Nat.le_of_ble_eq_true rfl) ⟨Nat.le_of_ble_eq_true rfl, Nat.le_of_ble_eq_true rfl⟩ dX7_isSetting_107 (fun r_16 hr_16 => ?_)
    have hr_16 : ((1 ≤ v ∧ v ≤ 100000) ∧ r_16 = 1) ∨ (¬ (1 ≤ v ∧ v ≤ 100000) ∧ r_16 = 0) := hr_16
    rcases hr_16 with ⟨c_17, hr_16⟩ | ⟨c_17, hr_16⟩ <;> subst hr_16
    · skip
      exact W.zret (v := iI 1) hx hb hr (by decide +kernel) (fun t9 ht _ => ⟨1, rfl, (by unfold setOK; omega : ((setOK w v) ∧ (1 : Int) = 1) ∨ (¬ (setOK w v) ∧ (1 : Int) = 0)), ht⟩) (fun _ h => nomatch h) dX7_isSetting_110 hlocks
    · skip
      exact W.zret (v := iI 0) hx hb hr (by decide +kernel) (fun t9 ht _ => ⟨0, rfl, (by unfold setOK; omega : ((setOK w v) ∧ (0 : Int) = 1) ∨ (¬ (setOK w v) ∧ (0 : Int) = 0)), ht⟩) (fun _ h => nomatch h) dX7_isSetting_110 hlocks
  · skip
    refine k_tin (tgt := 111) hx hb 8 c_1 (by decide) dX7_isSetting_1 (by decide) (by decide) rfl (by decide) ?_
    refine lv_iload_n hx hb dX7_isSetting_111 rfl (lv_at hl 1 rfl) ?_
    refine k_iconst hx hb dX7_isSetting_112 ?_
    refine k_ldc (z := 359999) hx hb hown hm2 (by decide +kernel) dX7_isSetting_113 ?_
    refine k_roS (As := [.int (iI v), .int (iI 0), .int (iI 359999)]) (rest := []) ⟨hx, hb, hml, hown, hts⟩ (c_X7_in l D v 0 359999 (by omega) (by omega) (by omega)) gX7_isSetting_X7_in rfl ⟨rfl, rfl⟩ 3 rfl (by decide +kernel) ⟨Nat.le_of_ble_eq_true rfl, Nat.le_of_ble_eq_true rfl⟩ kGT_ok trivial (fun k q h => by simp at h) hl.1 rfl (Nat.le_of_ble_eq_true rfl) ⟨Nat.le_of_ble_eq_true rfl, Nat.le_of_ble_eq_true rfl⟩ dX7_isSetting_115 (fun r_18 hr_18 => ?_)
    have hr_18 : ((0 ≤ v ∧ v ≤ 359999) ∧ r_18 = 1) ∨ (¬ (0 ≤ v ∧ v ≤ 359999) ∧ r_18 = 0) := hr_18
    rcases hr_18 with ⟨c_19, hr_18⟩ | ⟨c_19, hr_18⟩ <;> subst hr_18
    · skip
      exact W.zret (v := iI 1) hx hb hr (by decide +kernel) (fun t9 ht _ => ⟨1, rfl, (by unfold setOK; omega : ((setOK w v) ∧ (1 : Int) = 1) ∨ (¬ (setOK w v) ∧ (1 : Int) = 0)), ht⟩) (fun _ h => nomatch h) dX7_isSetting_118 hlocks
    · skip
      exact W.zret (v := iI 0) hx hb hr (by decide +kernel) (fun t9 ht _ => ⟨0, rfl, (by unfold setOK; omega : ((setOK w v) ∧ (0 : Int) = 1) ∨ (¬ (setOK w v) ∧ (0 : Int) = 0)), ht⟩) (fun _ h => nomatch h) dX7_isSetting_118 hlocks
  · skip
    refine k_tout (tgt := 119) hx hb (by omega) dX7_isSetting_1 c_1 (by decide) ?_
    refine lv_iload_n hx hb dX7_isSetting_119 rfl (lv_at hl 0 rfl) ?_
    refine k_bipush hx hb dX7_isSetting_120 (by decide +kernel) ?_
    refine k_icmp_ne (tgt := 139) hx hb dX7_isSetting_122 (by decide) (by omega) (by omega) (fun c_20 => ?_) (fun c_20 => ?_)
    · skip
      refine k_iconst hx hb dX7_isSetting_139 ?_
      exact W.zret (v := iI 0) hx hb hr (by decide +kernel) (fun t9 ht _ => ⟨0, rfl, (by unfold setOK; omega : ((setOK w v) ∧ (0 : Int) = 1) ∨ (¬ (setOK w v) ∧ (0 : Int) = 0)), ht⟩) (fun _ h => nomatch h) dX7_isSetting_140 hlocks
    · skip
      refine lv_iload_n hx hb dX7_isSetting_125 rfl (lv_at hl 1 rfl) ?_
      refine k_iconst hx hb dX7_isSetting_126 ?_
      refine k_bipush hx hb dX7_isSetting_127 (by decide +kernel) ?_
      refine k_roS (As := [.int (iI v), .int (iI 0), .int (iI 9)]) (rest := []) ⟨hx, hb, hml, hown, hts⟩ (c_X7_in l D v 0 9 (by omega) (by omega) (by omega)) gX7_isSetting_X7_in rfl ⟨rfl, rfl⟩ 3 rfl (by decide +kernel) ⟨Nat.le_of_ble_eq_true rfl, Nat.le_of_ble_eq_true rfl⟩ kGT_ok trivial (fun k q h => by simp at h) hl.1 rfl (Nat.le_of_ble_eq_true rfl) ⟨Nat.le_of_ble_eq_true rfl, Nat.le_of_ble_eq_true rfl⟩ dX7_isSetting_129 (fun r_21 hr_21 => ?_)
      have hr_21 : ((0 ≤ v ∧ v ≤ 9) ∧ r_21 = 1) ∨ (¬ (0 ≤ v ∧ v ≤ 9) ∧ r_21 = 0) := hr_21
      rcases hr_21 with ⟨c_22, hr_21⟩ | ⟨c_22, hr_21⟩ <;> subst hr_21
      · skip
        refine k_if_eq (tgt := 139) hx hb dX7_isSetting_132 (by decide) (by omega) (fun c_23 => ?_) (fun c_23 => ?_)
        · exfalso; omega
        · skip
          refine k_iconst hx hb dX7_isSetting_135 ?_
          refine lv_goto (tgt := 140) hx hb dX7_isSetting_136 (by decide) ?_
          exact W.zret (v := iI 1) hx hb hr (by decide +kernel) (fun t9 ht _ => ⟨1, rfl, (by unfold setOK; omega : ((setOK w v) ∧ (1 : Int) = 1) ∨ (¬ (setOK w v) ∧ (1 : Int) = 0)), ht⟩) (fun _ h => nomatch h) dX7_isSetting_140 hlocks
      · skip
        refine k_if_eq (tgt := 139) hx hb dX7_isSetting_132 (by decide) (by omega) (fun c_24 => ?_) (fun c_24 => ?_)
        · skip
          refine k_iconst hx hb dX7_isSetting_139 ?_
          exact W.zret (v := iI 0) hx hb hr (by decide +kernel) (fun t9 ht _ => ⟨0, rfl, (by unfold setOK; omega : ((setOK w v) ∧ (0 : Int) = 1) ∨ (¬ (setOK w v) ∧ (0 : Int) = 0)), ht⟩) (fun _ h => nomatch h) dX7_isSetting_140 hlocks
        · exfalso; omega
set_option maxHeartbeats 4000000 in
set_option maxRecDepth 100000 in
theorem c_X7_notSet (l : Launch) (D : va_G) (w v : Int) (hrw : -2147483648 ≤ w ∧ w ≤ 2147483647) (hrv : -2147483648 ≤ v ∧ v ≤ 2147483647) : Met l yX7_notSet wsX7_notSet { frames := 3, cells := 0, slots := 0, locals := 63 } (kPre kGT D [] ([.int (iI w), .int (iI v)] : List Value)) (kRO (fun r => ((setOK w v) ∧ r = 0) ∨ ((¬ setOK w v) ∧ r = 2))) 0 0 (fun _ => False) := by
  refine kRO_start (cc := cX7_notSet) (maxL := 2) (ret := (some .int)) (by decide) rfl (Nat.le_of_ble_eq_true rfl) ?_
  intro p e s m below meth c hx hb hr hlocks hml hts hown hG hP ls hl
  have hl : lv_has ls 2 [(0, .int (iI w)), (1, .int (iI v))] := hl
  refine lv_iload_n hx hb dX7_notSet_0 rfl (lv_at hl 0 rfl) ?_
  refine lv_iload_n hx hb dX7_notSet_1 rfl (lv_at hl 1 rfl) ?_
  refine k_roS (As := [.int (iI w), .int (iI v)]) (rest := []) ⟨hx, hb, hml, hown, hts⟩ (c_X7_isSetting l D w v (by omega) (by omega)) gX7_notSet_X7_isSetting rfl ⟨rfl, rfl⟩ 2 rfl (by decide +kernel) ⟨Nat.le_of_ble_eq_true rfl, Nat.le_of_ble_eq_true rfl⟩ kGT_ok trivial (fun k q h => by simp at h) hl.1 rfl (Nat.le_of_ble_eq_true rfl) ⟨Nat.le_of_ble_eq_true rfl, Nat.le_of_ble_eq_true rfl⟩ dX7_notSet_2 (fun r_1 hr_1 => ?_)
  have hr_1 : ((setOK w v) ∧ r_1 = 1) ∨ (¬ (setOK w v) ∧ r_1 = 0) := hr_1
  rcases hr_1 with ⟨c_2, hr_1⟩ | ⟨c_2, hr_1⟩ <;> subst hr_1
  · skip
    refine k_if_eq (tgt := 12) hx hb dX7_notSet_5 (by decide) (by omega) (fun c_3 => ?_) (fun c_3 => ?_)
    · exfalso; omega
    · skip
      refine k_iconst hx hb dX7_notSet_8 ?_
      refine lv_goto (tgt := 13) hx hb dX7_notSet_9 (by decide) ?_
      exact W.iret (v := iI 0) hx hb hr (fun t9 ht _ => ⟨0, rfl, (by first | exact Or.inl ⟨by assumption, rfl⟩ | exact Or.inr ⟨by assumption, rfl⟩ : ((setOK w v) ∧ (0 : Int) = 0) ∨ ((¬ setOK w v) ∧ (0 : Int) = 2)), ht⟩) (fun _ h => nomatch h) dX7_notSet_13 hlocks
  · skip
    refine k_if_eq (tgt := 12) hx hb dX7_notSet_5 (by decide) (by omega) (fun c_4 => ?_) (fun c_4 => ?_)
    · skip
      refine k_iconst hx hb dX7_notSet_12 ?_
      exact W.iret (v := iI 2) hx hb hr (fun t9 ht _ => ⟨2, rfl, (by first | exact Or.inl ⟨by assumption, rfl⟩ | exact Or.inr ⟨by assumption, rfl⟩ : ((setOK w v) ∧ (2 : Int) = 0) ∨ ((¬ setOK w v) ∧ (2 : Int) = 2)), ht⟩) (fun _ h => nomatch h) dX7_notSet_13 hlocks
    · exfalso; omega
set_option maxHeartbeats 4000000 in
set_option maxRecDepth 100000 in
theorem c_X7_isPole (l : Launch) (D : va_G) (x y : Int) (hrx : -2147483648 ≤ x ∧ x ≤ 2147483647) (hry : -2147483648 ≤ y ∧ y ≤ 2147483647) : Met l yX7_isPole wsX7_isPole { frames := 1, cells := 0, slots := 0, locals := 22 } (kPre kGT D [] ([.int (iI x), .int (iI y)] : List Value)) (kRO (fun r => ((poleOK x y) ∧ r = 1) ∨ (¬ (poleOK x y) ∧ r = 0))) 0 0 (fun _ => False) := by
  refine kRO_start (cc := cX7_isPole) (maxL := 2) (ret := (some .boolean)) (by decide) rfl (Nat.le_of_ble_eq_true rfl) ?_
  intro p e s m below meth c hx hb hr hlocks hml hts hown hG hP ls hl
  have hl : lv_has ls 2 [(0, .int (iI x)), (1, .int (iI y))] := hl
  refine lv_iload_n hx hb dX7_isPole_0 rfl (lv_at hl 0 rfl) ?_
  refine k_sipush hx hb dX7_isPole_1 (by decide +kernel) ?_
  refine k_sipush hx hb dX7_isPole_4 (by decide +kernel) ?_
  refine k_roS (As := [.int (iI x), .int (iI (-2000)), .int (iI 6000)]) (rest := []) ⟨hx, hb, hml, hown, hts⟩ (c_X7_in l D x (-2000) 6000 (by omega) (by omega) (by omega)) gX7_isPole_X7_in rfl ⟨rfl, rfl⟩ 3 rfl (by decide +kernel) ⟨Nat.le_of_ble_eq_true rfl, Nat.le_of_ble_eq_true rfl⟩ kGT_ok trivial (fun k q h => by simp at h) hl.1 rfl (Nat.le_of_ble_eq_true rfl) ⟨Nat.le_of_ble_eq_true rfl, Nat.le_of_ble_eq_true rfl⟩ dX7_isPole_7 (fun r_1 hr_1 => ?_)
  have hr_1 : (((-2000) ≤ x ∧ x ≤ 6000) ∧ r_1 = 1) ∨ (¬ ((-2000) ≤ x ∧ x ≤ 6000) ∧ r_1 = 0) := hr_1
  rcases hr_1 with ⟨c_2, hr_1⟩ | ⟨c_2, hr_1⟩ <;> subst hr_1
  · skip
    refine k_if_eq (tgt := 30) hx hb dX7_isPole_10 (by decide) (by omega) (fun c_3 => ?_) (fun c_3 => ?_)
    · exfalso; omega
    · skip
      refine lv_iload_n hx hb dX7_isPole_13 rfl (lv_at hl 1 rfl) ?_
      refine k_sipush hx hb dX7_isPole_14 (by decide +kernel) ?_
      refine k_sipush hx hb dX7_isPole_17 (by decide +kernel) ?_
      refine k_roS (As := [.int (iI y), .int (iI (-2000)), .int (iI 6000)]) (rest := []) ⟨hx, hb, hml, hown, hts⟩ (c_X7_in l D y (-2000) 6000 (by omega) (by omega) (by omega)) gX7_isPole_X7_in rfl ⟨rfl, rfl⟩ 3 rfl (by decide +kernel) ⟨Nat.le_of_ble_eq_true rfl, Nat.le_of_ble_eq_true rfl⟩ kGT_ok trivial (fun k q h => by simp at h) hl.1 rfl (Nat.le_of_ble_eq_true rfl) ⟨Nat.le_of_ble_eq_true rfl, Nat.le_of_ble_eq_true rfl⟩ dX7_isPole_20 (fun r_4 hr_4 => ?_)
      have hr_4 : (((-2000) ≤ y ∧ y ≤ 6000) ∧ r_4 = 1) ∨ (¬ ((-2000) ≤ y ∧ y ≤ 6000) ∧ r_4 = 0) := hr_4
      rcases hr_4 with ⟨c_5, hr_4⟩ | ⟨c_5, hr_4⟩ <;> subst hr_4
      · skip
        refine k_if_eq (tgt := 30) hx hb dX7_isPole_23 (by decide) (by omega) (fun c_6 => ?_) (fun c_6 => ?_)
        · exfalso; omega
        · skip
          refine k_iconst hx hb dX7_isPole_26 ?_
          refine lv_goto (tgt := 31) hx hb dX7_isPole_27 (by decide) ?_
          exact W.zret (v := iI 1) hx hb hr (by decide +kernel) (fun t9 ht _ => ⟨1, rfl, (by unfold poleOK; omega : ((poleOK x y) ∧ (1 : Int) = 1) ∨ (¬ (poleOK x y) ∧ (1 : Int) = 0)), ht⟩) (fun _ h => nomatch h) dX7_isPole_31 hlocks
      · skip
        refine k_if_eq (tgt := 30) hx hb dX7_isPole_23 (by decide) (by omega) (fun c_7 => ?_) (fun c_7 => ?_)
        · skip
          refine k_iconst hx hb dX7_isPole_30 ?_
          exact W.zret (v := iI 0) hx hb hr (by decide +kernel) (fun t9 ht _ => ⟨0, rfl, (by unfold poleOK; omega : ((poleOK x y) ∧ (0 : Int) = 1) ∨ (¬ (poleOK x y) ∧ (0 : Int) = 0)), ht⟩) (fun _ h => nomatch h) dX7_isPole_31 hlocks
        · exfalso; omega
  · skip
    refine k_if_eq (tgt := 30) hx hb dX7_isPole_10 (by decide) (by omega) (fun c_8 => ?_) (fun c_8 => ?_)
    · skip
      refine k_iconst hx hb dX7_isPole_30 ?_
      exact W.zret (v := iI 0) hx hb hr (by decide +kernel) (fun t9 ht _ => ⟨0, rfl, (by unfold poleOK; omega : ((poleOK x y) ∧ (0 : Int) = 1) ∨ (¬ (poleOK x y) ∧ (0 : Int) = 0)), ht⟩) (fun _ h => nomatch h) dX7_isPole_31 hlocks
    · exfalso; omega
set_option maxHeartbeats 4000000 in
set_option maxRecDepth 100000 in
theorem c_X7_notPole (l : Launch) (D : va_G) (x y : Int) (hrx : -2147483648 ≤ x ∧ x ≤ 2147483647) (hry : -2147483648 ≤ y ∧ y ≤ 2147483647) : Met l yX7_notPole wsX7_notPole { frames := 2, cells := 0, slots := 0, locals := 43 } (kPre kGT D [] ([.int (iI x), .int (iI y)] : List Value)) (kRO (fun r => ((poleOK x y) ∧ r = 0) ∨ ((¬ poleOK x y) ∧ r = 2))) 0 0 (fun _ => False) := by
  refine kRO_start (cc := cX7_notPole) (maxL := 2) (ret := (some .int)) (by decide) rfl (Nat.le_of_ble_eq_true rfl) ?_
  intro p e s m below meth c hx hb hr hlocks hml hts hown hG hP ls hl
  have hl : lv_has ls 2 [(0, .int (iI x)), (1, .int (iI y))] := hl
  refine lv_iload_n hx hb dX7_notPole_0 rfl (lv_at hl 0 rfl) ?_
  refine lv_iload_n hx hb dX7_notPole_1 rfl (lv_at hl 1 rfl) ?_
  refine k_roS (As := [.int (iI x), .int (iI y)]) (rest := []) ⟨hx, hb, hml, hown, hts⟩ (c_X7_isPole l D x y (by omega) (by omega)) gX7_notPole_X7_isPole rfl ⟨rfl, rfl⟩ 2 rfl (by decide +kernel) ⟨Nat.le_of_ble_eq_true rfl, Nat.le_of_ble_eq_true rfl⟩ kGT_ok trivial (fun k q h => by simp at h) hl.1 rfl (Nat.le_of_ble_eq_true rfl) ⟨Nat.le_of_ble_eq_true rfl, Nat.le_of_ble_eq_true rfl⟩ dX7_notPole_2 (fun r_1 hr_1 => ?_)
  have hr_1 : ((poleOK x y) ∧ r_1 = 1) ∨ (¬ (poleOK x y) ∧ r_1 = 0) := hr_1
  rcases hr_1 with ⟨c_2, hr_1⟩ | ⟨c_2, hr_1⟩ <;> subst hr_1
  · skip
    refine k_if_eq (tgt := 12) hx hb dX7_notPole_5 (by decide) (by omega) (fun c_3 => ?_) (fun c_3 => ?_)
    · exfalso; omega
    · skip
      refine k_iconst hx hb dX7_notPole_8 ?_
      refine lv_goto (tgt := 13) hx hb dX7_notPole_9 (by decide) ?_
      exact W.iret (v := iI 0) hx hb hr (fun t9 ht _ => ⟨0, rfl, (by first | exact Or.inl ⟨by assumption, rfl⟩ | exact Or.inr ⟨by assumption, rfl⟩ : ((poleOK x y) ∧ (0 : Int) = 0) ∨ ((¬ poleOK x y) ∧ (0 : Int) = 2)), ht⟩) (fun _ h => nomatch h) dX7_notPole_13 hlocks
  · skip
    refine k_if_eq (tgt := 12) hx hb dX7_notPole_5 (by decide) (by omega) (fun c_4 => ?_) (fun c_4 => ?_)
    · skip
      refine k_iconst hx hb dX7_notPole_12 ?_
      exact W.iret (v := iI 2) hx hb hr (fun t9 ht _ => ⟨2, rfl, (by first | exact Or.inl ⟨by assumption, rfl⟩ | exact Or.inr ⟨by assumption, rfl⟩ : ((poleOK x y) ∧ (2 : Int) = 0) ∨ ((¬ poleOK x y) ∧ (2 : Int) = 2)), ht⟩) (fun _ h => nomatch h) dX7_notPole_13 hlocks
    · exfalso; omega
set_option maxHeartbeats 4000000 in
set_option maxRecDepth 100000 in
theorem c_X7_notSearch (l : Launch) (D : va_G) (v : Int) (hrv : -2147483648 ≤ v ∧ v ≤ 2147483647) : Met l yX7_notSearch wsX7_notSearch { frames := 1, cells := 0, slots := 0, locals := 22 } (kPre kGT D [] ([.int (iI v)] : List Value)) (kRO (fun r => ((1 ≤ v ∧ v ≤ 512) ∧ r = 0) ∨ ((¬ (1 ≤ v ∧ v ≤ 512)) ∧ r = 2))) 0 0 (fun _ => False) := by
  refine kRO_start (cc := cX7_notSearch) (maxL := 1) (ret := (some .int)) (by decide) rfl (Nat.le_of_ble_eq_true rfl) ?_
  intro p e s m below meth c hx hb hr hlocks hml hts hown hG hP ls hl
  have hl : lv_has ls 1 [(0, .int (iI v))] := hl
  refine lv_iload_n hx hb dX7_notSearch_0 rfl (lv_at hl 0 rfl) ?_
  refine k_iconst hx hb dX7_notSearch_1 ?_
  refine k_sipush hx hb dX7_notSearch_2 (by decide +kernel) ?_
  refine k_roS (As := [.int (iI v), .int (iI 1), .int (iI 512)]) (rest := []) ⟨hx, hb, hml, hown, hts⟩ (c_X7_in l D v 1 512 (by omega) (by omega) (by omega)) gX7_notSearch_X7_in rfl ⟨rfl, rfl⟩ 3 rfl (by decide +kernel) ⟨Nat.le_of_ble_eq_true rfl, Nat.le_of_ble_eq_true rfl⟩ kGT_ok trivial (fun k q h => by simp at h) hl.1 rfl (Nat.le_of_ble_eq_true rfl) ⟨Nat.le_of_ble_eq_true rfl, Nat.le_of_ble_eq_true rfl⟩ dX7_notSearch_5 (fun r_1 hr_1 => ?_)
  have hr_1 : ((1 ≤ v ∧ v ≤ 512) ∧ r_1 = 1) ∨ (¬ (1 ≤ v ∧ v ≤ 512) ∧ r_1 = 0) := hr_1
  rcases hr_1 with ⟨c_2, hr_1⟩ | ⟨c_2, hr_1⟩ <;> subst hr_1
  · skip
    refine k_if_eq (tgt := 15) hx hb dX7_notSearch_8 (by decide) (by omega) (fun c_3 => ?_) (fun c_3 => ?_)
    · exfalso; omega
    · skip
      refine k_iconst hx hb dX7_notSearch_11 ?_
      refine lv_goto (tgt := 16) hx hb dX7_notSearch_12 (by decide) ?_
      exact W.iret (v := iI 0) hx hb hr (fun t9 ht _ => ⟨0, rfl, (by omega : ((1 ≤ v ∧ v ≤ 512) ∧ (0 : Int) = 0) ∨ ((¬ (1 ≤ v ∧ v ≤ 512)) ∧ (0 : Int) = 2)), ht⟩) (fun _ h => nomatch h) dX7_notSearch_16 hlocks
  · skip
    refine k_if_eq (tgt := 15) hx hb dX7_notSearch_8 (by decide) (by omega) (fun c_4 => ?_) (fun c_4 => ?_)
    · skip
      refine k_iconst hx hb dX7_notSearch_15 ?_
      exact W.iret (v := iI 2) hx hb hr (fun t9 ht _ => ⟨2, rfl, (by omega : ((1 ≤ v ∧ v ≤ 512) ∧ (2 : Int) = 0) ∨ ((¬ (1 ≤ v ∧ v ≤ 512)) ∧ (2 : Int) = 2)), ht⟩) (fun _ h => nomatch h) dX7_notSearch_16 hlocks
    · exfalso; omega
set_option maxHeartbeats 4000000 in
set_option maxRecDepth 100000 in
theorem c_X7_notStar (l : Launch) (D : va_G) (cy : Nat → ClassId) (a : Nat → Nat) (R : Nat → Int → Int) (x y z : Int) (hI : Inv (R 1)) (hrx : -2147483648 ≤ x ∧ x ≤ 2147483647) (hry : -2147483648 ≤ y ∧ y ≤ 2147483647) (hrz : -2147483648 ≤ z ∧ z ≤ 2147483647) : Met l yX7_notStar wsX7_notStar { frames := 1, cells := 0, slots := 0, locals := 22 } (kPre (GG D cy) D (rfW cy a R) ([.ref (a 0), .int (iI x), .int (iI y), .int (iI z)] : List Value)) (kRO (fun r => ((starOK x y z ∧ R 1 13 < 12) ∧ r = 0) ∨ ((¬ starOK x y z) ∧ r = 2) ∨ ((starOK x y z ∧ R 1 13 = 12) ∧ r = 3))) 0 0 (fun _ => False) := by
  refine kRO_start (cc := cX7_notStar) (maxL := 5) (ret := (some .int)) (by decide) rfl (Nat.le_of_ble_eq_true rfl) ?_
  intro p e s m below meth c hx hb hr hlocks hml hts hown hG hP ls hl
  have hK := hG.1
  have hl : lv_has ls 5 [(0, .ref (a 0)), (1, .int (iI x)), (2, .int (iI y)), (3, .int (iI z))] := hl
  have hinX7 : ∀ w ∈ u_ws RX7 TX7 19, w ∈ wsX7_notStar := by decide +kernel
  have hm0 := hts (.constant RX7 86 (100000)) (by decide +kernel)
  have hm1 := hts (.constant RX7 87 (359999)) (by decide +kernel)
  have hm2 := hts (.fieldLink RX7 7 "ArcPlateModel" "m" "[I") (by decide +kernel)
  have h12 := inv_S12 hI
  refine lv_iload_n hx hb dX7_notStar_0 rfl (lv_at hl 1 rfl) ?_
  refine k_iconst hx hb dX7_notStar_1 ?_
  refine k_ldc (z := 100000) hx hb hown hm0 (by decide +kernel) dX7_notStar_2 ?_
  refine k_roS (As := [.int (iI x), .int (iI 1), .int (iI 100000)]) (rest := []) ⟨hx, hb, hml, hown, hts⟩ (c_X7_in l D x 1 100000 (by omega) (by omega) (by omega)) gX7_notStar_X7_in rfl ⟨rfl, rfl⟩ 3 rfl (by decide +kernel) ⟨Nat.le_of_ble_eq_true rfl, Nat.le_of_ble_eq_true rfl⟩ kGT_ok trivial (fun k q h => by simp at h) hl.1 rfl (Nat.le_of_ble_eq_true rfl) ⟨Nat.le_of_ble_eq_true rfl, Nat.le_of_ble_eq_true rfl⟩ dX7_notStar_4 (fun r_1 hr_1 => ?_)
  have hr_1 : ((1 ≤ x ∧ x ≤ 100000) ∧ r_1 = 1) ∨ (¬ (1 ≤ x ∧ x ≤ 100000) ∧ r_1 = 0) := hr_1
  rcases hr_1 with ⟨c_2, hr_1⟩ | ⟨c_2, hr_1⟩ <;> subst hr_1
  · skip
    refine k_if_eq (tgt := 34) hx hb dX7_notStar_7 (by decide) (by omega) (fun c_3 => ?_) (fun c_3 => ?_)
    · exfalso; omega
    · skip
      refine lv_iload_n hx hb dX7_notStar_10 rfl (lv_at hl 2 rfl) ?_
      refine k_iconst hx hb dX7_notStar_11 ?_
      refine k_ldc (z := 359999) hx hb hown hm1 (by decide +kernel) dX7_notStar_12 ?_
      refine k_roS (As := [.int (iI y), .int (iI 0), .int (iI 359999)]) (rest := []) ⟨hx, hb, hml, hown, hts⟩ (c_X7_in l D y 0 359999 (by omega) (by omega) (by omega)) gX7_notStar_X7_in rfl ⟨rfl, rfl⟩ 3 rfl (by decide +kernel) ⟨Nat.le_of_ble_eq_true rfl, Nat.le_of_ble_eq_true rfl⟩ kGT_ok trivial (fun k q h => by simp at h) hl.1 rfl (Nat.le_of_ble_eq_true rfl) ⟨Nat.le_of_ble_eq_true rfl, Nat.le_of_ble_eq_true rfl⟩ dX7_notStar_14 (fun r_4 hr_4 => ?_)
      have hr_4 : ((0 ≤ y ∧ y ≤ 359999) ∧ r_4 = 1) ∨ (¬ (0 ≤ y ∧ y ≤ 359999) ∧ r_4 = 0) := hr_4
      rcases hr_4 with ⟨c_5, hr_4⟩ | ⟨c_5, hr_4⟩ <;> subst hr_4
      · skip
        refine k_if_eq (tgt := 34) hx hb dX7_notStar_17 (by decide) (by omega) (fun c_6 => ?_) (fun c_6 => ?_)
        · exfalso; omega
        · skip
          refine lv_iload_n hx hb dX7_notStar_20 rfl (lv_at hl 3 rfl) ?_
          refine k_iconst hx hb dX7_notStar_21 ?_
          refine k_bipush hx hb dX7_notStar_22 (by decide +kernel) ?_
          refine k_roS (As := [.int (iI z), .int (iI 0), .int (iI 9)]) (rest := []) ⟨hx, hb, hml, hown, hts⟩ (c_X7_in l D z 0 9 (by omega) (by omega) (by omega)) gX7_notStar_X7_in rfl ⟨rfl, rfl⟩ 3 rfl (by decide +kernel) ⟨Nat.le_of_ble_eq_true rfl, Nat.le_of_ble_eq_true rfl⟩ kGT_ok trivial (fun k q h => by simp at h) hl.1 rfl (Nat.le_of_ble_eq_true rfl) ⟨Nat.le_of_ble_eq_true rfl, Nat.le_of_ble_eq_true rfl⟩ dX7_notStar_24 (fun r_7 hr_7 => ?_)
          have hr_7 : ((0 ≤ z ∧ z ≤ 9) ∧ r_7 = 1) ∨ (¬ (0 ≤ z ∧ z ≤ 9) ∧ r_7 = 0) := hr_7
          rcases hr_7 with ⟨c_8, hr_7⟩ | ⟨c_8, hr_7⟩ <;> subst hr_7
          · skip
            refine k_if_eq (tgt := 34) hx hb dX7_notStar_27 (by decide) (by omega) (fun c_9 => ?_) (fun c_9 => ?_)
            · exfalso; omega
            · skip
              refine k_iconst hx hb dX7_notStar_30 ?_
              refine lv_goto (tgt := 35) hx hb dX7_notStar_31 (by decide) ?_
              refine lv_istore (lv' := [(4, .int (iI 1)), (0, .ref (a 0)), (1, .int (iI x)), (2, .int (iI y)), (3, .int (iI z))]) hx hb dX7_notStar_35 hl (by decide) rfl (fun ls hl => ?_)
              refine lv_iload hx hb dX7_notStar_37 (lv_at hl 0 rfl) ?_
              refine k_if_ne (tgt := 46) hx hb dX7_notStar_39 (by decide) (by omega) (fun c_10 => ?_) (fun c_10 => ?_)
              · skip
                refine lv_aload_n hx hb dX7_notStar_46 rfl (lv_at hl 1 rfl) ?_
                refine va_get (D := D) (ci := 6) (v := .ref (a 1)) (C := RX7) (T := TX7) (N := 19) hx hb hts hinX7 hown hK hP 0 rfl rfl 0 (by decide) hm2 (fun _ h9 => h9) rfl dX7_notStar_47 ?_
                refine k_bipush hx hb dX7_notStar_50 (by decide +kernel) ?_
                refine k_iald hx hb hK hP 1 0 rfl rfl (i := 13) (by omega) dX7_notStar_52 ?_
                refine k_bipush hx hb dX7_notStar_53 (by decide +kernel) ?_
                refine k_icmp_ne (tgt := 62) hx hb dX7_notStar_55 (by decide) (by omega) (by omega) (fun c_11 => ?_) (fun c_11 => ?_)
                · skip
                  refine k_iconst hx hb dX7_notStar_62 ?_
                  exact W.iret (v := iI 0) hx hb hr (fun t9 ht _ => ⟨0, rfl, (by unfold starOK; omega : ((starOK x y z ∧ R 1 13 < 12) ∧ (0 : Int) = 0) ∨ ((¬ starOK x y z) ∧ (0 : Int) = 2) ∨ ((starOK x y z ∧ R 1 13 = 12) ∧ (0 : Int) = 3)), ht⟩) (fun _ h => nomatch h) dX7_notStar_63 hlocks
                · skip
                  refine k_iconst hx hb dX7_notStar_58 ?_
                  refine lv_goto (tgt := 63) hx hb dX7_notStar_59 (by decide) ?_
                  exact W.iret (v := iI 3) hx hb hr (fun t9 ht _ => ⟨3, rfl, (by unfold starOK; omega : ((starOK x y z ∧ R 1 13 < 12) ∧ (3 : Int) = 0) ∨ ((¬ starOK x y z) ∧ (3 : Int) = 2) ∨ ((starOK x y z ∧ R 1 13 = 12) ∧ (3 : Int) = 3)), ht⟩) (fun _ h => nomatch h) dX7_notStar_63 hlocks
              · exfalso; omega
          · skip
            refine k_if_eq (tgt := 34) hx hb dX7_notStar_27 (by decide) (by omega) (fun c_12 => ?_) (fun c_12 => ?_)
            · skip
              refine k_iconst hx hb dX7_notStar_34 ?_
              refine lv_istore (lv' := [(4, .int (iI 0)), (0, .ref (a 0)), (1, .int (iI x)), (2, .int (iI y)), (3, .int (iI z))]) hx hb dX7_notStar_35 hl (by decide) rfl (fun ls hl => ?_)
              refine lv_iload hx hb dX7_notStar_37 (lv_at hl 0 rfl) ?_
              refine k_if_ne (tgt := 46) hx hb dX7_notStar_39 (by decide) (by omega) (fun c_13 => ?_) (fun c_13 => ?_)
              · exfalso; omega
              · skip
                refine k_iconst hx hb dX7_notStar_42 ?_
                refine lv_goto (tgt := 63) hx hb dX7_notStar_43 (by decide) ?_
                exact W.iret (v := iI 2) hx hb hr (fun t9 ht _ => ⟨2, rfl, (by unfold starOK; omega : ((starOK x y z ∧ R 1 13 < 12) ∧ (2 : Int) = 0) ∨ ((¬ starOK x y z) ∧ (2 : Int) = 2) ∨ ((starOK x y z ∧ R 1 13 = 12) ∧ (2 : Int) = 3)), ht⟩) (fun _ h => nomatch h) dX7_notStar_63 hlocks
            · exfalso; omega
      · skip
        refine k_if_eq (tgt := 34) hx hb dX7_notStar_17 (by decide) (by omega) (fun c_14 => ?_) (fun c_14 => ?_)
        · skip
          refine k_iconst hx hb dX7_notStar_34 ?_
          refine lv_istore (lv' := [(4, .int (iI 0)), (0, .ref (a 0)), (1, .int (iI x)), (2, .int (iI y)), (3, .int (iI z))]) hx hb dX7_notStar_35 hl (by decide) rfl (fun ls hl => ?_)
          refine lv_iload hx hb dX7_notStar_37 (lv_at hl 0 rfl) ?_
          refine k_if_ne (tgt := 46) hx hb dX7_notStar_39 (by decide) (by omega) (fun c_15 => ?_) (fun c_15 => ?_)
          · exfalso; omega
          · skip
            refine k_iconst hx hb dX7_notStar_42 ?_
            refine lv_goto (tgt := 63) hx hb dX7_notStar_43 (by decide) ?_
            exact W.iret (v := iI 2) hx hb hr (fun t9 ht _ => ⟨2, rfl, (by unfold starOK; omega : ((starOK x y z ∧ R 1 13 < 12) ∧ (2 : Int) = 0) ∨ ((¬ starOK x y z) ∧ (2 : Int) = 2) ∨ ((starOK x y z ∧ R 1 13 = 12) ∧ (2 : Int) = 3)), ht⟩) (fun _ h => nomatch h) dX7_notStar_63 hlocks
        · exfalso; omega
  · skip
    refine k_if_eq (tgt := 34) hx hb dX7_notStar_7 (by decide) (by omega) (fun c_16 => ?_) (fun c_16 => ?_)
    · skip
      refine k_iconst hx hb dX7_notStar_34 ?_
      refine lv_istore (lv' := [(4, .int (iI 0)), (0, .ref (a 0)), (1, .int (iI x)), (2, .int (iI y)), (3, .int (iI z))]) hx hb dX7_notStar_35 hl (by decide) rfl (fun ls hl => ?_)
      refine lv_iload hx hb dX7_notStar_37 (lv_at hl 0 rfl) ?_
      refine k_if_ne (tgt := 46) hx hb dX7_notStar_39 (by decide) (by omega) (fun c_17 => ?_) (fun c_17 => ?_)
      · exfalso; omega
      · skip
        refine k_iconst hx hb dX7_notStar_42 ?_
        refine lv_goto (tgt := 63) hx hb dX7_notStar_43 (by decide) ?_
        exact W.iret (v := iI 2) hx hb hr (fun t9 ht _ => ⟨2, rfl, (by unfold starOK; omega : ((starOK x y z ∧ R 1 13 < 12) ∧ (2 : Int) = 0) ∨ ((¬ starOK x y z) ∧ (2 : Int) = 2) ∨ ((starOK x y z ∧ R 1 13 = 12) ∧ (2 : Int) = 3)), ht⟩) (fun _ h => nomatch h) dX7_notStar_63 hlocks
    · exfalso; omega
set_option maxHeartbeats 4000000 in
set_option maxRecDepth 100000 in
theorem c_X7_placeX (l : Launch) (D : va_G) (cy : Nat → ClassId) (a : Nat → Nat) (R : Nat → Int → Int) (t q : Int) (hI : Inv (R 1)) (h0 : 0 ≤ t) (h1 : t < R 1 12) (h2 : 0 ≤ q) (h3 : q < pts (R 1) t) : Met l yX7_placeX wsX7_placeX { frames := 2, cells := 0, slots := 0, locals := 43 } (kPre (GG D cy) D (rfW cy a R) ([.ref (a 0), .int (iI t), .int (iI q)] : List Value)) (kRO (fun r => r = plX (R 1) t q)) 0 0 (fun _ => False) := by
  refine kRO_start (cc := cX7_placeX) (maxL := 3) (ret := (some .int)) (by decide) rfl (Nat.le_of_ble_eq_true rfl) ?_
  intro p e s m below meth c hx hb hr hlocks hml hts hown hG hP ls hl
  have hK := hG.1
  have hl : lv_has ls 3 [(0, .ref (a 0)), (1, .int (iI t)), (2, .int (iI q))] := hl
  have hinX7 : ∀ w ∈ u_ws RX7 TX7 19, w ∈ wsX7_placeX := by decide +kernel
  have hm0 := hts (.fieldLink RX7 7 "ArcPlateModel" "m" "[I") (by decide +kernel)
  have h12 := inv_S12 hI
  have hp := inv_pts hI h0 h1
  have hu := inv_uf hI h0 h1 h2 h3
  have hf := inv_frm hI h0 h1 h2 h3
  refine lv_aload_n hx hb dX7_placeX_0 rfl (lv_at hl 0 rfl) ?_
  refine va_get (D := D) (ci := 6) (v := .ref (a 1)) (C := RX7) (T := TX7) (N := 19) hx hb hts hinX7 hown hK hP 0 rfl rfl 0 (by decide) hm0 (fun _ h9 => h9) rfl dX7_placeX_1 ?_
  refine lv_iload_n hx hb dX7_placeX_4 rfl (lv_at hl 1 rfl) ?_
  refine lv_iload_n hx hb dX7_placeX_5 rfl (lv_at hl 2 rfl) ?_
  refine k_roS (As := [.int (iI t), .int (iI q)]) (rest := [.ref (a 1)]) ⟨hx, hb, hml, hown, hts⟩ (c_X7_cellOf l D t q ) gX7_placeX_X7_cellOf rfl ⟨rfl, rfl⟩ 2 rfl (by decide +kernel) ⟨Nat.le_of_ble_eq_true rfl, Nat.le_of_ble_eq_true rfl⟩ kGT_ok trivial (fun k q h => by simp at h) hl.1 rfl (Nat.le_of_ble_eq_true rfl) ⟨Nat.le_of_ble_eq_true rfl, Nat.le_of_ble_eq_true rfl⟩ dX7_placeX_6 (fun r_1 hr_1 => ?_)
  have hr_1 : r_1 = cel t q := hr_1
  subst hr_1
  have := cel_eq t q
  refine k_iconst hx hb dX7_placeX_9 ?_
  refine k_iadd hx hb dX7_placeX_10 ?_
  refine k_iald hx hb hK hP 1 0 rfl rfl (i := (cel t q) + 1) (by omega) dX7_placeX_11 ?_
  refine lv_aload_n hx hb dX7_placeX_12 rfl (lv_at hl 0 rfl) ?_
  refine va_get (D := D) (ci := 6) (v := .ref (a 1)) (C := RX7) (T := TX7) (N := 19) hx hb hts hinX7 hown hK hP 0 rfl rfl 0 (by decide) hm0 (fun _ h9 => h9) rfl dX7_placeX_13 ?_
  refine k_iconst hx hb dX7_placeX_16 ?_
  refine k_iald hx hb hK hP 1 0 rfl rfl (i := 1) (by omega) dX7_placeX_17 ?_
  refine lv_aload_n hx hb dX7_placeX_18 rfl (lv_at hl 0 rfl) ?_
  refine lv_iload_n hx hb dX7_placeX_19 rfl (lv_at hl 1 rfl) ?_
  refine lv_iload_n hx hb dX7_placeX_20 rfl (lv_at hl 2 rfl) ?_
  refine k_roV (As := [.int (iI t), .int (iI q)]) (rest := [.int (iI (R 1 1)), .int (iI (R 1 ((cel t q) + 1)))]) ⟨hx, hb, hml, hown, hts⟩ (c_X7_frameOf l D cy a R t q (by omega) (by omega) (by omega) (by omega)) gX7_placeX_X7_frameOf rfl ⟨rfl, rfl⟩ 2 rfl (by decide +kernel) ⟨Nat.le_of_ble_eq_true rfl, Nat.le_of_ble_eq_true rfl⟩ (GG_ok D cy) hG hP (va_recv hK hP (ci := 6) (q0 := 0) rfl rfl) hl.1 rfl (Nat.le_of_ble_eq_true rfl) ⟨Nat.le_of_ble_eq_true rfl, Nat.le_of_ble_eq_true rfl⟩ dX7_placeX_21 (fun r_2 hr_2 => ?_)
  have hr_2 : r_2 = frm (R 1) t q := hr_2
  subst hr_2
  refine k_imul hx hb dX7_placeX_24 ?_
  refine k_bipush hx hb dX7_placeX_25 (by decide +kernel) ?_
  refine k_roS (As := [.int (iI ((R 1 1) * (frm (R 1) t q))), .int (iI 100)]) (rest := [.int (iI (R 1 ((cel t q) + 1)))]) ⟨hx, hb, hml, hown, hts⟩ (c_X7_floor l D ((R 1 1) * (frm (R 1) t q)) 100 (by omega) (by omega)) gX7_placeX_X7_floor rfl ⟨rfl, rfl⟩ 2 rfl (by decide +kernel) ⟨Nat.le_of_ble_eq_true rfl, Nat.le_of_ble_eq_true rfl⟩ kGT_ok trivial (fun k q h => by simp at h) hl.1 rfl (Nat.le_of_ble_eq_true rfl) ⟨Nat.le_of_ble_eq_true rfl, Nat.le_of_ble_eq_true rfl⟩ dX7_placeX_27 (fun r_3 hr_3 => ?_)
  have hr_3 : r_3 = ((R 1 1) * (frm (R 1) t q)) / 100 := hr_3
  subst hr_3
  refine k_isub hx hb dX7_placeX_30 ?_
  exact W.iret (v := iI ((R 1 ((cel t q) + 1)) - (((R 1 1) * (frm (R 1) t q)) / 100))) hx hb hr (fun t9 ht _ => ⟨((R 1 ((cel t q) + 1)) - (((R 1 1) * (frm (R 1) t q)) / 100)), rfl, (by first | rfl | omega : ((R 1 ((cel t q) + 1)) - (((R 1 1) * (frm (R 1) t q)) / 100) : Int) = plX (R 1) t q), ht⟩) (fun _ h => nomatch h) dX7_placeX_31 hlocks
set_option maxHeartbeats 4000000 in
set_option maxRecDepth 100000 in
theorem c_X7_placeY (l : Launch) (D : va_G) (cy : Nat → ClassId) (a : Nat → Nat) (R : Nat → Int → Int) (t q : Int) (hI : Inv (R 1)) (h0 : 0 ≤ t) (h1 : t < R 1 12) (h2 : 0 ≤ q) (h3 : q < pts (R 1) t) : Met l yX7_placeY wsX7_placeY { frames := 2, cells := 0, slots := 0, locals := 43 } (kPre (GG D cy) D (rfW cy a R) ([.ref (a 0), .int (iI t), .int (iI q)] : List Value)) (kRO (fun r => r = plY (R 1) t q)) 0 0 (fun _ => False) := by
  refine kRO_start (cc := cX7_placeY) (maxL := 3) (ret := (some .int)) (by decide) rfl (Nat.le_of_ble_eq_true rfl) ?_
  intro p e s m below meth c hx hb hr hlocks hml hts hown hG hP ls hl
  have hK := hG.1
  have hl : lv_has ls 3 [(0, .ref (a 0)), (1, .int (iI t)), (2, .int (iI q))] := hl
  have hinX7 : ∀ w ∈ u_ws RX7 TX7 19, w ∈ wsX7_placeY := by decide +kernel
  have hm0 := hts (.fieldLink RX7 7 "ArcPlateModel" "m" "[I") (by decide +kernel)
  have h12 := inv_S12 hI
  have hp := inv_pts hI h0 h1
  have hu := inv_uf hI h0 h1 h2 h3
  have hf := inv_frm hI h0 h1 h2 h3
  refine lv_aload_n hx hb dX7_placeY_0 rfl (lv_at hl 0 rfl) ?_
  refine va_get (D := D) (ci := 6) (v := .ref (a 1)) (C := RX7) (T := TX7) (N := 19) hx hb hts hinX7 hown hK hP 0 rfl rfl 0 (by decide) hm0 (fun _ h9 => h9) rfl dX7_placeY_1 ?_
  refine lv_iload_n hx hb dX7_placeY_4 rfl (lv_at hl 1 rfl) ?_
  refine lv_iload_n hx hb dX7_placeY_5 rfl (lv_at hl 2 rfl) ?_
  refine k_roS (As := [.int (iI t), .int (iI q)]) (rest := [.ref (a 1)]) ⟨hx, hb, hml, hown, hts⟩ (c_X7_cellOf l D t q ) gX7_placeY_X7_cellOf rfl ⟨rfl, rfl⟩ 2 rfl (by decide +kernel) ⟨Nat.le_of_ble_eq_true rfl, Nat.le_of_ble_eq_true rfl⟩ kGT_ok trivial (fun k q h => by simp at h) hl.1 rfl (Nat.le_of_ble_eq_true rfl) ⟨Nat.le_of_ble_eq_true rfl, Nat.le_of_ble_eq_true rfl⟩ dX7_placeY_6 (fun r_1 hr_1 => ?_)
  have hr_1 : r_1 = cel t q := hr_1
  subst hr_1
  have := cel_eq t q
  refine k_iconst hx hb dX7_placeY_9 ?_
  refine k_iadd hx hb dX7_placeY_10 ?_
  refine k_iald hx hb hK hP 1 0 rfl rfl (i := (cel t q) + 2) (by omega) dX7_placeY_11 ?_
  refine lv_aload_n hx hb dX7_placeY_12 rfl (lv_at hl 0 rfl) ?_
  refine va_get (D := D) (ci := 6) (v := .ref (a 1)) (C := RX7) (T := TX7) (N := 19) hx hb hts hinX7 hown hK hP 0 rfl rfl 0 (by decide) hm0 (fun _ h9 => h9) rfl dX7_placeY_13 ?_
  refine k_iconst hx hb dX7_placeY_16 ?_
  refine k_iald hx hb hK hP 1 0 rfl rfl (i := 2) (by omega) dX7_placeY_17 ?_
  refine lv_aload_n hx hb dX7_placeY_18 rfl (lv_at hl 0 rfl) ?_
  refine lv_iload_n hx hb dX7_placeY_19 rfl (lv_at hl 1 rfl) ?_
  refine lv_iload_n hx hb dX7_placeY_20 rfl (lv_at hl 2 rfl) ?_
  refine k_roV (As := [.int (iI t), .int (iI q)]) (rest := [.int (iI (R 1 2)), .int (iI (R 1 ((cel t q) + 2)))]) ⟨hx, hb, hml, hown, hts⟩ (c_X7_frameOf l D cy a R t q (by omega) (by omega) (by omega) (by omega)) gX7_placeY_X7_frameOf rfl ⟨rfl, rfl⟩ 2 rfl (by decide +kernel) ⟨Nat.le_of_ble_eq_true rfl, Nat.le_of_ble_eq_true rfl⟩ (GG_ok D cy) hG hP (va_recv hK hP (ci := 6) (q0 := 0) rfl rfl) hl.1 rfl (Nat.le_of_ble_eq_true rfl) ⟨Nat.le_of_ble_eq_true rfl, Nat.le_of_ble_eq_true rfl⟩ dX7_placeY_21 (fun r_2 hr_2 => ?_)
  have hr_2 : r_2 = frm (R 1) t q := hr_2
  subst hr_2
  refine k_imul hx hb dX7_placeY_24 ?_
  refine k_bipush hx hb dX7_placeY_25 (by decide +kernel) ?_
  refine k_roS (As := [.int (iI ((R 1 2) * (frm (R 1) t q))), .int (iI 100)]) (rest := [.int (iI (R 1 ((cel t q) + 2)))]) ⟨hx, hb, hml, hown, hts⟩ (c_X7_floor l D ((R 1 2) * (frm (R 1) t q)) 100 (by omega) (by omega)) gX7_placeY_X7_floor rfl ⟨rfl, rfl⟩ 2 rfl (by decide +kernel) ⟨Nat.le_of_ble_eq_true rfl, Nat.le_of_ble_eq_true rfl⟩ kGT_ok trivial (fun k q h => by simp at h) hl.1 rfl (Nat.le_of_ble_eq_true rfl) ⟨Nat.le_of_ble_eq_true rfl, Nat.le_of_ble_eq_true rfl⟩ dX7_placeY_27 (fun r_3 hr_3 => ?_)
  have hr_3 : r_3 = ((R 1 2) * (frm (R 1) t q)) / 100 := hr_3
  subst hr_3
  refine k_isub hx hb dX7_placeY_30 ?_
  exact W.iret (v := iI ((R 1 ((cel t q) + 2)) - (((R 1 2) * (frm (R 1) t q)) / 100))) hx hb hr (fun t9 ht _ => ⟨((R 1 ((cel t q) + 2)) - (((R 1 2) * (frm (R 1) t q)) / 100)), rfl, (by first | rfl | omega : ((R 1 ((cel t q) + 2)) - (((R 1 2) * (frm (R 1) t q)) / 100) : Int) = plY (R 1) t q), ht⟩) (fun _ h => nomatch h) dX7_placeY_31 hlocks
set_option maxHeartbeats 4000000 in
set_option maxRecDepth 100000 in
theorem c_X7_radiusOf (l : Launch) (D : va_G) (cy : Nat → ClassId) (a : Nat → Nat) (R : Nat → Int → Int) (t q : Int) (hI : Inv (R 1)) (h0 : 0 ≤ t) (h1 : t < R 1 12) (h2 : 0 ≤ q) (h3 : q < pts (R 1) t) : Met l yX7_radiusOf wsX7_radiusOf { frames := 3, cells := 0, slots := 0, locals := 65 } (kPre (GG D cy) D (rfW cy a R) ([.ref (a 0), .int (iI t), .int (iI q)] : List Value)) (kRO (fun r => r = rdOf (R 1) t q)) 0 0 (fun _ => False) := by
  refine kRO_start (cc := cX7_radiusOf) (maxL := 5) (ret := (some .int)) (by decide) rfl (Nat.le_of_ble_eq_true rfl) ?_
  intro p e s m below meth c hx hb hr hlocks hml hts hown hG hP ls hl
  have hK := hG.1
  have hl : lv_has ls 5 [(0, .ref (a 0)), (1, .int (iI t)), (2, .int (iI q))] := hl
  have hinX7 : ∀ w ∈ u_ws RX7 TX7 19, w ∈ wsX7_radiusOf := by decide +kernel
  have hm0 := hts (.fieldLink RX7 7 "ArcPlateModel" "m" "[I") (by decide +kernel)
  have h12 := inv_S12 hI
  have hp := inv_pts hI h0 h1
  have hd := inv_dxy hI h0 h1 h2 h3
  have hs := sum_sq hd.1 hd.2
  refine lv_aload_n hx hb dX7_radiusOf_0 rfl (lv_at hl 0 rfl) ?_
  refine lv_iload_n hx hb dX7_radiusOf_1 rfl (lv_at hl 1 rfl) ?_
  refine lv_iload_n hx hb dX7_radiusOf_2 rfl (lv_at hl 2 rfl) ?_
  refine k_roV (As := [.int (iI t), .int (iI q)]) (rest := []) ⟨hx, hb, hml, hown, hts⟩ (c_X7_placeX l D cy a R t q hI (by omega) (by omega) (by omega) (by omega)) gX7_radiusOf_X7_placeX rfl ⟨rfl, rfl⟩ 2 rfl (by decide +kernel) ⟨Nat.le_of_ble_eq_true rfl, Nat.le_of_ble_eq_true rfl⟩ (GG_ok D cy) hG hP (va_recv hK hP (ci := 6) (q0 := 0) rfl rfl) hl.1 rfl (Nat.le_of_ble_eq_true rfl) ⟨Nat.le_of_ble_eq_true rfl, Nat.le_of_ble_eq_true rfl⟩ dX7_radiusOf_3 (fun r_1 hr_1 => ?_)
  have hr_1 : r_1 = plX (R 1) t q := hr_1
  subst hr_1
  refine lv_aload_n hx hb dX7_radiusOf_6 rfl (lv_at hl 0 rfl) ?_
  refine va_get (D := D) (ci := 6) (v := .ref (a 1)) (C := RX7) (T := TX7) (N := 19) hx hb hts hinX7 hown hK hP 0 rfl rfl 0 (by decide) hm0 (fun _ h9 => h9) rfl dX7_radiusOf_7 ?_
  refine k_bipush hx hb dX7_radiusOf_10 (by decide +kernel) ?_
  refine k_iald hx hb hK hP 1 0 rfl rfl (i := 10) (by omega) dX7_radiusOf_12 ?_
  refine k_isub hx hb dX7_radiusOf_13 ?_
  refine lv_istore_n (lv' := [(3, .int (iI ((plX (R 1) t q) - (R 1 10)))), (0, .ref (a 0)), (1, .int (iI t)), (2, .int (iI q))]) hx hb dX7_radiusOf_14 rfl hl (by decide) rfl (fun ls hl => ?_)
  refine lv_aload_n hx hb dX7_radiusOf_15 rfl (lv_at hl 1 rfl) ?_
  refine lv_iload_n hx hb dX7_radiusOf_16 rfl (lv_at hl 2 rfl) ?_
  refine lv_iload_n hx hb dX7_radiusOf_17 rfl (lv_at hl 3 rfl) ?_
  refine k_roV (As := [.int (iI t), .int (iI q)]) (rest := []) ⟨hx, hb, hml, hown, hts⟩ (c_X7_placeY l D cy a R t q hI (by omega) (by omega) (by omega) (by omega)) gX7_radiusOf_X7_placeY rfl ⟨rfl, rfl⟩ 2 rfl (by decide +kernel) ⟨Nat.le_of_ble_eq_true rfl, Nat.le_of_ble_eq_true rfl⟩ (GG_ok D cy) hG hP (va_recv hK hP (ci := 6) (q0 := 0) rfl rfl) hl.1 rfl (Nat.le_of_ble_eq_true rfl) ⟨Nat.le_of_ble_eq_true rfl, Nat.le_of_ble_eq_true rfl⟩ dX7_radiusOf_18 (fun r_2 hr_2 => ?_)
  have hr_2 : r_2 = plY (R 1) t q := hr_2
  subst hr_2
  refine lv_aload_n hx hb dX7_radiusOf_21 rfl (lv_at hl 1 rfl) ?_
  refine va_get (D := D) (ci := 6) (v := .ref (a 1)) (C := RX7) (T := TX7) (N := 19) hx hb hts hinX7 hown hK hP 0 rfl rfl 0 (by decide) hm0 (fun _ h9 => h9) rfl dX7_radiusOf_22 ?_
  refine k_bipush hx hb dX7_radiusOf_25 (by decide +kernel) ?_
  refine k_iald hx hb hK hP 1 0 rfl rfl (i := 11) (by omega) dX7_radiusOf_27 ?_
  refine k_isub hx hb dX7_radiusOf_28 ?_
  refine lv_istore (lv' := [(4, .int (iI ((plY (R 1) t q) - (R 1 11)))), (3, .int (iI ((plX (R 1) t q) - (R 1 10)))), (0, .ref (a 0)), (1, .int (iI t)), (2, .int (iI q))]) hx hb dX7_radiusOf_29 hl (by decide) rfl (fun ls hl => ?_)
  refine lv_iload_n hx hb dX7_radiusOf_31 rfl (lv_at hl 1 rfl) ?_
  refine lv_iload_n hx hb dX7_radiusOf_32 rfl (lv_at hl 1 rfl) ?_
  refine k_imul hx hb dX7_radiusOf_33 ?_
  refine lv_iload hx hb dX7_radiusOf_34 (lv_at hl 0 rfl) ?_
  refine lv_iload hx hb dX7_radiusOf_36 (lv_at hl 0 rfl) ?_
  refine k_imul hx hb dX7_radiusOf_38 ?_
  refine k_iadd hx hb dX7_radiusOf_39 ?_
  refine k_roS (As := [.int (iI ((((plX (R 1) t q) - (R 1 10)) * ((plX (R 1) t q) - (R 1 10))) + (((plY (R 1) t q) - (R 1 11)) * ((plY (R 1) t q) - (R 1 11)))))]) (rest := []) ⟨hx, hb, hml, hown, hts⟩ (c_X7_root l D ((((plX (R 1) t q) - (R 1 10)) * ((plX (R 1) t q) - (R 1 10))) + (((plY (R 1) t q) - (R 1 11)) * ((plY (R 1) t q) - (R 1 11)))) (by omega)) gX7_radiusOf_X7_root rfl ⟨rfl, rfl⟩ 1 rfl (by decide +kernel) ⟨Nat.le_of_ble_eq_true rfl, Nat.le_of_ble_eq_true rfl⟩ kGT_ok trivial (fun k q h => by simp at h) hl.1 rfl (Nat.le_of_ble_eq_true rfl) ⟨Nat.le_of_ble_eq_true rfl, Nat.le_of_ble_eq_true rfl⟩ dX7_radiusOf_40 (fun r_3 hr_3 => ?_)
  have hr_3 : r_3 = rt ((((plX (R 1) t q) - (R 1 10)) * ((plX (R 1) t q) - (R 1 10))) + (((plY (R 1) t q) - (R 1 11)) * ((plY (R 1) t q) - (R 1 11)))) := hr_3
  subst hr_3
  exact W.iret (v := iI (rt ((((plX (R 1) t q) - (R 1 10)) * ((plX (R 1) t q) - (R 1 10))) + (((plY (R 1) t q) - (R 1 11)) * ((plY (R 1) t q) - (R 1 11)))))) hx hb hr (fun t9 ht _ => ⟨(rt ((((plX (R 1) t q) - (R 1 10)) * ((plX (R 1) t q) - (R 1 10))) + (((plY (R 1) t q) - (R 1 11)) * ((plY (R 1) t q) - (R 1 11))))), rfl, (by first | rfl | omega : (rt ((((plX (R 1) t q) - (R 1 10)) * ((plX (R 1) t q) - (R 1 10))) + (((plY (R 1) t q) - (R 1 11)) * ((plY (R 1) t q) - (R 1 11)))) : Int) = rdOf (R 1) t q), ht⟩) (fun _ h => nomatch h) dX7_radiusOf_43 hlocks
set_option maxHeartbeats 4000000 in
set_option maxRecDepth 100000 in
theorem c_X7_radius (l : Launch) (D : va_G) (cy : Nat → ClassId) (a : Nat → Nat) (R : Nat → Int → Int) (t : Int) (hI : Inv (R 1)) (h0 : 0 ≤ t) (h1 : t < R 1 12) (hp0 : 0 < pts (R 1) t) : Met l yX7_radius wsX7_radius { frames := 4, cells := 0, slots := 0, locals := 89 } (kPre (GG D cy) D (rfW cy a R) ([.ref (a 0), .int (iI t)] : List Value)) (kRO (fun r => r = rdT (R 1) t)) 0 0 (fun _ => False) := by
  refine kRO_start (cc := cX7_radius) (maxL := 4) (ret := (some .int)) (by decide) rfl (Nat.le_of_ble_eq_true rfl) ?_
  intro p e s m below meth c hx hb hr hlocks hml hts hown hG hP ls hl
  have hK := hG.1
  have hl : lv_has ls 4 [(0, .ref (a 0)), (1, .int (iI t))] := hl
  have h12 := inv_S12 hI
  have hp := inv_pts hI h0 h1
  refine k_iconst hx hb dX7_radius_0 ?_
  refine lv_istore_n (lv' := [(2, .int (iI 0)), (0, .ref (a 0)), (1, .int (iI t))]) hx hb dX7_radius_1 rfl hl (by decide) rfl (fun ls hl => ?_)
  refine k_iconst hx hb dX7_radius_2 ?_
  refine lv_istore_n (lv' := [(3, .int (iI 0)), (2, .int (iI 0)), (0, .ref (a 0)), (1, .int (iI t))]) hx hb dX7_radius_3 rfl hl (by decide) rfl (fun ls hl => ?_)
  have loop4 : ∀ (n_1 : Nat) (q : Int) (x2 : Int) (hi0 : 0 ≤ q) (hi1 : q ≤ pts (R 1) t) (hex2 : x2 = sumZ (rdOf (R 1) t) q) (hn : pts (R 1) t - q < (n_1 : Int)) (ls : Array Slot) (hl : lv_has ls 4 [(3, .int (iI q)), (2, .int (iI x2)), (0, .ref (a 0)), (1, .int (iI t))]), W p l e { frames := 4, cells := 0, slots := 0, locals := 89 } s m ([.ref (a 0), .int (iI t)] : List Value).toArray below meth c s.heap [] 0 0 (MQ below (kRO (fun r => r = rdT (R 1) t)) ([.ref (a 0), .int (iI t)] : List Value).toArray s 0 0 (fun _ => False)) (F0 m 4 ls []) := by
    intro n_1
    induction n_1 with
    | zero => intro q x2 hi0 hi1 hex2 hn ls hl; exfalso; omega
    | succ n_1 ih4 =>
      intro q x2 hi0 hi1 hex2 hn ls hl
      subst hex2
      have hs := inv_rdsum hI h0 h1 hi0 hi1
      refine lv_iload_n hx hb dX7_radius_4 rfl (lv_at hl 0 rfl) ?_
      refine lv_aload_n hx hb dX7_radius_5 rfl (lv_at hl 2 rfl) ?_
      refine lv_iload_n hx hb dX7_radius_6 rfl (lv_at hl 3 rfl) ?_
      refine k_roV (As := [.int (iI t)]) (rest := [.int (iI q)]) ⟨hx, hb, hml, hown, hts⟩ (c_X7_points l D cy a R t (by omega) (by omega)) gX7_radius_X7_points rfl ⟨rfl, rfl⟩ 1 rfl (by decide +kernel) ⟨Nat.le_of_ble_eq_true rfl, Nat.le_of_ble_eq_true rfl⟩ (GG_ok D cy) hG hP (va_recv hK hP (ci := 6) (q0 := 0) rfl rfl) hl.1 rfl (Nat.le_of_ble_eq_true rfl) ⟨Nat.le_of_ble_eq_true rfl, Nat.le_of_ble_eq_true rfl⟩ dX7_radius_7 (fun r_2 hr_2 => ?_)
      have hr_2 : r_2 = pts (R 1) t := hr_2
      subst hr_2
      refine k_icmp_ge (tgt := 28) hx hb dX7_radius_10 (by decide) (by omega) (by omega) (fun c_3 => ?_) (fun c_3 => ?_)
      · skip
        refine lv_iload_n hx hb dX7_radius_28 rfl (lv_at hl 1 rfl) ?_
        refine lv_aload_n hx hb dX7_radius_29 rfl (lv_at hl 2 rfl) ?_
        refine lv_iload_n hx hb dX7_radius_30 rfl (lv_at hl 3 rfl) ?_
        refine k_roV (As := [.int (iI t)]) (rest := [.int (iI (sumZ (rdOf (R 1) t) q))]) ⟨hx, hb, hml, hown, hts⟩ (c_X7_points l D cy a R t (by omega) (by omega)) gX7_radius_X7_points rfl ⟨rfl, rfl⟩ 1 rfl (by decide +kernel) ⟨Nat.le_of_ble_eq_true rfl, Nat.le_of_ble_eq_true rfl⟩ (GG_ok D cy) hG hP (va_recv hK hP (ci := 6) (q0 := 0) rfl rfl) hl.1 rfl (Nat.le_of_ble_eq_true rfl) ⟨Nat.le_of_ble_eq_true rfl, Nat.le_of_ble_eq_true rfl⟩ dX7_radius_31 (fun r_4 hr_4 => ?_)
        have hr_4 : r_4 = pts (R 1) t := hr_4
        subst hr_4
        refine k_idiv hx hb dX7_radius_34 (by omega) (by omega) ?_
        exact W.iret (v := iI ((sumZ (rdOf (R 1) t) q) / (pts (R 1) t))) hx hb hr (fun t9 ht _ => ⟨((sumZ (rdOf (R 1) t) q) / (pts (R 1) t)), rfl, (by have e9 : q = pts (R 1) t := (by omega); subst e9; rfl : ((sumZ (rdOf (R 1) t) q) / (pts (R 1) t) : Int) = rdT (R 1) t), ht⟩) (fun _ h => nomatch h) dX7_radius_35 hlocks
      · skip
        refine lv_iload_n hx hb dX7_radius_13 rfl (lv_at hl 1 rfl) ?_
        refine lv_aload_n hx hb dX7_radius_14 rfl (lv_at hl 2 rfl) ?_
        refine lv_iload_n hx hb dX7_radius_15 rfl (lv_at hl 3 rfl) ?_
        refine lv_iload_n hx hb dX7_radius_16 rfl (lv_at hl 0 rfl) ?_
        refine k_roV (As := [.int (iI t), .int (iI q)]) (rest := [.int (iI (sumZ (rdOf (R 1) t) q))]) ⟨hx, hb, hml, hown, hts⟩ (c_X7_radiusOf l D cy a R t q hI (by omega) (by omega) (by omega) (by omega)) gX7_radius_X7_radiusOf rfl ⟨rfl, rfl⟩ 2 rfl (by decide +kernel) ⟨Nat.le_of_ble_eq_true rfl, Nat.le_of_ble_eq_true rfl⟩ (GG_ok D cy) hG hP (va_recv hK hP (ci := 6) (q0 := 0) rfl rfl) hl.1 rfl (Nat.le_of_ble_eq_true rfl) ⟨Nat.le_of_ble_eq_true rfl, Nat.le_of_ble_eq_true rfl⟩ dX7_radius_17 (fun r_5 hr_5 => ?_)
        have hr_5 : r_5 = rdOf (R 1) t q := hr_5
        subst hr_5
        refine k_iadd hx hb dX7_radius_20 ?_
        refine lv_istore_n (lv' := [(2, .int (iI ((sumZ (rdOf (R 1) t) q) + (rdOf (R 1) t q)))), (3, .int (iI q)), (0, .ref (a 0)), (1, .int (iI t))]) hx hb dX7_radius_21 rfl hl (by decide) rfl (fun ls hl => ?_)
        refine lv_iinc (v := iI (q + 1)) (lv' := [(3, .int (iI (q + 1))), (2, .int (iI ((sumZ (rdOf (R 1) t) q) + (rdOf (R 1) t q)))), (0, .ref (a 0)), (1, .int (iI t))]) hx hb dX7_radius_22 hl (k := 1) rfl (iI_add _ _) (by decide) rfl (fun ls hl => ?_)
        refine lv_goto (tgt := 4) hx hb dX7_radius_25 (by decide) ?_
        exact ih4 (q + 1) ((sumZ (rdOf (R 1) t) q) + (rdOf (R 1) t q)) (by omega) (by omega) ((sumZ_s _ hi0).symm) (by omega) ls (lv_sub hl [0, 1, 2, 3] rfl)
  exact loop4 ((pts (R 1) t - 0 : Int) + 1).toNat 0 0 (by omega) (by omega) (rfl) (by omega) ls (lv_sub hl [0, 1, 2, 3] rfl)
set_option maxHeartbeats 4000000 in
set_option maxRecDepth 100000 in
theorem c_X7_spread (l : Launch) (D : va_G) (cy : Nat → ClassId) (a : Nat → Nat) (R : Nat → Int → Int) (t : Int) (hI : Inv (R 1)) (h0 : 0 ≤ t) (h1 : t < R 1 12) (hp0 : 0 < pts (R 1) t) : Met l yX7_spread wsX7_spread { frames := 4, cells := 0, slots := 0, locals := 89 } (kPre (GG D cy) D (rfW cy a R) ([.ref (a 0), .int (iI t)] : List Value)) (kRO (fun r => r = sprd (R 1) t)) 0 0 (fun _ => False) := by
  refine kRO_start (cc := cX7_spread) (maxL := 6) (ret := (some .int)) (by decide) rfl (Nat.le_of_ble_eq_true rfl) ?_
  intro p e s m below meth c hx hb hr hlocks hml hts hown hG hP ls hl
  have hK := hG.1
  have hl : lv_has ls 6 [(0, .ref (a 0)), (1, .int (iI t))] := hl
  have h12 := inv_S12 hI
  have hp := inv_pts hI h0 h1
  refine lv_aload_n hx hb dX7_spread_0 rfl (lv_at hl 0 rfl) ?_
  refine lv_iload_n hx hb dX7_spread_1 rfl (lv_at hl 1 rfl) ?_
  refine k_iconst hx hb dX7_spread_2 ?_
  refine k_roV (As := [.int (iI t), .int (iI 0)]) (rest := []) ⟨hx, hb, hml, hown, hts⟩ (c_X7_radiusOf l D cy a R t 0 hI (by omega) (by omega) (by omega) (by omega)) gX7_spread_X7_radiusOf rfl ⟨rfl, rfl⟩ 2 rfl (by decide +kernel) ⟨Nat.le_of_ble_eq_true rfl, Nat.le_of_ble_eq_true rfl⟩ (GG_ok D cy) hG hP (va_recv hK hP (ci := 6) (q0 := 0) rfl rfl) hl.1 rfl (Nat.le_of_ble_eq_true rfl) ⟨Nat.le_of_ble_eq_true rfl, Nat.le_of_ble_eq_true rfl⟩ dX7_spread_3 (fun r_1 hr_1 => ?_)
  have hr_1 : r_1 = rdOf (R 1) t 0 := hr_1
  subst hr_1
  refine lv_istore_n (lv' := [(2, .int (iI (rdOf (R 1) t 0))), (0, .ref (a 0)), (1, .int (iI t))]) hx hb dX7_spread_6 rfl hl (by decide) rfl (fun ls hl => ?_)
  refine lv_iload_n hx hb dX7_spread_7 rfl (lv_at hl 0 rfl) ?_
  refine lv_istore_n (lv' := [(3, .int (iI (rdOf (R 1) t 0))), (2, .int (iI (rdOf (R 1) t 0))), (0, .ref (a 0)), (1, .int (iI t))]) hx hb dX7_spread_8 rfl hl (by decide) rfl (fun ls hl => ?_)
  refine k_iconst hx hb dX7_spread_9 ?_
  refine lv_istore (lv' := [(4, .int (iI 1)), (3, .int (iI (rdOf (R 1) t 0))), (2, .int (iI (rdOf (R 1) t 0))), (0, .ref (a 0)), (1, .int (iI t))]) hx hb dX7_spread_10 hl (by decide) rfl (fun ls hl => ?_)
  have loop12 : ∀ (n_2 : Nat) (q : Int) (x3 : Int) (x2 : Int) (hi0 : 1 ≤ q) (hi1 : q ≤ pts (R 1) t) (hex3 : x3 = maxZ (rdOf (R 1) t) q) (hex2 : x2 = minZ (rdOf (R 1) t) q) (hn : pts (R 1) t - q < (n_2 : Int)) (ls : Array Slot) (hl : lv_has ls 6 [(4, .int (iI q)), (3, .int (iI x3)), (2, .int (iI x2)), (0, .ref (a 0)), (1, .int (iI t))]), W p l e { frames := 4, cells := 0, slots := 0, locals := 89 } s m ([.ref (a 0), .int (iI t)] : List Value).toArray below meth c s.heap [] 0 0 (MQ below (kRO (fun r => r = sprd (R 1) t)) ([.ref (a 0), .int (iI t)] : List Value).toArray s 0 0 (fun _ => False)) (F0 m 12 ls []) := by
    intro n_2
    induction n_2 with
    | zero => intro q x3 x2 hi0 hi1 hex3 hex2 hn ls hl; exfalso; omega
    | succ n_2 ih12 =>
      intro q x3 x2 hi0 hi1 hex3 hex2 hn ls hl
      subst hex3
      subst hex2
      have hb9 := minZ_bd (f := rdOf (R 1) t) (lo := 0) (hi := 9900) hi0 (fun k a b => inv_rd hI h0 h1 a (by omega))
      refine lv_iload hx hb dX7_spread_12 (lv_at hl 0 rfl) ?_
      refine lv_aload_n hx hb dX7_spread_14 rfl (lv_at hl 3 rfl) ?_
      refine lv_iload_n hx hb dX7_spread_15 rfl (lv_at hl 4 rfl) ?_
      refine k_roV (As := [.int (iI t)]) (rest := [.int (iI q)]) ⟨hx, hb, hml, hown, hts⟩ (c_X7_points l D cy a R t (by omega) (by omega)) gX7_spread_X7_points rfl ⟨rfl, rfl⟩ 1 rfl (by decide +kernel) ⟨Nat.le_of_ble_eq_true rfl, Nat.le_of_ble_eq_true rfl⟩ (GG_ok D cy) hG hP (va_recv hK hP (ci := 6) (q0 := 0) rfl rfl) hl.1 rfl (Nat.le_of_ble_eq_true rfl) ⟨Nat.le_of_ble_eq_true rfl, Nat.le_of_ble_eq_true rfl⟩ dX7_spread_16 (fun r_3 hr_3 => ?_)
      have hr_3 : r_3 = pts (R 1) t := hr_3
      subst hr_3
      refine k_icmp_ge (tgt := 63) hx hb dX7_spread_19 (by decide) (by omega) (by omega) (fun c_4 => ?_) (fun c_4 => ?_)
      · skip
        refine lv_iload_n hx hb dX7_spread_63 rfl (lv_at hl 1 rfl) ?_
        refine lv_iload_n hx hb dX7_spread_64 rfl (lv_at hl 2 rfl) ?_
        refine k_isub hx hb dX7_spread_65 ?_
        exact W.iret (v := iI ((maxZ (rdOf (R 1) t) q) - (minZ (rdOf (R 1) t) q))) hx hb hr (fun t9 ht _ => ⟨((maxZ (rdOf (R 1) t) q) - (minZ (rdOf (R 1) t) q)), rfl, (by have e9 : q = pts (R 1) t := (by omega); subst e9; rfl : ((maxZ (rdOf (R 1) t) q) - (minZ (rdOf (R 1) t) q) : Int) = sprd (R 1) t), ht⟩) (fun _ h => nomatch h) dX7_spread_66 hlocks
      · skip
        refine lv_aload_n hx hb dX7_spread_22 rfl (lv_at hl 3 rfl) ?_
        refine lv_iload_n hx hb dX7_spread_23 rfl (lv_at hl 4 rfl) ?_
        refine lv_iload hx hb dX7_spread_24 (lv_at hl 0 rfl) ?_
        refine k_roV (As := [.int (iI t), .int (iI q)]) (rest := []) ⟨hx, hb, hml, hown, hts⟩ (c_X7_radiusOf l D cy a R t q hI (by omega) (by omega) (by omega) (by omega)) gX7_spread_X7_radiusOf rfl ⟨rfl, rfl⟩ 2 rfl (by decide +kernel) ⟨Nat.le_of_ble_eq_true rfl, Nat.le_of_ble_eq_true rfl⟩ (GG_ok D cy) hG hP (va_recv hK hP (ci := 6) (q0 := 0) rfl rfl) hl.1 rfl (Nat.le_of_ble_eq_true rfl) ⟨Nat.le_of_ble_eq_true rfl, Nat.le_of_ble_eq_true rfl⟩ dX7_spread_26 (fun r_5 hr_5 => ?_)
        have hr_5 : r_5 = rdOf (R 1) t q := hr_5
        subst hr_5
        have hrd := inv_rd hI h0 h1 (p := q) (by omega) (by omega)
        refine lv_istore (lv' := [(5, .int (iI (rdOf (R 1) t q))), (4, .int (iI q)), (3, .int (iI (maxZ (rdOf (R 1) t) q))), (2, .int (iI (minZ (rdOf (R 1) t) q))), (0, .ref (a 0)), (1, .int (iI t))]) hx hb dX7_spread_29 hl (by decide) rfl (fun ls hl => ?_)
        refine lv_iload hx hb dX7_spread_31 (lv_at hl 0 rfl) ?_
        refine lv_iload_n hx hb dX7_spread_33 rfl (lv_at hl 3 rfl) ?_
        refine k_icmp_ge (tgt := 42) hx hb dX7_spread_34 (by decide) (by omega) (by omega) (fun c_6 => ?_) (fun c_6 => ?_)
        · skip
          refine lv_iload_n hx hb dX7_spread_42 rfl (lv_at hl 3 rfl) ?_
          refine lv_istore_n (lv' := [(2, .int (iI (minZ (rdOf (R 1) t) q))), (5, .int (iI (rdOf (R 1) t q))), (4, .int (iI q)), (3, .int (iI (maxZ (rdOf (R 1) t) q))), (0, .ref (a 0)), (1, .int (iI t))]) hx hb dX7_spread_43 rfl hl (by decide) rfl (fun ls hl => ?_)
          refine lv_iload hx hb dX7_spread_44 (lv_at hl 1 rfl) ?_
          refine lv_iload_n hx hb dX7_spread_46 rfl (lv_at hl 3 rfl) ?_
          refine k_icmp_le (tgt := 55) hx hb dX7_spread_47 (by decide) (by omega) (by omega) (fun c_7 => ?_) (fun c_7 => ?_)
          · skip
            refine lv_iload_n hx hb dX7_spread_55 rfl (lv_at hl 3 rfl) ?_
            refine lv_istore_n (lv' := [(3, .int (iI (maxZ (rdOf (R 1) t) q))), (2, .int (iI (minZ (rdOf (R 1) t) q))), (5, .int (iI (rdOf (R 1) t q))), (4, .int (iI q)), (0, .ref (a 0)), (1, .int (iI t))]) hx hb dX7_spread_56 rfl hl (by decide) rfl (fun ls hl => ?_)
            refine lv_iinc (v := iI (q + 1)) (lv' := [(4, .int (iI (q + 1))), (3, .int (iI (maxZ (rdOf (R 1) t) q))), (2, .int (iI (minZ (rdOf (R 1) t) q))), (5, .int (iI (rdOf (R 1) t q))), (0, .ref (a 0)), (1, .int (iI t))]) hx hb dX7_spread_57 hl (k := 3) rfl (iI_add _ _) (by decide) rfl (fun ls hl => ?_)
            refine lv_goto (tgt := 12) hx hb dX7_spread_60 (by decide) ?_
            exact ih12 (q + 1) (maxZ (rdOf (R 1) t) q) (minZ (rdOf (R 1) t) q) (by omega) (by omega) (by rw [maxZ_s _ hi0]; omega) (by rw [minZ_s _ hi0]; omega) (by omega) ls (lv_sub hl [0, 1, 2, 4, 5] rfl)
          · skip
            refine lv_iload hx hb dX7_spread_50 (lv_at hl 1 rfl) ?_
            refine lv_goto (tgt := 56) hx hb dX7_spread_52 (by decide) ?_
            refine lv_istore_n (lv' := [(3, .int (iI (rdOf (R 1) t q))), (2, .int (iI (minZ (rdOf (R 1) t) q))), (5, .int (iI (rdOf (R 1) t q))), (4, .int (iI q)), (0, .ref (a 0)), (1, .int (iI t))]) hx hb dX7_spread_56 rfl hl (by decide) rfl (fun ls hl => ?_)
            refine lv_iinc (v := iI (q + 1)) (lv' := [(4, .int (iI (q + 1))), (3, .int (iI (rdOf (R 1) t q))), (2, .int (iI (minZ (rdOf (R 1) t) q))), (5, .int (iI (rdOf (R 1) t q))), (0, .ref (a 0)), (1, .int (iI t))]) hx hb dX7_spread_57 hl (k := 3) rfl (iI_add _ _) (by decide) rfl (fun ls hl => ?_)
            refine lv_goto (tgt := 12) hx hb dX7_spread_60 (by decide) ?_
            exact ih12 (q + 1) (rdOf (R 1) t q) (minZ (rdOf (R 1) t) q) (by omega) (by omega) (by rw [maxZ_s _ hi0]; omega) (by rw [minZ_s _ hi0]; omega) (by omega) ls (lv_sub hl [0, 1, 2, 4, 5] rfl)
        · skip
          refine lv_iload hx hb dX7_spread_37 (lv_at hl 0 rfl) ?_
          refine lv_goto (tgt := 43) hx hb dX7_spread_39 (by decide) ?_
          refine lv_istore_n (lv' := [(2, .int (iI (rdOf (R 1) t q))), (5, .int (iI (rdOf (R 1) t q))), (4, .int (iI q)), (3, .int (iI (maxZ (rdOf (R 1) t) q))), (0, .ref (a 0)), (1, .int (iI t))]) hx hb dX7_spread_43 rfl hl (by decide) rfl (fun ls hl => ?_)
          refine lv_iload hx hb dX7_spread_44 (lv_at hl 1 rfl) ?_
          refine lv_iload_n hx hb dX7_spread_46 rfl (lv_at hl 3 rfl) ?_
          refine k_icmp_le (tgt := 55) hx hb dX7_spread_47 (by decide) (by omega) (by omega) (fun c_8 => ?_) (fun c_8 => ?_)
          · skip
            refine lv_iload_n hx hb dX7_spread_55 rfl (lv_at hl 3 rfl) ?_
            refine lv_istore_n (lv' := [(3, .int (iI (maxZ (rdOf (R 1) t) q))), (2, .int (iI (rdOf (R 1) t q))), (5, .int (iI (rdOf (R 1) t q))), (4, .int (iI q)), (0, .ref (a 0)), (1, .int (iI t))]) hx hb dX7_spread_56 rfl hl (by decide) rfl (fun ls hl => ?_)
            refine lv_iinc (v := iI (q + 1)) (lv' := [(4, .int (iI (q + 1))), (3, .int (iI (maxZ (rdOf (R 1) t) q))), (2, .int (iI (rdOf (R 1) t q))), (5, .int (iI (rdOf (R 1) t q))), (0, .ref (a 0)), (1, .int (iI t))]) hx hb dX7_spread_57 hl (k := 3) rfl (iI_add _ _) (by decide) rfl (fun ls hl => ?_)
            refine lv_goto (tgt := 12) hx hb dX7_spread_60 (by decide) ?_
            exact ih12 (q + 1) (maxZ (rdOf (R 1) t) q) (rdOf (R 1) t q) (by omega) (by omega) (by rw [maxZ_s _ hi0]; omega) (by rw [minZ_s _ hi0]; omega) (by omega) ls (lv_sub hl [0, 1, 2, 4, 5] rfl)
          · skip
            refine lv_iload hx hb dX7_spread_50 (lv_at hl 1 rfl) ?_
            refine lv_goto (tgt := 56) hx hb dX7_spread_52 (by decide) ?_
            refine lv_istore_n (lv' := [(3, .int (iI (rdOf (R 1) t q))), (2, .int (iI (rdOf (R 1) t q))), (5, .int (iI (rdOf (R 1) t q))), (4, .int (iI q)), (0, .ref (a 0)), (1, .int (iI t))]) hx hb dX7_spread_56 rfl hl (by decide) rfl (fun ls hl => ?_)
            refine lv_iinc (v := iI (q + 1)) (lv' := [(4, .int (iI (q + 1))), (3, .int (iI (rdOf (R 1) t q))), (2, .int (iI (rdOf (R 1) t q))), (5, .int (iI (rdOf (R 1) t q))), (0, .ref (a 0)), (1, .int (iI t))]) hx hb dX7_spread_57 hl (k := 3) rfl (iI_add _ _) (by decide) rfl (fun ls hl => ?_)
            refine lv_goto (tgt := 12) hx hb dX7_spread_60 (by decide) ?_
            exact ih12 (q + 1) (rdOf (R 1) t q) (rdOf (R 1) t q) (by omega) (by omega) (by rw [maxZ_s _ hi0]; omega) (by rw [minZ_s _ hi0]; omega) (by omega) ls (lv_sub hl [0, 1, 2, 4, 5] rfl)
  exact loop12 ((pts (R 1) t - 1 : Int) + 1).toNat 1 (rdOf (R 1) t 0) (rdOf (R 1) t 0) (by omega) (by omega) (rfl) (rfl) (by omega) ls (lv_sub hl [0, 1, 2, 3, 4] rfl)
set_option maxHeartbeats 4000000 in
set_option maxRecDepth 100000 in
theorem c_X7_plateCost (l : Launch) (D : va_G) (cy : Nat → ClassId) (a : Nat → Nat) (R : Nat → Int → Int)  (hI : Inv (R 1)) : Met l yX7_plateCost wsX7_plateCost { frames := 5, cells := 0, slots := 0, locals := 114 } (kPre (GG D cy) D (rfW cy a R) ([.ref (a 0)] : List Value)) (kRO (fun r => r = pcost (R 1))) 0 0 (fun _ => False) := by
  refine kRO_start (cc := cX7_plateCost) (maxL := 3) (ret := (some .int)) (by decide) rfl (Nat.le_of_ble_eq_true rfl) ?_
  intro p e s m below meth c hx hb hr hlocks hml hts hown hG hP ls hl
  have hK := hG.1
  have hl : lv_has ls 3 [(0, .ref (a 0))] := hl
  have hinX7 : ∀ w ∈ u_ws RX7 TX7 19, w ∈ wsX7_plateCost := by decide +kernel
  have hm0 := hts (.fieldLink RX7 7 "ArcPlateModel" "m" "[I") (by decide +kernel)
  have h12 := inv_S12 hI
  refine k_iconst hx hb dX7_plateCost_0 ?_
  refine lv_istore_n (lv' := [(1, .int (iI 0)), (0, .ref (a 0))]) hx hb dX7_plateCost_1 rfl hl (by decide) rfl (fun ls hl => ?_)
  refine k_iconst hx hb dX7_plateCost_2 ?_
  refine lv_istore_n (lv' := [(2, .int (iI 0)), (1, .int (iI 0)), (0, .ref (a 0))]) hx hb dX7_plateCost_3 rfl hl (by decide) rfl (fun ls hl => ?_)
  have loop4 : ∀ (n_1 : Nat) (t : Int) (x1 : Int) (hi0 : 0 ≤ t) (hi1 : t ≤ R 1 12) (hex1 : x1 = sumZ (fun t => if 1 < pts (R 1) t then sprd (R 1) t else 0) t) (hn : R 1 12 - t < (n_1 : Int)) (ls : Array Slot) (hl : lv_has ls 3 [(2, .int (iI t)), (1, .int (iI x1)), (0, .ref (a 0))]), W p l e { frames := 5, cells := 0, slots := 0, locals := 114 } s m ([.ref (a 0)] : List Value).toArray below meth c s.heap [] 0 0 (MQ below (kRO (fun r => r = pcost (R 1))) ([.ref (a 0)] : List Value).toArray s 0 0 (fun _ => False)) (F0 m 4 ls []) := by
    intro n_1
    induction n_1 with
    | zero => intro t x1 hi0 hi1 hex1 hn ls hl; exfalso; omega
    | succ n_1 ih4 =>
      intro t x1 hi0 hi1 hex1 hn ls hl
      subst hex1
      refine lv_iload_n hx hb dX7_plateCost_4 rfl (lv_at hl 0 rfl) ?_
      refine lv_aload_n hx hb dX7_plateCost_5 rfl (lv_at hl 2 rfl) ?_
      refine va_get (D := D) (ci := 6) (v := .ref (a 1)) (C := RX7) (T := TX7) (N := 19) hx hb hts hinX7 hown hK hP 0 rfl rfl 0 (by decide) hm0 (fun _ h9 => h9) rfl dX7_plateCost_6 ?_
      refine k_bipush hx hb dX7_plateCost_9 (by decide +kernel) ?_
      refine k_iald hx hb hK hP 1 0 rfl rfl (i := 12) (by omega) dX7_plateCost_11 ?_
      refine k_icmp_ge (tgt := 42) hx hb dX7_plateCost_12 (by decide) (by omega) (by omega) (fun c_2 => ?_) (fun c_2 => ?_)
      · skip
        refine lv_iload_n hx hb dX7_plateCost_42 rfl (lv_at hl 1 rfl) ?_
        exact W.iret (v := iI (sumZ (fun t => if 1 < pts (R 1) t then sprd (R 1) t else 0) t)) hx hb hr (fun t9 ht _ => ⟨(sumZ (fun t => if 1 < pts (R 1) t then sprd (R 1) t else 0) t), rfl, (by have e9 : t = R 1 12 := (by omega); subst e9; rfl : (sumZ (fun t => if 1 < pts (R 1) t then sprd (R 1) t else 0) t : Int) = pcost (R 1)), ht⟩) (fun _ h => nomatch h) dX7_plateCost_43 hlocks
      · skip
        refine lv_iload_n hx hb dX7_plateCost_15 rfl (lv_at hl 1 rfl) ?_
        refine lv_aload_n hx hb dX7_plateCost_16 rfl (lv_at hl 2 rfl) ?_
        refine lv_iload_n hx hb dX7_plateCost_17 rfl (lv_at hl 0 rfl) ?_
        refine k_roV (As := [.int (iI t)]) (rest := [.int (iI (sumZ (fun t => if 1 < pts (R 1) t then sprd (R 1) t else 0) t))]) ⟨hx, hb, hml, hown, hts⟩ (c_X7_points l D cy a R t (by omega) (by omega)) gX7_plateCost_X7_points rfl ⟨rfl, rfl⟩ 1 rfl (by decide +kernel) ⟨Nat.le_of_ble_eq_true rfl, Nat.le_of_ble_eq_true rfl⟩ (GG_ok D cy) hG hP (va_recv hK hP (ci := 6) (q0 := 0) rfl rfl) hl.1 rfl (Nat.le_of_ble_eq_true rfl) ⟨Nat.le_of_ble_eq_true rfl, Nat.le_of_ble_eq_true rfl⟩ dX7_plateCost_18 (fun r_3 hr_3 => ?_)
        have hr_3 : r_3 = pts (R 1) t := hr_3
        subst hr_3
        have hp := inv_pts hI hi0 (by omega)
        refine k_iconst hx hb dX7_plateCost_21 ?_
        refine k_icmp_le (tgt := 33) hx hb dX7_plateCost_22 (by decide) (by omega) (by omega) (fun c_4 => ?_) (fun c_4 => ?_)
        · skip
          refine k_iconst hx hb dX7_plateCost_33 ?_
          refine k_iadd hx hb dX7_plateCost_34 ?_
          refine lv_istore_n (lv' := [(1, .int (iI ((sumZ (fun t => if 1 < pts (R 1) t then sprd (R 1) t else 0) t) + 0))), (2, .int (iI t)), (0, .ref (a 0))]) hx hb dX7_plateCost_35 rfl hl (by decide) rfl (fun ls hl => ?_)
          refine lv_iinc (v := iI (t + 1)) (lv' := [(2, .int (iI (t + 1))), (1, .int (iI ((sumZ (fun t => if 1 < pts (R 1) t then sprd (R 1) t else 0) t) + 0))), (0, .ref (a 0))]) hx hb dX7_plateCost_36 hl (k := 1) rfl (iI_add _ _) (by decide) rfl (fun ls hl => ?_)
          refine lv_goto (tgt := 4) hx hb dX7_plateCost_39 (by decide) ?_
          exact ih4 (t + 1) ((sumZ (fun t => if 1 < pts (R 1) t then sprd (R 1) t else 0) t) + 0) (by omega) (by omega) (by rw [sumZ_s _ hi0]; (try dsimp only); split <;> omega) (by omega) ls (lv_sub hl [0, 1, 2] rfl)
        · skip
          refine lv_aload_n hx hb dX7_plateCost_25 rfl (lv_at hl 2 rfl) ?_
          refine lv_iload_n hx hb dX7_plateCost_26 rfl (lv_at hl 0 rfl) ?_
          refine k_roV (As := [.int (iI t)]) (rest := [.int (iI (sumZ (fun t => if 1 < pts (R 1) t then sprd (R 1) t else 0) t))]) ⟨hx, hb, hml, hown, hts⟩ (c_X7_spread l D cy a R t hI (by omega) (by omega) (by omega)) gX7_plateCost_X7_spread rfl ⟨rfl, rfl⟩ 1 rfl (by decide +kernel) ⟨Nat.le_of_ble_eq_true rfl, Nat.le_of_ble_eq_true rfl⟩ (GG_ok D cy) hG hP (va_recv hK hP (ci := 6) (q0 := 0) rfl rfl) hl.1 rfl (Nat.le_of_ble_eq_true rfl) ⟨Nat.le_of_ble_eq_true rfl, Nat.le_of_ble_eq_true rfl⟩ dX7_plateCost_27 (fun r_5 hr_5 => ?_)
          have hr_5 : r_5 = sprd (R 1) t := hr_5
          subst hr_5
          refine lv_goto (tgt := 34) hx hb dX7_plateCost_30 (by decide) ?_
          refine k_iadd hx hb dX7_plateCost_34 ?_
          refine lv_istore_n (lv' := [(1, .int (iI ((sumZ (fun t => if 1 < pts (R 1) t then sprd (R 1) t else 0) t) + (sprd (R 1) t)))), (2, .int (iI t)), (0, .ref (a 0))]) hx hb dX7_plateCost_35 rfl hl (by decide) rfl (fun ls hl => ?_)
          refine lv_iinc (v := iI (t + 1)) (lv' := [(2, .int (iI (t + 1))), (1, .int (iI ((sumZ (fun t => if 1 < pts (R 1) t then sprd (R 1) t else 0) t) + (sprd (R 1) t)))), (0, .ref (a 0))]) hx hb dX7_plateCost_36 hl (k := 1) rfl (iI_add _ _) (by decide) rfl (fun ls hl => ?_)
          refine lv_goto (tgt := 4) hx hb dX7_plateCost_39 (by decide) ?_
          exact ih4 (t + 1) ((sumZ (fun t => if 1 < pts (R 1) t then sprd (R 1) t else 0) t) + (sprd (R 1) t)) (by omega) (by omega) (by rw [sumZ_s _ hi0]; (try dsimp only); split <;> omega) (by omega) ls (lv_sub hl [0, 1, 2] rfl)
  exact loop4 ((R 1 12 - 0 : Int) + 1).toNat 0 0 (by omega) (by omega) (rfl) (by omega) ls (lv_sub hl [0, 1, 2] rfl)
set_option maxHeartbeats 4000000 in
set_option maxRecDepth 100000 in
theorem c_X7_angleOf (l : Launch) (D : va_G) (cy : Nat → ClassId) (a : Nat → Nat) (R : Nat → Int → Int) (t q : Int) (hI : Inv (R 1)) (h0 : 0 ≤ t) (h1 : t < R 1 12) (h2 : 0 ≤ q) (h3 : q < pts (R 1) t) : Met l yX7_angleOf wsX7_angleOf { frames := 3, cells := 0, slots := 0, locals := 65 } (kPre (GG D cy) D (rfW cy a R) ([.ref (a 0), .int (iI t), .int (iI q)] : List Value)) (kRO (fun r => r = angOf (R 1) t q)) 0 0 (fun _ => False) := by
  refine kRO_start (cc := cX7_angleOf) (maxL := 3) (ret := (some .int)) (by decide) rfl (Nat.le_of_ble_eq_true rfl) ?_
  intro p e s m below meth c hx hb hr hlocks hml hts hown hG hP ls hl
  have hK := hG.1
  have hl : lv_has ls 3 [(0, .ref (a 0)), (1, .int (iI t)), (2, .int (iI q))] := hl
  have hinX7 : ∀ w ∈ u_ws RX7 TX7 19, w ∈ wsX7_angleOf := by decide +kernel
  have hm0 := hts (.fieldLink RX7 7 "ArcPlateModel" "m" "[I") (by decide +kernel)
  have h12 := inv_S12 hI
  have hp := inv_pts hI h0 h1
  have hd := inv_dxy hI h0 h1 h2 h3
  refine lv_aload_n hx hb dX7_angleOf_0 rfl (lv_at hl 0 rfl) ?_
  refine lv_iload_n hx hb dX7_angleOf_1 rfl (lv_at hl 1 rfl) ?_
  refine lv_iload_n hx hb dX7_angleOf_2 rfl (lv_at hl 2 rfl) ?_
  refine k_roV (As := [.int (iI t), .int (iI q)]) (rest := []) ⟨hx, hb, hml, hown, hts⟩ (c_X7_placeX l D cy a R t q hI (by omega) (by omega) (by omega) (by omega)) gX7_angleOf_X7_placeX rfl ⟨rfl, rfl⟩ 2 rfl (by decide +kernel) ⟨Nat.le_of_ble_eq_true rfl, Nat.le_of_ble_eq_true rfl⟩ (GG_ok D cy) hG hP (va_recv hK hP (ci := 6) (q0 := 0) rfl rfl) hl.1 rfl (Nat.le_of_ble_eq_true rfl) ⟨Nat.le_of_ble_eq_true rfl, Nat.le_of_ble_eq_true rfl⟩ dX7_angleOf_3 (fun r_1 hr_1 => ?_)
  have hr_1 : r_1 = plX (R 1) t q := hr_1
  subst hr_1
  refine lv_aload_n hx hb dX7_angleOf_6 rfl (lv_at hl 0 rfl) ?_
  refine va_get (D := D) (ci := 6) (v := .ref (a 1)) (C := RX7) (T := TX7) (N := 19) hx hb hts hinX7 hown hK hP 0 rfl rfl 0 (by decide) hm0 (fun _ h9 => h9) rfl dX7_angleOf_7 ?_
  refine k_bipush hx hb dX7_angleOf_10 (by decide +kernel) ?_
  refine k_iald hx hb hK hP 1 0 rfl rfl (i := 10) (by omega) dX7_angleOf_12 ?_
  refine k_isub hx hb dX7_angleOf_13 ?_
  refine lv_aload_n hx hb dX7_angleOf_14 rfl (lv_at hl 0 rfl) ?_
  refine lv_iload_n hx hb dX7_angleOf_15 rfl (lv_at hl 1 rfl) ?_
  refine lv_iload_n hx hb dX7_angleOf_16 rfl (lv_at hl 2 rfl) ?_
  refine k_roV (As := [.int (iI t), .int (iI q)]) (rest := [.int (iI ((plX (R 1) t q) - (R 1 10)))]) ⟨hx, hb, hml, hown, hts⟩ (c_X7_placeY l D cy a R t q hI (by omega) (by omega) (by omega) (by omega)) gX7_angleOf_X7_placeY rfl ⟨rfl, rfl⟩ 2 rfl (by decide +kernel) ⟨Nat.le_of_ble_eq_true rfl, Nat.le_of_ble_eq_true rfl⟩ (GG_ok D cy) hG hP (va_recv hK hP (ci := 6) (q0 := 0) rfl rfl) hl.1 rfl (Nat.le_of_ble_eq_true rfl) ⟨Nat.le_of_ble_eq_true rfl, Nat.le_of_ble_eq_true rfl⟩ dX7_angleOf_17 (fun r_2 hr_2 => ?_)
  have hr_2 : r_2 = plY (R 1) t q := hr_2
  subst hr_2
  refine lv_aload_n hx hb dX7_angleOf_20 rfl (lv_at hl 0 rfl) ?_
  refine va_get (D := D) (ci := 6) (v := .ref (a 1)) (C := RX7) (T := TX7) (N := 19) hx hb hts hinX7 hown hK hP 0 rfl rfl 0 (by decide) hm0 (fun _ h9 => h9) rfl dX7_angleOf_21 ?_
  refine k_bipush hx hb dX7_angleOf_24 (by decide +kernel) ?_
  refine k_iald hx hb hK hP 1 0 rfl rfl (i := 11) (by omega) dX7_angleOf_26 ?_
  refine k_isub hx hb dX7_angleOf_27 ?_
  refine k_roS (As := [.int (iI ((plX (R 1) t q) - (R 1 10))), .int (iI ((plY (R 1) t q) - (R 1 11)))]) (rest := []) ⟨hx, hb, hml, hown, hts⟩ (c_X7_angle l D ((plX (R 1) t q) - (R 1 10)) ((plY (R 1) t q) - (R 1 11)) (by omega) (by omega)) gX7_angleOf_X7_angle rfl ⟨rfl, rfl⟩ 2 rfl (by decide +kernel) ⟨Nat.le_of_ble_eq_true rfl, Nat.le_of_ble_eq_true rfl⟩ kGT_ok trivial (fun k q h => by simp at h) hl.1 rfl (Nat.le_of_ble_eq_true rfl) ⟨Nat.le_of_ble_eq_true rfl, Nat.le_of_ble_eq_true rfl⟩ dX7_angleOf_28 (fun r_3 hr_3 => ?_)
  have hr_3 : r_3 = angF ((plX (R 1) t q) - (R 1 10)) ((plY (R 1) t q) - (R 1 11)) := hr_3
  subst hr_3
  exact W.iret (v := iI (angF ((plX (R 1) t q) - (R 1 10)) ((plY (R 1) t q) - (R 1 11)))) hx hb hr (fun t9 ht _ => ⟨(angF ((plX (R 1) t q) - (R 1 10)) ((plY (R 1) t q) - (R 1 11))), rfl, (by first | rfl | omega : (angF ((plX (R 1) t q) - (R 1 10)) ((plY (R 1) t q) - (R 1 11)) : Int) = angOf (R 1) t q), ht⟩) (fun _ h => nomatch h) dX7_angleOf_31 hlocks
set_option maxHeartbeats 4000000 in
set_option maxRecDepth 100000 in
theorem c_X7_sweep (l : Launch) (D : va_G) (cy : Nat → ClassId) (a : Nat → Nat) (R : Nat → Int → Int) (t : Int) (hI : Inv (R 1)) (h0 : 0 ≤ t) (h1 : t < R 1 12) (hp0 : 0 < pts (R 1) t) : Met l yX7_sweep wsX7_sweep { frames := 4, cells := 0, slots := 0, locals := 87 } (kPre (GG D cy) D (rfW cy a R) ([.ref (a 0), .int (iI t)] : List Value)) (kRO (fun r => r = swp (R 1) t)) 0 0 (fun _ => False) := by
  refine kRO_start (cc := cX7_sweep) (maxL := 4) (ret := (some .int)) (by decide) rfl (Nat.le_of_ble_eq_true rfl) ?_
  intro p e s m below meth c hx hb hr hlocks hml hts hown hG hP ls hl
  have hK := hG.1
  have hl : lv_has ls 4 [(0, .ref (a 0)), (1, .int (iI t))] := hl
  have h12 := inv_S12 hI
  have hp := inv_pts hI h0 h1
  refine k_iconst hx hb dX7_sweep_0 ?_
  refine lv_istore_n (lv' := [(2, .int (iI 0)), (0, .ref (a 0)), (1, .int (iI t))]) hx hb dX7_sweep_1 rfl hl (by decide) rfl (fun ls hl => ?_)
  refine k_iconst hx hb dX7_sweep_2 ?_
  refine lv_istore_n (lv' := [(3, .int (iI 1)), (2, .int (iI 0)), (0, .ref (a 0)), (1, .int (iI t))]) hx hb dX7_sweep_3 rfl hl (by decide) rfl (fun ls hl => ?_)
  have loop4 : ∀ (n_1 : Nat) (q : Int) (x2 : Int) (hi0 : 1 ≤ q) (hi1 : q ≤ pts (R 1) t) (hex2 : x2 = sumZ (fun k => turnI (angOf (R 1) t k) (angOf (R 1) t (k + 1))) (q - 1)) (hn : pts (R 1) t - q < (n_1 : Int)) (ls : Array Slot) (hl : lv_has ls 4 [(3, .int (iI q)), (2, .int (iI x2)), (0, .ref (a 0)), (1, .int (iI t))]), W p l e { frames := 4, cells := 0, slots := 0, locals := 87 } s m ([.ref (a 0), .int (iI t)] : List Value).toArray below meth c s.heap [] 0 0 (MQ below (kRO (fun r => r = swp (R 1) t)) ([.ref (a 0), .int (iI t)] : List Value).toArray s 0 0 (fun _ => False)) (F0 m 4 ls []) := by
    intro n_1
    induction n_1 with
    | zero => intro q x2 hi0 hi1 hex2 hn ls hl; exfalso; omega
    | succ n_1 ih4 =>
      intro q x2 hi0 hi1 hex2 hn ls hl
      subst hex2
      refine lv_iload_n hx hb dX7_sweep_4 rfl (lv_at hl 0 rfl) ?_
      refine lv_aload_n hx hb dX7_sweep_5 rfl (lv_at hl 2 rfl) ?_
      refine lv_iload_n hx hb dX7_sweep_6 rfl (lv_at hl 3 rfl) ?_
      refine k_roV (As := [.int (iI t)]) (rest := [.int (iI q)]) ⟨hx, hb, hml, hown, hts⟩ (c_X7_points l D cy a R t (by omega) (by omega)) gX7_sweep_X7_points rfl ⟨rfl, rfl⟩ 1 rfl (by decide +kernel) ⟨Nat.le_of_ble_eq_true rfl, Nat.le_of_ble_eq_true rfl⟩ (GG_ok D cy) hG hP (va_recv hK hP (ci := 6) (q0 := 0) rfl rfl) hl.1 rfl (Nat.le_of_ble_eq_true rfl) ⟨Nat.le_of_ble_eq_true rfl, Nat.le_of_ble_eq_true rfl⟩ dX7_sweep_7 (fun r_2 hr_2 => ?_)
      have hr_2 : r_2 = pts (R 1) t := hr_2
      subst hr_2
      refine k_icmp_ge (tgt := 39) hx hb dX7_sweep_10 (by decide) (by omega) (by omega) (fun c_3 => ?_) (fun c_3 => ?_)
      · skip
        refine lv_iload_n hx hb dX7_sweep_39 rfl (lv_at hl 1 rfl) ?_
        exact W.iret (v := iI (sumZ (fun k => turnI (angOf (R 1) t k) (angOf (R 1) t (k + 1))) (q - 1))) hx hb hr (fun t9 ht _ => ⟨(sumZ (fun k => turnI (angOf (R 1) t k) (angOf (R 1) t (k + 1))) (q - 1)), rfl, (by have e9 : q = pts (R 1) t := (by omega); subst e9; rfl : (sumZ (fun k => turnI (angOf (R 1) t k) (angOf (R 1) t (k + 1))) (q - 1) : Int) = swp (R 1) t), ht⟩) (fun _ h => nomatch h) dX7_sweep_40 hlocks
      · skip
        refine lv_iload_n hx hb dX7_sweep_13 rfl (lv_at hl 1 rfl) ?_
        refine lv_aload_n hx hb dX7_sweep_14 rfl (lv_at hl 2 rfl) ?_
        refine lv_iload_n hx hb dX7_sweep_15 rfl (lv_at hl 3 rfl) ?_
        refine lv_iload_n hx hb dX7_sweep_16 rfl (lv_at hl 0 rfl) ?_
        refine k_iconst hx hb dX7_sweep_17 ?_
        refine k_isub hx hb dX7_sweep_18 ?_
        refine k_roV (As := [.int (iI t), .int (iI (q - 1))]) (rest := [.int (iI (sumZ (fun k => turnI (angOf (R 1) t k) (angOf (R 1) t (k + 1))) (q - 1)))]) ⟨hx, hb, hml, hown, hts⟩ (c_X7_angleOf l D cy a R t (q - 1) hI (by omega) (by omega) (by omega) (by omega)) gX7_sweep_X7_angleOf rfl ⟨rfl, rfl⟩ 2 rfl (by decide +kernel) ⟨Nat.le_of_ble_eq_true rfl, Nat.le_of_ble_eq_true rfl⟩ (GG_ok D cy) hG hP (va_recv hK hP (ci := 6) (q0 := 0) rfl rfl) hl.1 rfl (Nat.le_of_ble_eq_true rfl) ⟨Nat.le_of_ble_eq_true rfl, Nat.le_of_ble_eq_true rfl⟩ dX7_sweep_19 (fun r_4 hr_4 => ?_)
        have hr_4 : r_4 = angOf (R 1) t (q - 1) := hr_4
        subst hr_4
        have ha1 := inv_ang (M := R 1) t (q - 1)
        refine lv_aload_n hx hb dX7_sweep_22 rfl (lv_at hl 2 rfl) ?_
        refine lv_iload_n hx hb dX7_sweep_23 rfl (lv_at hl 3 rfl) ?_
        refine lv_iload_n hx hb dX7_sweep_24 rfl (lv_at hl 0 rfl) ?_
        refine k_roV (As := [.int (iI t), .int (iI q)]) (rest := [.int (iI (angOf (R 1) t (q - 1))), .int (iI (sumZ (fun k => turnI (angOf (R 1) t k) (angOf (R 1) t (k + 1))) (q - 1)))]) ⟨hx, hb, hml, hown, hts⟩ (c_X7_angleOf l D cy a R t q hI (by omega) (by omega) (by omega) (by omega)) gX7_sweep_X7_angleOf rfl ⟨rfl, rfl⟩ 2 rfl (by decide +kernel) ⟨Nat.le_of_ble_eq_true rfl, Nat.le_of_ble_eq_true rfl⟩ (GG_ok D cy) hG hP (va_recv hK hP (ci := 6) (q0 := 0) rfl rfl) hl.1 rfl (Nat.le_of_ble_eq_true rfl) ⟨Nat.le_of_ble_eq_true rfl, Nat.le_of_ble_eq_true rfl⟩ dX7_sweep_25 (fun r_5 hr_5 => ?_)
        have hr_5 : r_5 = angOf (R 1) t q := hr_5
        subst hr_5
        have ha2 := inv_ang (M := R 1) t q
        refine k_roS (As := [.int (iI (angOf (R 1) t (q - 1))), .int (iI (angOf (R 1) t q))]) (rest := [.int (iI (sumZ (fun k => turnI (angOf (R 1) t k) (angOf (R 1) t (k + 1))) (q - 1)))]) ⟨hx, hb, hml, hown, hts⟩ (c_X7_turn l D (angOf (R 1) t (q - 1)) (angOf (R 1) t q) (by omega) (by omega)) gX7_sweep_X7_turn rfl ⟨rfl, rfl⟩ 2 rfl (by decide +kernel) ⟨Nat.le_of_ble_eq_true rfl, Nat.le_of_ble_eq_true rfl⟩ kGT_ok trivial (fun k q h => by simp at h) hl.1 rfl (Nat.le_of_ble_eq_true rfl) ⟨Nat.le_of_ble_eq_true rfl, Nat.le_of_ble_eq_true rfl⟩ dX7_sweep_28 (fun r_6 hr_6 => ?_)
        have hr_6 : r_6 = turnI (angOf (R 1) t (q - 1)) (angOf (R 1) t q) := hr_6
        subst hr_6
        refine k_iadd hx hb dX7_sweep_31 ?_
        refine lv_istore_n (lv' := [(2, .int (iI ((sumZ (fun k => turnI (angOf (R 1) t k) (angOf (R 1) t (k + 1))) (q - 1)) + (turnI (angOf (R 1) t (q - 1)) (angOf (R 1) t q))))), (3, .int (iI q)), (0, .ref (a 0)), (1, .int (iI t))]) hx hb dX7_sweep_32 rfl hl (by decide) rfl (fun ls hl => ?_)
        refine lv_iinc (v := iI (q + 1)) (lv' := [(3, .int (iI (q + 1))), (2, .int (iI ((sumZ (fun k => turnI (angOf (R 1) t k) (angOf (R 1) t (k + 1))) (q - 1)) + (turnI (angOf (R 1) t (q - 1)) (angOf (R 1) t q))))), (0, .ref (a 0)), (1, .int (iI t))]) hx hb dX7_sweep_33 hl (k := 1) rfl (iI_add _ _) (by decide) rfl (fun ls hl => ?_)
        refine lv_goto (tgt := 4) hx hb dX7_sweep_36 (by decide) ?_
        exact ih4 (q + 1) ((sumZ (fun k => turnI (angOf (R 1) t k) (angOf (R 1) t (k + 1))) (q - 1)) + (turnI (angOf (R 1) t (q - 1)) (angOf (R 1) t q))) (by omega) (by omega) (sumZ_p (fun a b => turnI (angOf (R 1) t a) (angOf (R 1) t b)) hi0) (by omega) ls (lv_sub hl [0, 1, 2, 3] rfl)
  exact loop4 ((pts (R 1) t - 1 : Int) + 1).toNat 1 0 (by omega) (by omega) (rfl) (by omega) ls (lv_sub hl [0, 1, 2, 3] rfl)
set_option maxHeartbeats 4000000 in
set_option maxRecDepth 100000 in
theorem c_X7_frames (l : Launch) (D : va_G) (cy : Nat → ClassId) (a : Nat → Nat) (R : Nat → Int → Int) (t : Int) (hI : Inv (R 1)) (h0 : 0 ≤ t) (h1 : t < R 1 12) (hp0 : 0 < pts (R 1) t) : Met l yX7_frames wsX7_frames { frames := 2, cells := 0, slots := 0, locals := 43 } (kPre (GG D cy) D (rfW cy a R) ([.ref (a 0), .int (iI t)] : List Value)) (kRO (fun r => r = fspan (R 1) t)) 0 0 (fun _ => False) := by
  refine kRO_start (cc := cX7_frames) (maxL := 2) (ret := (some .int)) (by decide) rfl (Nat.le_of_ble_eq_true rfl) ?_
  intro p e s m below meth c hx hb hr hlocks hml hts hown hG hP ls hl
  have hK := hG.1
  have hl : lv_has ls 2 [(0, .ref (a 0)), (1, .int (iI t))] := hl
  have h12 := inv_S12 hI
  have hp := inv_pts hI h0 h1
  refine lv_aload_n hx hb dX7_frames_0 rfl (lv_at hl 0 rfl) ?_
  refine lv_iload_n hx hb dX7_frames_1 rfl (lv_at hl 1 rfl) ?_
  refine lv_aload_n hx hb dX7_frames_2 rfl (lv_at hl 0 rfl) ?_
  refine lv_iload_n hx hb dX7_frames_3 rfl (lv_at hl 1 rfl) ?_
  refine k_roV (As := [.int (iI t)]) (rest := [.int (iI t), .ref (a 0)]) ⟨hx, hb, hml, hown, hts⟩ (c_X7_points l D cy a R t (by omega) (by omega)) gX7_frames_X7_points rfl ⟨rfl, rfl⟩ 1 rfl (by decide +kernel) ⟨Nat.le_of_ble_eq_true rfl, Nat.le_of_ble_eq_true rfl⟩ (GG_ok D cy) hG hP (va_recv hK hP (ci := 6) (q0 := 0) rfl rfl) hl.1 rfl (Nat.le_of_ble_eq_true rfl) ⟨Nat.le_of_ble_eq_true rfl, Nat.le_of_ble_eq_true rfl⟩ dX7_frames_4 (fun r_1 hr_1 => ?_)
  have hr_1 : r_1 = pts (R 1) t := hr_1
  subst hr_1
  refine k_iconst hx hb dX7_frames_7 ?_
  refine k_isub hx hb dX7_frames_8 ?_
  refine k_roV (As := [.int (iI t), .int (iI ((pts (R 1) t) - 1))]) (rest := []) ⟨hx, hb, hml, hown, hts⟩ (c_X7_frameOf l D cy a R t ((pts (R 1) t) - 1) (by omega) (by omega) (by omega) (by omega)) gX7_frames_X7_frameOf rfl ⟨rfl, rfl⟩ 2 rfl (by decide +kernel) ⟨Nat.le_of_ble_eq_true rfl, Nat.le_of_ble_eq_true rfl⟩ (GG_ok D cy) hG hP (va_recv hK hP (ci := 6) (q0 := 0) rfl rfl) hl.1 rfl (Nat.le_of_ble_eq_true rfl) ⟨Nat.le_of_ble_eq_true rfl, Nat.le_of_ble_eq_true rfl⟩ dX7_frames_9 (fun r_2 hr_2 => ?_)
  have hr_2 : r_2 = frm (R 1) t ((pts (R 1) t) - 1) := hr_2
  subst hr_2
  refine lv_aload_n hx hb dX7_frames_12 rfl (lv_at hl 0 rfl) ?_
  refine lv_iload_n hx hb dX7_frames_13 rfl (lv_at hl 1 rfl) ?_
  refine k_iconst hx hb dX7_frames_14 ?_
  refine k_roV (As := [.int (iI t), .int (iI 0)]) (rest := [.int (iI (frm (R 1) t ((pts (R 1) t) - 1)))]) ⟨hx, hb, hml, hown, hts⟩ (c_X7_frameOf l D cy a R t 0 (by omega) (by omega) (by omega) (by omega)) gX7_frames_X7_frameOf rfl ⟨rfl, rfl⟩ 2 rfl (by decide +kernel) ⟨Nat.le_of_ble_eq_true rfl, Nat.le_of_ble_eq_true rfl⟩ (GG_ok D cy) hG hP (va_recv hK hP (ci := 6) (q0 := 0) rfl rfl) hl.1 rfl (Nat.le_of_ble_eq_true rfl) ⟨Nat.le_of_ble_eq_true rfl, Nat.le_of_ble_eq_true rfl⟩ dX7_frames_15 (fun r_3 hr_3 => ?_)
  have hr_3 : r_3 = frm (R 1) t 0 := hr_3
  subst hr_3
  refine k_isub hx hb dX7_frames_18 ?_
  exact W.iret (v := iI ((frm (R 1) t ((pts (R 1) t) - 1)) - (frm (R 1) t 0))) hx hb hr (fun t9 ht _ => ⟨((frm (R 1) t ((pts (R 1) t) - 1)) - (frm (R 1) t 0)), rfl, (by first | rfl | omega : ((frm (R 1) t ((pts (R 1) t) - 1)) - (frm (R 1) t 0) : Int) = fspan (R 1) t), ht⟩) (fun _ h => nomatch h) dX7_frames_19 hlocks
set_option maxHeartbeats 4000000 in
set_option maxRecDepth 100000 in
theorem c_X7_misfit (l : Launch) (D : va_G) (cy : Nat → ClassId) (a : Nat → Nat) (R : Nat → Int → Int) (t : Int) (hI : Inv (R 1)) (h0 : 0 ≤ t) (h1 : t < R 1 12) (hp0 : 0 < pts (R 1) t) : Met l yX7_misfit wsX7_misfit { frames := 5, cells := 0, slots := 0, locals := 110 } (kPre (GG D cy) D (rfW cy a R) ([.ref (a 0), .int (iI t)] : List Value)) (kRO (fun r => r = misf (R 1) t)) 0 0 (fun _ => False) := by
  refine kRO_start (cc := cX7_misfit) (maxL := 2) (ret := (some .int)) (by decide) rfl (Nat.le_of_ble_eq_true rfl) ?_
  intro p e s m below meth c hx hb hr hlocks hml hts hown hG hP ls hl
  have hK := hG.1
  have hl : lv_has ls 2 [(0, .ref (a 0)), (1, .int (iI t))] := hl
  have hinX7 : ∀ w ∈ u_ws RX7 TX7 19, w ∈ wsX7_misfit := by decide +kernel
  have hm0 := hts (.fieldLink RX7 7 "ArcPlateModel" "m" "[I") (by decide +kernel)
  have h12 := inv_S12 hI
  have hp := inv_pts hI h0 h1
  have hm := inv_misf hI h0 h1 hp0
  refine lv_aload_n hx hb dX7_misfit_0 rfl (lv_at hl 0 rfl) ?_
  refine lv_iload_n hx hb dX7_misfit_1 rfl (lv_at hl 1 rfl) ?_
  refine k_roV (As := [.int (iI t)]) (rest := []) ⟨hx, hb, hml, hown, hts⟩ (c_X7_sweep l D cy a R t hI (by omega) (by omega) (by omega)) gX7_misfit_X7_sweep rfl ⟨rfl, rfl⟩ 1 rfl (by decide +kernel) ⟨Nat.le_of_ble_eq_true rfl, Nat.le_of_ble_eq_true rfl⟩ (GG_ok D cy) hG hP (va_recv hK hP (ci := 6) (q0 := 0) rfl rfl) hl.1 rfl (Nat.le_of_ble_eq_true rfl) ⟨Nat.le_of_ble_eq_true rfl, Nat.le_of_ble_eq_true rfl⟩ dX7_misfit_2 (fun r_1 hr_1 => ?_)
  have hr_1 : r_1 = swp (R 1) t := hr_1
  subst hr_1
  refine lv_aload_n hx hb dX7_misfit_5 rfl (lv_at hl 0 rfl) ?_
  refine va_get (D := D) (ci := 6) (v := .ref (a 1)) (C := RX7) (T := TX7) (N := 19) hx hb hts hinX7 hown hK hP 0 rfl rfl 0 (by decide) hm0 (fun _ h9 => h9) rfl dX7_misfit_6 ?_
  refine k_iconst hx hb dX7_misfit_9 ?_
  refine k_iald hx hb hK hP 1 0 rfl rfl (i := 0) (by omega) dX7_misfit_10 ?_
  refine lv_aload_n hx hb dX7_misfit_11 rfl (lv_at hl 0 rfl) ?_
  refine lv_iload_n hx hb dX7_misfit_12 rfl (lv_at hl 1 rfl) ?_
  refine k_roV (As := [.int (iI t)]) (rest := [.int (iI (R 1 0)), .int (iI (swp (R 1) t))]) ⟨hx, hb, hml, hown, hts⟩ (c_X7_frames l D cy a R t hI (by omega) (by omega) (by omega)) gX7_misfit_X7_frames rfl ⟨rfl, rfl⟩ 1 rfl (by decide +kernel) ⟨Nat.le_of_ble_eq_true rfl, Nat.le_of_ble_eq_true rfl⟩ (GG_ok D cy) hG hP (va_recv hK hP (ci := 6) (q0 := 0) rfl rfl) hl.1 rfl (Nat.le_of_ble_eq_true rfl) ⟨Nat.le_of_ble_eq_true rfl, Nat.le_of_ble_eq_true rfl⟩ dX7_misfit_13 (fun r_2 hr_2 => ?_)
  have hr_2 : r_2 = fspan (R 1) t := hr_2
  subst hr_2
  refine k_imul hx hb dX7_misfit_16 ?_
  refine k_isub hx hb dX7_misfit_17 ?_
  refine k_roS (As := [.int (iI ((swp (R 1) t) - ((R 1 0) * (fspan (R 1) t))))]) (rest := []) ⟨hx, hb, hml, hown, hts⟩ (c_X7_size l D ((swp (R 1) t) - ((R 1 0) * (fspan (R 1) t))) (by omega)) gX7_misfit_X7_size rfl ⟨rfl, rfl⟩ 1 rfl (by decide +kernel) ⟨Nat.le_of_ble_eq_true rfl, Nat.le_of_ble_eq_true rfl⟩ kGT_ok trivial (fun k q h => by simp at h) hl.1 rfl (Nat.le_of_ble_eq_true rfl) ⟨Nat.le_of_ble_eq_true rfl, Nat.le_of_ble_eq_true rfl⟩ dX7_misfit_18 (fun r_3 hr_3 => ?_)
  have hr_3 : r_3 = absI ((swp (R 1) t) - ((R 1 0) * (fspan (R 1) t))) := hr_3
  subst hr_3
  exact W.iret (v := iI (absI ((swp (R 1) t) - ((R 1 0) * (fspan (R 1) t))))) hx hb hr (fun t9 ht _ => ⟨(absI ((swp (R 1) t) - ((R 1 0) * (fspan (R 1) t)))), rfl, (by first | rfl | omega : (absI ((swp (R 1) t) - ((R 1 0) * (fspan (R 1) t))) : Int) = misf (R 1) t), ht⟩) (fun _ h => nomatch h) dX7_misfit_21 hlocks
set_option maxHeartbeats 4000000 in
set_option maxRecDepth 100000 in
theorem c_X7_isGood (l : Launch) (D : va_G) (cy : Nat → ClassId) (a : Nat → Nat) (R : Nat → Int → Int) (t : Int) (hI : Inv (R 1)) (h0 : 0 ≤ t) (h1 : t < R 1 12) : Met l yX7_isGood wsX7_isGood { frames := 6, cells := 0, slots := 0, locals := 131 } (kPre (GG D cy) D (rfW cy a R) ([.ref (a 0), .int (iI t)] : List Value)) (kRO (fun r => ((isGoodP (R 1) t) ∧ r = 1) ∨ (¬ (isGoodP (R 1) t) ∧ r = 0))) 0 0 (fun _ => False) := by
  refine kRO_start (cc := cX7_isGood) (maxL := 2) (ret := (some .boolean)) (by decide) rfl (Nat.le_of_ble_eq_true rfl) ?_
  intro p e s m below meth c hx hb hr hlocks hml hts hown hG hP ls hl
  have hK := hG.1
  have hl : lv_has ls 2 [(0, .ref (a 0)), (1, .int (iI t))] := hl
  have hinX7 : ∀ w ∈ u_ws RX7 TX7 19, w ∈ wsX7_isGood := by decide +kernel
  have hm0 := hts (.fieldLink RX7 7 "ArcPlateModel" "m" "[I") (by decide +kernel)
  have h12 := inv_S12 hI
  have hp := inv_pts hI h0 h1
  have hv3 := hI.1.2.2.2.1
  have hv4 := hI.1.2.2.2.2.1
  refine lv_aload_n hx hb dX7_isGood_0 rfl (lv_at hl 0 rfl) ?_
  refine lv_iload_n hx hb dX7_isGood_1 rfl (lv_at hl 1 rfl) ?_
  refine k_roV (As := [.int (iI t)]) (rest := []) ⟨hx, hb, hml, hown, hts⟩ (c_X7_points l D cy a R t (by omega) (by omega)) gX7_isGood_X7_points rfl ⟨rfl, rfl⟩ 1 rfl (by decide +kernel) ⟨Nat.le_of_ble_eq_true rfl, Nat.le_of_ble_eq_true rfl⟩ (GG_ok D cy) hG hP (va_recv hK hP (ci := 6) (q0 := 0) rfl rfl) hl.1 rfl (Nat.le_of_ble_eq_true rfl) ⟨Nat.le_of_ble_eq_true rfl, Nat.le_of_ble_eq_true rfl⟩ dX7_isGood_2 (fun r_1 hr_1 => ?_)
  have hr_1 : r_1 = pts (R 1) t := hr_1
  subst hr_1
  refine k_iconst hx hb dX7_isGood_5 ?_
  refine k_icmp_le (tgt := 41) hx hb dX7_isGood_6 (by decide) (by omega) (by omega) (fun c_2 => ?_) (fun c_2 => ?_)
  · skip
    refine k_iconst hx hb dX7_isGood_41 ?_
    exact W.zret (v := iI 0) hx hb hr (by decide +kernel) (fun t9 ht _ => ⟨0, rfl, (by first | exact Or.inl ⟨⟨by omega, by omega, by omega⟩, rfl⟩ | exact Or.inr ⟨fun h9 => by have g1 := h9.1; have g2 := h9.2.1; have g3 := h9.2.2; omega, rfl⟩ : ((isGoodP (R 1) t) ∧ (0 : Int) = 1) ∨ (¬ (isGoodP (R 1) t) ∧ (0 : Int) = 0)), ht⟩) (fun _ h => nomatch h) dX7_isGood_42 hlocks
  · skip
    have hsp := inv_sprd hI h0 h1 (by omega)
    have hm := inv_misf hI h0 h1 (by omega)
    refine lv_aload_n hx hb dX7_isGood_9 rfl (lv_at hl 0 rfl) ?_
    refine lv_iload_n hx hb dX7_isGood_10 rfl (lv_at hl 1 rfl) ?_
    refine k_roV (As := [.int (iI t)]) (rest := []) ⟨hx, hb, hml, hown, hts⟩ (c_X7_spread l D cy a R t hI (by omega) (by omega) (by omega)) gX7_isGood_X7_spread rfl ⟨rfl, rfl⟩ 1 rfl (by decide +kernel) ⟨Nat.le_of_ble_eq_true rfl, Nat.le_of_ble_eq_true rfl⟩ (GG_ok D cy) hG hP (va_recv hK hP (ci := 6) (q0 := 0) rfl rfl) hl.1 rfl (Nat.le_of_ble_eq_true rfl) ⟨Nat.le_of_ble_eq_true rfl, Nat.le_of_ble_eq_true rfl⟩ dX7_isGood_11 (fun r_3 hr_3 => ?_)
    have hr_3 : r_3 = sprd (R 1) t := hr_3
    subst hr_3
    refine lv_aload_n hx hb dX7_isGood_14 rfl (lv_at hl 0 rfl) ?_
    refine va_get (D := D) (ci := 6) (v := .ref (a 1)) (C := RX7) (T := TX7) (N := 19) hx hb hts hinX7 hown hK hP 0 rfl rfl 0 (by decide) hm0 (fun _ h9 => h9) rfl dX7_isGood_15 ?_
    refine k_iconst hx hb dX7_isGood_18 ?_
    refine k_iald hx hb hK hP 1 0 rfl rfl (i := 3) (by omega) dX7_isGood_19 ?_
    refine k_icmp_gt (tgt := 41) hx hb dX7_isGood_20 (by decide) (by omega) (by omega) (fun c_4 => ?_) (fun c_4 => ?_)
    · skip
      refine k_iconst hx hb dX7_isGood_41 ?_
      exact W.zret (v := iI 0) hx hb hr (by decide +kernel) (fun t9 ht _ => ⟨0, rfl, (by first | exact Or.inl ⟨⟨by omega, by omega, by omega⟩, rfl⟩ | exact Or.inr ⟨fun h9 => by have g1 := h9.1; have g2 := h9.2.1; have g3 := h9.2.2; omega, rfl⟩ : ((isGoodP (R 1) t) ∧ (0 : Int) = 1) ∨ (¬ (isGoodP (R 1) t) ∧ (0 : Int) = 0)), ht⟩) (fun _ h => nomatch h) dX7_isGood_42 hlocks
    · skip
      refine lv_aload_n hx hb dX7_isGood_23 rfl (lv_at hl 0 rfl) ?_
      refine lv_iload_n hx hb dX7_isGood_24 rfl (lv_at hl 1 rfl) ?_
      refine k_roV (As := [.int (iI t)]) (rest := []) ⟨hx, hb, hml, hown, hts⟩ (c_X7_misfit l D cy a R t hI (by omega) (by omega) (by omega)) gX7_isGood_X7_misfit rfl ⟨rfl, rfl⟩ 1 rfl (by decide +kernel) ⟨Nat.le_of_ble_eq_true rfl, Nat.le_of_ble_eq_true rfl⟩ (GG_ok D cy) hG hP (va_recv hK hP (ci := 6) (q0 := 0) rfl rfl) hl.1 rfl (Nat.le_of_ble_eq_true rfl) ⟨Nat.le_of_ble_eq_true rfl, Nat.le_of_ble_eq_true rfl⟩ dX7_isGood_25 (fun r_5 hr_5 => ?_)
      have hr_5 : r_5 = misf (R 1) t := hr_5
      subst hr_5
      refine lv_aload_n hx hb dX7_isGood_28 rfl (lv_at hl 0 rfl) ?_
      refine va_get (D := D) (ci := 6) (v := .ref (a 1)) (C := RX7) (T := TX7) (N := 19) hx hb hts hinX7 hown hK hP 0 rfl rfl 0 (by decide) hm0 (fun _ h9 => h9) rfl dX7_isGood_29 ?_
      refine k_iconst hx hb dX7_isGood_32 ?_
      refine k_iald hx hb hK hP 1 0 rfl rfl (i := 4) (by omega) dX7_isGood_33 ?_
      refine k_icmp_gt (tgt := 41) hx hb dX7_isGood_34 (by decide) (by omega) (by omega) (fun c_6 => ?_) (fun c_6 => ?_)
      · skip
        refine k_iconst hx hb dX7_isGood_41 ?_
        exact W.zret (v := iI 0) hx hb hr (by decide +kernel) (fun t9 ht _ => ⟨0, rfl, (by first | exact Or.inl ⟨⟨by omega, by omega, by omega⟩, rfl⟩ | exact Or.inr ⟨fun h9 => by have g1 := h9.1; have g2 := h9.2.1; have g3 := h9.2.2; omega, rfl⟩ : ((isGoodP (R 1) t) ∧ (0 : Int) = 1) ∨ (¬ (isGoodP (R 1) t) ∧ (0 : Int) = 0)), ht⟩) (fun _ h => nomatch h) dX7_isGood_42 hlocks
      · skip
        refine k_iconst hx hb dX7_isGood_37 ?_
        refine lv_goto (tgt := 42) hx hb dX7_isGood_38 (by decide) ?_
        exact W.zret (v := iI 1) hx hb hr (by decide +kernel) (fun t9 ht _ => ⟨1, rfl, (by first | exact Or.inl ⟨⟨by omega, by omega, by omega⟩, rfl⟩ | exact Or.inr ⟨fun h9 => by have g1 := h9.1; have g2 := h9.2.1; have g3 := h9.2.2; omega, rfl⟩ : ((isGoodP (R 1) t) ∧ (1 : Int) = 1) ∨ (¬ (isGoodP (R 1) t) ∧ (1 : Int) = 0)), ht⟩) (fun _ h => nomatch h) dX7_isGood_42 hlocks
set_option maxHeartbeats 4000000 in
set_option maxRecDepth 100000 in
theorem c_X7_gaps (l : Launch) (D : va_G) (cy : Nat → ClassId) (a : Nat → Nat) (R : Nat → Int → Int) (t : Int) (hI : Inv (R 1)) (h0 : 0 ≤ t) (h1 : t < R 1 12) : Met l yX7_gaps wsX7_gaps { frames := 2, cells := 0, slots := 0, locals := 43 } (kPre (GG D cy) D (rfW cy a R) ([.ref (a 0), .int (iI t)] : List Value)) (kRO (fun r => r = gapN (R 1) t)) 0 0 (fun _ => False) := by
  refine kRO_start (cc := cX7_gaps) (maxL := 4) (ret := (some .int)) (by decide) rfl (Nat.le_of_ble_eq_true rfl) ?_
  intro p e s m below meth c hx hb hr hlocks hml hts hown hG hP ls hl
  have hK := hG.1
  have hl : lv_has ls 4 [(0, .ref (a 0)), (1, .int (iI t))] := hl
  have hinX7 : ∀ w ∈ u_ws RX7 TX7 19, w ∈ wsX7_gaps := by decide +kernel
  have hm0 := hts (.fieldLink RX7 7 "ArcPlateModel" "m" "[I") (by decide +kernel)
  have h12 := inv_S12 hI
  have hp := inv_pts hI h0 h1
  have hv6 := hI.1.2.2.2.2.2.2.1
  refine k_iconst hx hb dX7_gaps_0 ?_
  refine lv_istore_n (lv' := [(2, .int (iI 0)), (0, .ref (a 0)), (1, .int (iI t))]) hx hb dX7_gaps_1 rfl hl (by decide) rfl (fun ls hl => ?_)
  refine k_iconst hx hb dX7_gaps_2 ?_
  refine lv_istore_n (lv' := [(3, .int (iI 1)), (2, .int (iI 0)), (0, .ref (a 0)), (1, .int (iI t))]) hx hb dX7_gaps_3 rfl hl (by decide) rfl (fun ls hl => ?_)
  have loop4 : ∀ (n_1 : Nat) (q : Int) (x2 : Int) (hi0 : 1 ≤ q) (hi1 : q ≤ pts (R 1) t ∨ q = 1) (hex2 : x2 = sumZ (fun k => if R 1 6 < frm (R 1) t (k + 1) - frm (R 1) t k then 1 else 0) (q - 1)) (hn : pts (R 1) t - q + 1 < (n_1 : Int)) (ls : Array Slot) (hl : lv_has ls 4 [(3, .int (iI q)), (2, .int (iI x2)), (0, .ref (a 0)), (1, .int (iI t))]), W p l e { frames := 2, cells := 0, slots := 0, locals := 43 } s m ([.ref (a 0), .int (iI t)] : List Value).toArray below meth c s.heap [] 0 0 (MQ below (kRO (fun r => r = gapN (R 1) t)) ([.ref (a 0), .int (iI t)] : List Value).toArray s 0 0 (fun _ => False)) (F0 m 4 ls []) := by
    intro n_1
    induction n_1 with
    | zero => intro q x2 hi0 hi1 hex2 hn ls hl; exfalso; omega
    | succ n_1 ih4 =>
      intro q x2 hi0 hi1 hex2 hn ls hl
      subst hex2
      refine lv_iload_n hx hb dX7_gaps_4 rfl (lv_at hl 0 rfl) ?_
      refine lv_aload_n hx hb dX7_gaps_5 rfl (lv_at hl 2 rfl) ?_
      refine lv_iload_n hx hb dX7_gaps_6 rfl (lv_at hl 3 rfl) ?_
      refine k_roV (As := [.int (iI t)]) (rest := [.int (iI q)]) ⟨hx, hb, hml, hown, hts⟩ (c_X7_points l D cy a R t (by omega) (by omega)) gX7_gaps_X7_points rfl ⟨rfl, rfl⟩ 1 rfl (by decide +kernel) ⟨Nat.le_of_ble_eq_true rfl, Nat.le_of_ble_eq_true rfl⟩ (GG_ok D cy) hG hP (va_recv hK hP (ci := 6) (q0 := 0) rfl rfl) hl.1 rfl (Nat.le_of_ble_eq_true rfl) ⟨Nat.le_of_ble_eq_true rfl, Nat.le_of_ble_eq_true rfl⟩ dX7_gaps_7 (fun r_2 hr_2 => ?_)
      have hr_2 : r_2 = pts (R 1) t := hr_2
      subst hr_2
      refine k_icmp_ge (tgt := 52) hx hb dX7_gaps_10 (by decide) (by omega) (by omega) (fun c_3 => ?_) (fun c_3 => ?_)
      · skip
        refine lv_iload_n hx hb dX7_gaps_52 rfl (lv_at hl 1 rfl) ?_
        exact W.iret (v := iI (sumZ (fun k => if R 1 6 < frm (R 1) t (k + 1) - frm (R 1) t k then 1 else 0) (q - 1))) hx hb hr (fun t9 ht _ => ⟨(sumZ (fun k => if R 1 6 < frm (R 1) t (k + 1) - frm (R 1) t k then 1 else 0) (q - 1)), rfl, (gap_end hi0 hi1 (by omega) hp.1 : (sumZ (fun k => if R 1 6 < frm (R 1) t (k + 1) - frm (R 1) t k then 1 else 0) (q - 1) : Int) = gapN (R 1) t), ht⟩) (fun _ h => nomatch h) dX7_gaps_53 hlocks
      · skip
        refine lv_iload_n hx hb dX7_gaps_13 rfl (lv_at hl 1 rfl) ?_
        refine lv_aload_n hx hb dX7_gaps_14 rfl (lv_at hl 2 rfl) ?_
        refine lv_iload_n hx hb dX7_gaps_15 rfl (lv_at hl 3 rfl) ?_
        refine lv_iload_n hx hb dX7_gaps_16 rfl (lv_at hl 0 rfl) ?_
        refine k_roV (As := [.int (iI t), .int (iI q)]) (rest := [.int (iI (sumZ (fun k => if R 1 6 < frm (R 1) t (k + 1) - frm (R 1) t k then 1 else 0) (q - 1)))]) ⟨hx, hb, hml, hown, hts⟩ (c_X7_frameOf l D cy a R t q (by omega) (by omega) (by omega) (by omega)) gX7_gaps_X7_frameOf rfl ⟨rfl, rfl⟩ 2 rfl (by decide +kernel) ⟨Nat.le_of_ble_eq_true rfl, Nat.le_of_ble_eq_true rfl⟩ (GG_ok D cy) hG hP (va_recv hK hP (ci := 6) (q0 := 0) rfl rfl) hl.1 rfl (Nat.le_of_ble_eq_true rfl) ⟨Nat.le_of_ble_eq_true rfl, Nat.le_of_ble_eq_true rfl⟩ dX7_gaps_17 (fun r_4 hr_4 => ?_)
        have hr_4 : r_4 = frm (R 1) t q := hr_4
        subst hr_4
        have hf1 := inv_frm hI h0 h1 (p := q) (by omega) (by omega)
        refine lv_aload_n hx hb dX7_gaps_20 rfl (lv_at hl 2 rfl) ?_
        refine lv_iload_n hx hb dX7_gaps_21 rfl (lv_at hl 3 rfl) ?_
        refine lv_iload_n hx hb dX7_gaps_22 rfl (lv_at hl 0 rfl) ?_
        refine k_iconst hx hb dX7_gaps_23 ?_
        refine k_isub hx hb dX7_gaps_24 ?_
        refine k_roV (As := [.int (iI t), .int (iI (q - 1))]) (rest := [.int (iI (frm (R 1) t q)), .int (iI (sumZ (fun k => if R 1 6 < frm (R 1) t (k + 1) - frm (R 1) t k then 1 else 0) (q - 1)))]) ⟨hx, hb, hml, hown, hts⟩ (c_X7_frameOf l D cy a R t (q - 1) (by omega) (by omega) (by omega) (by omega)) gX7_gaps_X7_frameOf rfl ⟨rfl, rfl⟩ 2 rfl (by decide +kernel) ⟨Nat.le_of_ble_eq_true rfl, Nat.le_of_ble_eq_true rfl⟩ (GG_ok D cy) hG hP (va_recv hK hP (ci := 6) (q0 := 0) rfl rfl) hl.1 rfl (Nat.le_of_ble_eq_true rfl) ⟨Nat.le_of_ble_eq_true rfl, Nat.le_of_ble_eq_true rfl⟩ dX7_gaps_25 (fun r_5 hr_5 => ?_)
        have hr_5 : r_5 = frm (R 1) t (q - 1) := hr_5
        subst hr_5
        have hf2 := inv_frm hI h0 h1 (p := q - 1) (by omega) (by omega)
        refine k_isub hx hb dX7_gaps_28 ?_
        refine lv_aload_n hx hb dX7_gaps_29 rfl (lv_at hl 2 rfl) ?_
        refine va_get (D := D) (ci := 6) (v := .ref (a 1)) (C := RX7) (T := TX7) (N := 19) hx hb hts hinX7 hown hK hP 0 rfl rfl 0 (by decide) hm0 (fun _ h9 => h9) rfl dX7_gaps_30 ?_
        refine k_bipush hx hb dX7_gaps_33 (by decide +kernel) ?_
        refine k_iald hx hb hK hP 1 0 rfl rfl (i := 6) (by omega) dX7_gaps_35 ?_
        refine k_icmp_le (tgt := 43) hx hb dX7_gaps_36 (by decide) (by omega) (by omega) (fun c_6 => ?_) (fun c_6 => ?_)
        · skip
          refine k_iconst hx hb dX7_gaps_43 ?_
          refine k_iadd hx hb dX7_gaps_44 ?_
          refine lv_istore_n (lv' := [(2, .int (iI ((sumZ (fun k => if R 1 6 < frm (R 1) t (k + 1) - frm (R 1) t k then 1 else 0) (q - 1)) + 0))), (3, .int (iI q)), (0, .ref (a 0)), (1, .int (iI t))]) hx hb dX7_gaps_45 rfl hl (by decide) rfl (fun ls hl => ?_)
          refine lv_iinc (v := iI (q + 1)) (lv' := [(3, .int (iI (q + 1))), (2, .int (iI ((sumZ (fun k => if R 1 6 < frm (R 1) t (k + 1) - frm (R 1) t k then 1 else 0) (q - 1)) + 0))), (0, .ref (a 0)), (1, .int (iI t))]) hx hb dX7_gaps_46 hl (k := 1) rfl (iI_add _ _) (by decide) rfl (fun ls hl => ?_)
          refine lv_goto (tgt := 4) hx hb dX7_gaps_49 (by decide) ?_
          exact ih4 (q + 1) ((sumZ (fun k => if R 1 6 < frm (R 1) t (k + 1) - frm (R 1) t k then 1 else 0) (q - 1)) + 0) (by omega) (by omega) (by rw [← sumZ_p (fun a b => if R 1 6 < frm (R 1) t b - frm (R 1) t a then (1 : Int) else 0) hi0]; (try dsimp only); split <;> omega) (by omega) ls (lv_sub hl [0, 1, 2, 3] rfl)
        · skip
          refine k_iconst hx hb dX7_gaps_39 ?_
          refine lv_goto (tgt := 44) hx hb dX7_gaps_40 (by decide) ?_
          refine k_iadd hx hb dX7_gaps_44 ?_
          refine lv_istore_n (lv' := [(2, .int (iI ((sumZ (fun k => if R 1 6 < frm (R 1) t (k + 1) - frm (R 1) t k then 1 else 0) (q - 1)) + 1))), (3, .int (iI q)), (0, .ref (a 0)), (1, .int (iI t))]) hx hb dX7_gaps_45 rfl hl (by decide) rfl (fun ls hl => ?_)
          refine lv_iinc (v := iI (q + 1)) (lv' := [(3, .int (iI (q + 1))), (2, .int (iI ((sumZ (fun k => if R 1 6 < frm (R 1) t (k + 1) - frm (R 1) t k then 1 else 0) (q - 1)) + 1))), (0, .ref (a 0)), (1, .int (iI t))]) hx hb dX7_gaps_46 hl (k := 1) rfl (iI_add _ _) (by decide) rfl (fun ls hl => ?_)
          refine lv_goto (tgt := 4) hx hb dX7_gaps_49 (by decide) ?_
          exact ih4 (q + 1) ((sumZ (fun k => if R 1 6 < frm (R 1) t (k + 1) - frm (R 1) t k then 1 else 0) (q - 1)) + 1) (by omega) (by omega) (by rw [← sumZ_p (fun a b => if R 1 6 < frm (R 1) t b - frm (R 1) t a then (1 : Int) else 0) hi0]; (try dsimp only); split <;> omega) (by omega) ls (lv_sub hl [0, 1, 2, 3] rfl)
  exact loop4 ((pts (R 1) t - 1 + 1 : Int) + 1).toNat 1 0 (by omega) (by omega) (rfl) (by omega) ls (lv_sub hl [0, 1, 2, 3] rfl)
set_option maxHeartbeats 4000000 in
set_option maxRecDepth 100000 in
theorem c_X7_plateRadius (l : Launch) (D : va_G) (cy : Nat → ClassId) (a : Nat → Nat) (R : Nat → Int → Int) (u : Int) (hI : Inv (R 1)) (h0u : 0 ≤ u) (h1u : u < R 1 13) : Met l yX7_plateRadius wsX7_plateRadius { frames := 1, cells := 0, slots := 0, locals := 22 } (kPre (GG D cy) D (rfW cy a R) ([.ref (a 0), .int (iI u)] : List Value)) (kRO (fun r => r = plR (R 1) u)) 0 0 (fun _ => False) := by
  refine kRO_start (cc := cX7_plateRadius) (maxL := 2) (ret := (some .int)) (by decide) rfl (Nat.le_of_ble_eq_true rfl) ?_
  intro p e s m below meth c hx hb hr hlocks hml hts hown hG hP ls hl
  have hK := hG.1
  have hl : lv_has ls 2 [(0, .ref (a 0)), (1, .int (iI u))] := hl
  have hinX7 : ∀ w ∈ u_ws RX7 TX7 19, w ∈ wsX7_plateRadius := by decide +kernel
  have hm0 := hts (.fieldLink RX7 7 "ArcPlateModel" "m" "[I") (by decide +kernel)
  have hm1 := hts (.constantLong RX7 188 (1000)) (by decide +kernel)
  have h12 := inv_S12 hI
  have hq := inv_plR hI h0u h1u
  have hc := hI.2.2 u h0u h1u
  have hv7 := hI.1.2.2.2.2.2.2.2.1
  refine lv_aload_n hx hb dX7_plateRadius_0 rfl (lv_at hl 0 rfl) ?_
  refine lv_iload_n hx hb dX7_plateRadius_1 rfl (lv_at hl 1 rfl) ?_
  refine k_iconst hx hb dX7_plateRadius_2 ?_
  refine k_roV (As := [.int (iI u), .int (iI 0)]) (rest := []) ⟨hx, hb, hml, hown, hts⟩ (c_X7_ofStar l D cy a R u 0 (by omega) (by omega) (by omega) (by omega)) gX7_plateRadius_X7_ofStar rfl ⟨rfl, rfl⟩ 2 rfl (by decide +kernel) ⟨Nat.le_of_ble_eq_true rfl, Nat.le_of_ble_eq_true rfl⟩ (GG_ok D cy) hG hP (va_recv hK hP (ci := 6) (q0 := 0) rfl rfl) hl.1 rfl (Nat.le_of_ble_eq_true rfl) ⟨Nat.le_of_ble_eq_true rfl, Nat.le_of_ble_eq_true rfl⟩ dX7_plateRadius_3 (fun r_1 hr_1 => ?_)
  have hr_1 : r_1 = R 1 (458 + 3 * u + 0) := hr_1
  subst hr_1
  rw [show (R 1 (458 + 3 * u + 0)) = (R 1 (458 + 3 * u)) from by rw [Int.add_zero]]
  refine k_i2l hx hb dX7_plateRadius_6 (by omega) ?_
  refine lv_aload_n hx hb dX7_plateRadius_7 rfl (lv_at hl 0 rfl) ?_
  refine va_get (D := D) (ci := 6) (v := .ref (a 1)) (C := RX7) (T := TX7) (N := 19) hx hb hts hinX7 hown hK hP 0 rfl rfl 0 (by decide) hm0 (fun _ h9 => h9) rfl dX7_plateRadius_8 ?_
  refine k_bipush hx hb dX7_plateRadius_11 (by decide +kernel) ?_
  refine k_iald hx hb hK hP 1 0 rfl rfl (i := 7) (by omega) dX7_plateRadius_13 ?_
  refine k_i2l hx hb dX7_plateRadius_14 (by omega) ?_
  refine k_lmul hx hb dX7_plateRadius_15 ?_
  refine k_ldc2 (z := 1000) hx hb hown hm1 (by decide +kernel) dX7_plateRadius_16 ?_
  refine k_ldiv hx hb dX7_plateRadius_19 (by omega) (by omega) ?_
  refine k_l2i hx hb dX7_plateRadius_20 (by omega) ?_
  exact W.iret (v := iI (((R 1 (458 + 3 * u)) * (R 1 7)) / 1000)) hx hb hr (fun t9 ht _ => ⟨(((R 1 (458 + 3 * u)) * (R 1 7)) / 1000), rfl, (by first | rfl | omega : (((R 1 (458 + 3 * u)) * (R 1 7)) / 1000 : Int) = plR (R 1) u), ht⟩) (fun _ h => nomatch h) dX7_plateRadius_21 hlocks
set_option maxHeartbeats 4000000 in
set_option maxRecDepth 100000 in
theorem c_X7_starAngleIn (l : Launch) (D : va_G) (cy : Nat → ClassId) (a : Nat → Nat) (R : Nat → Int → Int) (u f : Int) (hI : Inv (R 1)) (h0u : 0 ≤ u) (h1u : u < R 1 13) (hf : 0 ≤ f ∧ f ≤ 1000) : Met l yX7_starAngleIn wsX7_starAngleIn { frames := 1, cells := 0, slots := 0, locals := 22 } (kPre (GG D cy) D (rfW cy a R) ([.ref (a 0), .int (iI u), .int (iI f)] : List Value)) (kRO (fun r => r = stAng (R 1) (R 1 8) u f)) 0 0 (fun _ => False) := by
  refine kRO_start (cc := cX7_starAngleIn) (maxL := 3) (ret := (some .int)) (by decide) rfl (Nat.le_of_ble_eq_true rfl) ?_
  intro p e s m below meth c hx hb hr hlocks hml hts hown hG hP ls hl
  have hK := hG.1
  have hl : lv_has ls 3 [(0, .ref (a 0)), (1, .int (iI u)), (2, .int (iI f))] := hl
  have hinX7 : ∀ w ∈ u_ws RX7 TX7 19, w ∈ wsX7_starAngleIn := by decide +kernel
  have hm0 := hts (.fieldLink RX7 7 "ArcPlateModel" "m" "[I") (by decide +kernel)
  have h12 := inv_S12 hI
  have hq := inv_sta hI h0u h1u hf
  have hv8 := hI.1.2.2.2.2.2.2.2.2.1
  refine lv_aload_n hx hb dX7_starAngleIn_0 rfl (lv_at hl 0 rfl) ?_
  refine lv_iload_n hx hb dX7_starAngleIn_1 rfl (lv_at hl 1 rfl) ?_
  refine k_iconst hx hb dX7_starAngleIn_2 ?_
  refine k_roV (As := [.int (iI u), .int (iI 1)]) (rest := []) ⟨hx, hb, hml, hown, hts⟩ (c_X7_ofStar l D cy a R u 1 (by omega) (by omega) (by omega) (by omega)) gX7_starAngleIn_X7_ofStar rfl ⟨rfl, rfl⟩ 2 rfl (by decide +kernel) ⟨Nat.le_of_ble_eq_true rfl, Nat.le_of_ble_eq_true rfl⟩ (GG_ok D cy) hG hP (va_recv hK hP (ci := 6) (q0 := 0) rfl rfl) hl.1 rfl (Nat.le_of_ble_eq_true rfl) ⟨Nat.le_of_ble_eq_true rfl, Nat.le_of_ble_eq_true rfl⟩ dX7_starAngleIn_3 (fun r_1 hr_1 => ?_)
  have hr_1 : r_1 = R 1 (458 + 3 * u + 1) := hr_1
  subst hr_1
  refine lv_aload_n hx hb dX7_starAngleIn_6 rfl (lv_at hl 0 rfl) ?_
  refine va_get (D := D) (ci := 6) (v := .ref (a 1)) (C := RX7) (T := TX7) (N := 19) hx hb hts hinX7 hown hK hP 0 rfl rfl 0 (by decide) hm0 (fun _ h9 => h9) rfl dX7_starAngleIn_7 ?_
  refine k_bipush hx hb dX7_starAngleIn_10 (by decide +kernel) ?_
  refine k_iald hx hb hK hP 1 0 rfl rfl (i := 8) (by omega) dX7_starAngleIn_12 ?_
  refine k_iadd hx hb dX7_starAngleIn_13 ?_
  refine lv_aload_n hx hb dX7_starAngleIn_14 rfl (lv_at hl 0 rfl) ?_
  refine va_get (D := D) (ci := 6) (v := .ref (a 1)) (C := RX7) (T := TX7) (N := 19) hx hb hts hinX7 hown hK hP 0 rfl rfl 0 (by decide) hm0 (fun _ h9 => h9) rfl dX7_starAngleIn_15 ?_
  refine k_iconst hx hb dX7_starAngleIn_18 ?_
  refine k_iald hx hb hK hP 1 0 rfl rfl (i := 0) (by omega) dX7_starAngleIn_19 ?_
  refine lv_iload_n hx hb dX7_starAngleIn_20 rfl (lv_at hl 2 rfl) ?_
  refine k_imul hx hb dX7_starAngleIn_21 ?_
  refine k_iadd hx hb dX7_starAngleIn_22 ?_
  refine k_roS (As := [.int (iI (((R 1 (458 + 3 * u + 1)) + (R 1 8)) + ((R 1 0) * f)))]) (rest := []) ⟨hx, hb, hml, hown, hts⟩ (c_X7_around l D (((R 1 (458 + 3 * u + 1)) + (R 1 8)) + ((R 1 0) * f)) (by omega)) gX7_starAngleIn_X7_around rfl ⟨rfl, rfl⟩ 1 rfl (by decide +kernel) ⟨Nat.le_of_ble_eq_true rfl, Nat.le_of_ble_eq_true rfl⟩ kGT_ok trivial (fun k q h => by simp at h) hl.1 rfl (Nat.le_of_ble_eq_true rfl) ⟨Nat.le_of_ble_eq_true rfl, Nat.le_of_ble_eq_true rfl⟩ dX7_starAngleIn_23 (fun r_2 hr_2 => ?_)
  have hr_2 : r_2 = (((R 1 (458 + 3 * u + 1)) + (R 1 8)) + ((R 1 0) * f)) % 360000 := hr_2
  subst hr_2
  exact W.iret (v := iI ((((R 1 (458 + 3 * u + 1)) + (R 1 8)) + ((R 1 0) * f)) % 360000)) hx hb hr (fun t9 ht _ => ⟨((((R 1 (458 + 3 * u + 1)) + (R 1 8)) + ((R 1 0) * f)) % 360000), rfl, (by first | rfl | omega : ((((R 1 (458 + 3 * u + 1)) + (R 1 8)) + ((R 1 0) * f)) % 360000 : Int) = stAng (R 1) (R 1 8) u f), ht⟩) (fun _ h => nomatch h) dX7_starAngleIn_26 hlocks
set_option maxHeartbeats 4000000 in
set_option maxRecDepth 100000 in
theorem c_X7_costOf (l : Launch) (D : va_G) (cy : Nat → ClassId) (a : Nat → Nat) (R : Nat → Int → Int) (t u : Int) (hI : Inv (R 1)) (h0 : 0 ≤ t) (h1 : t < R 1 12) (hp0 : 0 < pts (R 1) t) (h0u : 0 ≤ u) (h1u : u < R 1 13) : Met l yX7_costOf wsX7_costOf { frames := 5, cells := 0, slots := 0, locals := 112 } (kPre (GG D cy) D (rfW cy a R) ([.ref (a 0), .int (iI t), .int (iI u)] : List Value)) (kRO (fun r => r = cstZ (R 1) (R 1 8) t u)) 0 0 (fun _ => False) := by
  refine kRO_start (cc := cX7_costOf) (maxL := 6) (ret := (some .int)) (by decide) rfl (Nat.le_of_ble_eq_true rfl) ?_
  intro p e s m below meth c hx hb hr hlocks hml hts hown hG hP ls hl
  have hK := hG.1
  have hl : lv_has ls 6 [(0, .ref (a 0)), (1, .int (iI t)), (2, .int (iI u))] := hl
  have hm0 := hts (.constantLong RX7 199 (57296)) (by decide +kernel)
  have h12 := inv_S12 hI
  have hp := inv_pts hI h0 h1
  have hq := inv_cst hI (R 1 8) h0 h1 hp0 h0u h1u
  have ha := inv_ang (M := R 1) t 0
  have hrt := inv_rdT hI h0 h1 hp0
  have hpl := inv_plR hI h0u h1u
  have hf := inv_frm hI h0 h1 (p := 0) (by omega) hp0
  refine lv_aload_n hx hb dX7_costOf_0 rfl (lv_at hl 0 rfl) ?_
  refine lv_iload_n hx hb dX7_costOf_1 rfl (lv_at hl 1 rfl) ?_
  refine k_roV (As := [.int (iI t)]) (rest := []) ⟨hx, hb, hml, hown, hts⟩ (c_X7_radius l D cy a R t hI (by omega) (by omega) (by omega)) gX7_costOf_X7_radius rfl ⟨rfl, rfl⟩ 1 rfl (by decide +kernel) ⟨Nat.le_of_ble_eq_true rfl, Nat.le_of_ble_eq_true rfl⟩ (GG_ok D cy) hG hP (va_recv hK hP (ci := 6) (q0 := 0) rfl rfl) hl.1 rfl (Nat.le_of_ble_eq_true rfl) ⟨Nat.le_of_ble_eq_true rfl, Nat.le_of_ble_eq_true rfl⟩ dX7_costOf_2 (fun r_1 hr_1 => ?_)
  have hr_1 : r_1 = rdT (R 1) t := hr_1
  subst hr_1
  refine lv_aload_n hx hb dX7_costOf_5 rfl (lv_at hl 0 rfl) ?_
  refine lv_iload_n hx hb dX7_costOf_6 rfl (lv_at hl 2 rfl) ?_
  refine k_roV (As := [.int (iI u)]) (rest := [.int (iI (rdT (R 1) t))]) ⟨hx, hb, hml, hown, hts⟩ (c_X7_plateRadius l D cy a R u hI (by omega) (by omega)) gX7_costOf_X7_plateRadius rfl ⟨rfl, rfl⟩ 1 rfl (by decide +kernel) ⟨Nat.le_of_ble_eq_true rfl, Nat.le_of_ble_eq_true rfl⟩ (GG_ok D cy) hG hP (va_recv hK hP (ci := 6) (q0 := 0) rfl rfl) hl.1 rfl (Nat.le_of_ble_eq_true rfl) ⟨Nat.le_of_ble_eq_true rfl, Nat.le_of_ble_eq_true rfl⟩ dX7_costOf_7 (fun r_2 hr_2 => ?_)
  have hr_2 : r_2 = plR (R 1) u := hr_2
  subst hr_2
  refine k_isub hx hb dX7_costOf_10 ?_
  refine k_roS (As := [.int (iI ((rdT (R 1) t) - (plR (R 1) u)))]) (rest := []) ⟨hx, hb, hml, hown, hts⟩ (c_X7_size l D ((rdT (R 1) t) - (plR (R 1) u)) (by omega)) gX7_costOf_X7_size rfl ⟨rfl, rfl⟩ 1 rfl (by decide +kernel) ⟨Nat.le_of_ble_eq_true rfl, Nat.le_of_ble_eq_true rfl⟩ kGT_ok trivial (fun k q h => by simp at h) hl.1 rfl (Nat.le_of_ble_eq_true rfl) ⟨Nat.le_of_ble_eq_true rfl, Nat.le_of_ble_eq_true rfl⟩ dX7_costOf_11 (fun r_3 hr_3 => ?_)
  have hr_3 : r_3 = absI ((rdT (R 1) t) - (plR (R 1) u)) := hr_3
  subst hr_3
  refine lv_istore_n (lv' := [(3, .int (iI (absI ((rdT (R 1) t) - (plR (R 1) u))))), (0, .ref (a 0)), (1, .int (iI t)), (2, .int (iI u))]) hx hb dX7_costOf_14 rfl hl (by decide) rfl (fun ls hl => ?_)
  refine lv_aload_n hx hb dX7_costOf_15 rfl (lv_at hl 1 rfl) ?_
  refine lv_iload_n hx hb dX7_costOf_16 rfl (lv_at hl 2 rfl) ?_
  refine k_iconst hx hb dX7_costOf_17 ?_
  refine k_roV (As := [.int (iI t), .int (iI 0)]) (rest := []) ⟨hx, hb, hml, hown, hts⟩ (c_X7_angleOf l D cy a R t 0 hI (by omega) (by omega) (by omega) (by omega)) gX7_costOf_X7_angleOf rfl ⟨rfl, rfl⟩ 2 rfl (by decide +kernel) ⟨Nat.le_of_ble_eq_true rfl, Nat.le_of_ble_eq_true rfl⟩ (GG_ok D cy) hG hP (va_recv hK hP (ci := 6) (q0 := 0) rfl rfl) hl.1 rfl (Nat.le_of_ble_eq_true rfl) ⟨Nat.le_of_ble_eq_true rfl, Nat.le_of_ble_eq_true rfl⟩ dX7_costOf_18 (fun r_4 hr_4 => ?_)
  have hr_4 : r_4 = angOf (R 1) t 0 := hr_4
  subst hr_4
  refine lv_aload_n hx hb dX7_costOf_21 rfl (lv_at hl 1 rfl) ?_
  refine lv_iload_n hx hb dX7_costOf_22 rfl (lv_at hl 3 rfl) ?_
  refine lv_aload_n hx hb dX7_costOf_23 rfl (lv_at hl 1 rfl) ?_
  refine lv_iload_n hx hb dX7_costOf_24 rfl (lv_at hl 2 rfl) ?_
  refine k_iconst hx hb dX7_costOf_25 ?_
  refine k_roV (As := [.int (iI t), .int (iI 0)]) (rest := [.int (iI u), .ref (a 0), .int (iI (angOf (R 1) t 0))]) ⟨hx, hb, hml, hown, hts⟩ (c_X7_frameOf l D cy a R t 0 (by omega) (by omega) (by omega) (by omega)) gX7_costOf_X7_frameOf rfl ⟨rfl, rfl⟩ 2 rfl (by decide +kernel) ⟨Nat.le_of_ble_eq_true rfl, Nat.le_of_ble_eq_true rfl⟩ (GG_ok D cy) hG hP (va_recv hK hP (ci := 6) (q0 := 0) rfl rfl) hl.1 rfl (Nat.le_of_ble_eq_true rfl) ⟨Nat.le_of_ble_eq_true rfl, Nat.le_of_ble_eq_true rfl⟩ dX7_costOf_26 (fun r_5 hr_5 => ?_)
  have hr_5 : r_5 = frm (R 1) t 0 := hr_5
  subst hr_5
  refine k_roV (As := [.int (iI u), .int (iI (frm (R 1) t 0))]) (rest := [.int (iI (angOf (R 1) t 0))]) ⟨hx, hb, hml, hown, hts⟩ (c_X7_starAngleIn l D cy a R u (frm (R 1) t 0) hI (by omega) (by omega) (by omega)) gX7_costOf_X7_starAngleIn rfl ⟨rfl, rfl⟩ 2 rfl (by decide +kernel) ⟨Nat.le_of_ble_eq_true rfl, Nat.le_of_ble_eq_true rfl⟩ (GG_ok D cy) hG hP (va_recv hK hP (ci := 6) (q0 := 0) rfl rfl) hl.1 rfl (Nat.le_of_ble_eq_true rfl) ⟨Nat.le_of_ble_eq_true rfl, Nat.le_of_ble_eq_true rfl⟩ dX7_costOf_29 (fun r_6 hr_6 => ?_)
  have hr_6 : r_6 = stAng (R 1) (R 1 8) u (frm (R 1) t 0) := hr_6
  subst hr_6
  have hsa := stAng_bd (R 1) (R 1 8) u (frm (R 1) t 0)
  refine k_roS (As := [.int (iI (angOf (R 1) t 0)), .int (iI (stAng (R 1) (R 1 8) u (frm (R 1) t 0)))]) (rest := []) ⟨hx, hb, hml, hown, hts⟩ (c_X7_turn l D (angOf (R 1) t 0) (stAng (R 1) (R 1 8) u (frm (R 1) t 0)) (by omega) (by omega)) gX7_costOf_X7_turn rfl ⟨rfl, rfl⟩ 2 rfl (by decide +kernel) ⟨Nat.le_of_ble_eq_true rfl, Nat.le_of_ble_eq_true rfl⟩ kGT_ok trivial (fun k q h => by simp at h) hl.1 rfl (Nat.le_of_ble_eq_true rfl) ⟨Nat.le_of_ble_eq_true rfl, Nat.le_of_ble_eq_true rfl⟩ dX7_costOf_32 (fun r_7 hr_7 => ?_)
  have hr_7 : r_7 = turnI (angOf (R 1) t 0) (stAng (R 1) (R 1 8) u (frm (R 1) t 0)) := hr_7
  subst hr_7
  have htu := turnI_bd (angOf (R 1) t 0) (stAng (R 1) (R 1 8) u (frm (R 1) t 0))
  refine k_roS (As := [.int (iI (turnI (angOf (R 1) t 0) (stAng (R 1) (R 1 8) u (frm (R 1) t 0))))]) (rest := []) ⟨hx, hb, hml, hown, hts⟩ (c_X7_size l D (turnI (angOf (R 1) t 0) (stAng (R 1) (R 1 8) u (frm (R 1) t 0))) (by omega)) gX7_costOf_X7_size rfl ⟨rfl, rfl⟩ 1 rfl (by decide +kernel) ⟨Nat.le_of_ble_eq_true rfl, Nat.le_of_ble_eq_true rfl⟩ kGT_ok trivial (fun k q h => by simp at h) hl.1 rfl (Nat.le_of_ble_eq_true rfl) ⟨Nat.le_of_ble_eq_true rfl, Nat.le_of_ble_eq_true rfl⟩ dX7_costOf_35 (fun r_8 hr_8 => ?_)
  have hr_8 : r_8 = absI (turnI (angOf (R 1) t 0) (stAng (R 1) (R 1 8) u (frm (R 1) t 0))) := hr_8
  subst hr_8
  have hab := absI_spec (turnI (angOf (R 1) t 0) (stAng (R 1) (R 1 8) u (frm (R 1) t 0)))
  refine k_i2l hx hb dX7_costOf_38 (by omega) ?_
  refine lv_lstore (lv' := [(4, .long (lI (absI (turnI (angOf (R 1) t 0) (stAng (R 1) (R 1 8) u (frm (R 1) t 0)))))), (3, .int (iI (absI ((rdT (R 1) t) - (plR (R 1) u))))), (0, .ref (a 0)), (1, .int (iI t)), (2, .int (iI u))]) hx hb dX7_costOf_39 hl (by decide) rfl (fun ls hl => ?_)
  refine lv_iload_n hx hb dX7_costOf_41 rfl (lv_at hl 1 rfl) ?_
  refine lv_lload hx hb dX7_costOf_42 (lv_at hl 0 rfl) ?_
  refine lv_aload_n hx hb dX7_costOf_44 rfl (lv_at hl 2 rfl) ?_
  refine lv_iload_n hx hb dX7_costOf_45 rfl (lv_at hl 3 rfl) ?_
  refine k_roV (As := [.int (iI t)]) (rest := [.long (lI (absI (turnI (angOf (R 1) t 0) (stAng (R 1) (R 1 8) u (frm (R 1) t 0))))), .int (iI (absI ((rdT (R 1) t) - (plR (R 1) u))))]) ⟨hx, hb, hml, hown, hts⟩ (c_X7_radius l D cy a R t hI (by omega) (by omega) (by omega)) gX7_costOf_X7_radius rfl ⟨rfl, rfl⟩ 1 rfl (by decide +kernel) ⟨Nat.le_of_ble_eq_true rfl, Nat.le_of_ble_eq_true rfl⟩ (GG_ok D cy) hG hP (va_recv hK hP (ci := 6) (q0 := 0) rfl rfl) hl.1 rfl (Nat.le_of_ble_eq_true rfl) ⟨Nat.le_of_ble_eq_true rfl, Nat.le_of_ble_eq_true rfl⟩ dX7_costOf_46 (fun r_9 hr_9 => ?_)
  have hr_9 : r_9 = rdT (R 1) t := hr_9
  subst hr_9
  refine k_i2l hx hb dX7_costOf_49 (by omega) ?_
  refine k_lmul hx hb dX7_costOf_50 ?_
  refine k_ldc2 (z := 57296) hx hb hown hm0 (by decide +kernel) dX7_costOf_51 ?_
  refine k_ldiv hx hb dX7_costOf_54 (by omega) (by omega) ?_
  refine k_l2i hx hb dX7_costOf_55 (by omega) ?_
  refine k_iadd hx hb dX7_costOf_56 ?_
  exact W.iret (v := iI ((absI ((rdT (R 1) t) - (plR (R 1) u))) + (((absI (turnI (angOf (R 1) t 0) (stAng (R 1) (R 1 8) u (frm (R 1) t 0)))) * (rdT (R 1) t)) / 57296))) hx hb hr (fun t9 ht _ => ⟨((absI ((rdT (R 1) t) - (plR (R 1) u))) + (((absI (turnI (angOf (R 1) t 0) (stAng (R 1) (R 1 8) u (frm (R 1) t 0)))) * (rdT (R 1) t)) / 57296)), rfl, (by first | rfl | omega : ((absI ((rdT (R 1) t) - (plR (R 1) u))) + (((absI (turnI (angOf (R 1) t 0) (stAng (R 1) (R 1 8) u (frm (R 1) t 0)))) * (rdT (R 1) t)) / 57296) : Int) = cstZ (R 1) (R 1 8) t u), ht⟩) (fun _ h => nomatch h) dX7_costOf_57 hlocks
set_option maxHeartbeats 4000000 in
set_option maxRecDepth 100000 in
theorem c_X7_isMissing (l : Launch) (D : va_G) (cy : Nat → ClassId) (a : Nat → Nat) (R : Nat → Int → Int) (u : Int) (hI : Inv (R 1)) (h0u : 0 ≤ u) (h1u : u < R 1 13) (hI6 : TRok (R 6)) : Met l yX7_isMissing wsX7_isMissing { frames := 1, cells := 0, slots := 0, locals := 22 } (kPre (GG D cy) D (rfW cy a R) ([.ref (a 0), .int (iI u)] : List Value)) (kRO (fun r => ((missP (R 1) (R 6) u) ∧ r = 1) ∨ (¬ (missP (R 1) (R 6) u) ∧ r = 0))) 0 0 (fun _ => False) := by
  refine kRO_start (cc := cX7_isMissing) (maxL := 2) (ret := (some .boolean)) (by decide) rfl (Nat.le_of_ble_eq_true rfl) ?_
  intro p e s m below meth c hx hb hr hlocks hml hts hown hG hP ls hl
  have hK := hG.1
  have hl : lv_has ls 2 [(0, .ref (a 0)), (1, .int (iI u))] := hl
  have hinX7 : ∀ w ∈ u_ws RX7 TX7 19, w ∈ wsX7_isMissing := by decide +kernel
  have hm0 := hts (.fieldLink RX7 25 "ArcPlateModel" "trailOf" "[I") (by decide +kernel)
  have hm1 := hts (.constant RX7 109 (-1000000000)) (by decide +kernel)
  have hm2 := hts (.fieldLink RX7 7 "ArcPlateModel" "m" "[I") (by decide +kernel)
  have h12 := inv_S12 hI
  have hc := hI.2.2 u h0u h1u
  have hv9 := hI.1.2.2.2.2.2.2.2.2.2.1
  have ht6 := hI6 u h0u (by omega)
  refine lv_aload_n hx hb dX7_isMissing_0 rfl (lv_at hl 0 rfl) ?_
  refine va_get (D := D) (ci := 6) (v := .ref (a 6)) (C := RX7) (T := TX7) (N := 19) hx hb hts hinX7 hown hK hP 0 rfl rfl 12 (by decide) hm0 (fun _ h9 => h9) rfl dX7_isMissing_1 ?_
  refine lv_iload_n hx hb dX7_isMissing_4 rfl (lv_at hl 1 rfl) ?_
  refine k_iald hx hb hK hP 6 0 rfl rfl (i := u) (by omega) dX7_isMissing_5 ?_
  refine k_ldc (z := (-1000000000)) hx hb hown hm1 (by decide +kernel) dX7_isMissing_6 ?_
  refine k_icmp_ne (tgt := 31) hx hb dX7_isMissing_8 (by decide) (by omega) (by omega) (fun c_1 => ?_) (fun c_1 => ?_)
  · skip
    refine k_iconst hx hb dX7_isMissing_31 ?_
    exact W.zret (v := iI 0) hx hb hr (by decide +kernel) (fun t9 ht _ => ⟨0, rfl, (by first | exact Or.inl ⟨⟨by omega, by omega⟩, rfl⟩ | exact Or.inr ⟨fun h9 => by have g1 := h9.1; have g2 := h9.2; omega, rfl⟩ : ((missP (R 1) (R 6) u) ∧ (0 : Int) = 1) ∨ (¬ (missP (R 1) (R 6) u) ∧ (0 : Int) = 0)), ht⟩) (fun _ h => nomatch h) dX7_isMissing_32 hlocks
  · skip
    refine lv_aload_n hx hb dX7_isMissing_11 rfl (lv_at hl 0 rfl) ?_
    refine lv_iload_n hx hb dX7_isMissing_12 rfl (lv_at hl 1 rfl) ?_
    refine k_iconst hx hb dX7_isMissing_13 ?_
    refine k_roV (As := [.int (iI u), .int (iI 2)]) (rest := []) ⟨hx, hb, hml, hown, hts⟩ (c_X7_ofStar l D cy a R u 2 (by omega) (by omega) (by omega) (by omega)) gX7_isMissing_X7_ofStar rfl ⟨rfl, rfl⟩ 2 rfl (by decide +kernel) ⟨Nat.le_of_ble_eq_true rfl, Nat.le_of_ble_eq_true rfl⟩ (GG_ok D cy) hG hP (va_recv hK hP (ci := 6) (q0 := 0) rfl rfl) hl.1 rfl (Nat.le_of_ble_eq_true rfl) ⟨Nat.le_of_ble_eq_true rfl, Nat.le_of_ble_eq_true rfl⟩ dX7_isMissing_14 (fun r_2 hr_2 => ?_)
    have hr_2 : r_2 = R 1 (458 + 3 * u + 2) := hr_2
    subst hr_2
    refine lv_aload_n hx hb dX7_isMissing_17 rfl (lv_at hl 0 rfl) ?_
    refine va_get (D := D) (ci := 6) (v := .ref (a 1)) (C := RX7) (T := TX7) (N := 19) hx hb hts hinX7 hown hK hP 0 rfl rfl 0 (by decide) hm2 (fun _ h9 => h9) rfl dX7_isMissing_18 ?_
    refine k_bipush hx hb dX7_isMissing_21 (by decide +kernel) ?_
    refine k_iald hx hb hK hP 1 0 rfl rfl (i := 9) (by omega) dX7_isMissing_23 ?_
    refine k_icmp_lt (tgt := 31) hx hb dX7_isMissing_24 (by decide) (by omega) (by omega) (fun c_3 => ?_) (fun c_3 => ?_)
    · skip
      refine k_iconst hx hb dX7_isMissing_31 ?_
      exact W.zret (v := iI 0) hx hb hr (by decide +kernel) (fun t9 ht _ => ⟨0, rfl, (by first | exact Or.inl ⟨⟨by omega, by omega⟩, rfl⟩ | exact Or.inr ⟨fun h9 => by have g1 := h9.1; have g2 := h9.2; omega, rfl⟩ : ((missP (R 1) (R 6) u) ∧ (0 : Int) = 1) ∨ (¬ (missP (R 1) (R 6) u) ∧ (0 : Int) = 0)), ht⟩) (fun _ h => nomatch h) dX7_isMissing_32 hlocks
    · skip
      refine k_iconst hx hb dX7_isMissing_27 ?_
      refine lv_goto (tgt := 32) hx hb dX7_isMissing_28 (by decide) ?_
      exact W.zret (v := iI 1) hx hb hr (by decide +kernel) (fun t9 ht _ => ⟨1, rfl, (by first | exact Or.inl ⟨⟨by omega, by omega⟩, rfl⟩ | exact Or.inr ⟨fun h9 => by have g1 := h9.1; have g2 := h9.2; omega, rfl⟩ : ((missP (R 1) (R 6) u) ∧ (1 : Int) = 1) ∨ (¬ (missP (R 1) (R 6) u) ∧ (1 : Int) = 0)), ht⟩) (fun _ h => nomatch h) dX7_isMissing_32 hlocks
set_option maxHeartbeats 4000000 in
set_option maxRecDepth 100000 in
theorem c_X7_pointOf (l : Launch) (D : va_G) (cy : Nat → ClassId) (a : Nat → Nat) (R : Nat → Int → Int) (t q w : Int) (hI : Inv (R 1)) (h0 : 0 ≤ t) (h1 : t < R 1 12) (h2 : 0 ≤ q) (h3 : q < pts (R 1) t) (hw : 0 ≤ w ∧ w ≤ 6) : Met l yX7_pointOf wsX7_pointOf { frames := 4, cells := 0, slots := 0, locals := 89 } (kPre (GG D cy) D (rfW cy a R) ([.ref (a 0), .int (iI t), .int (iI q), .int (iI w)] : List Value)) (kRO (fun r => r = ptV (R 1) t q w)) 0 0 (fun _ => False) := by
  refine kRO_start (cc := cX7_pointOf) (maxL := 4) (ret := (some .int)) (by decide) rfl (Nat.le_of_ble_eq_true rfl) ?_
  intro p e s m below meth c hx hb hr hlocks hml hts hown hG hP ls hl
  have hK := hG.1
  have hl : lv_has ls 4 [(0, .ref (a 0)), (1, .int (iI t)), (2, .int (iI q)), (3, .int (iI w))] := hl
  have hinX7 : ∀ w ∈ u_ws RX7 TX7 19, w ∈ wsX7_pointOf := by decide +kernel
  have hm0 := hts (.fieldLink RX7 7 "ArcPlateModel" "m" "[I") (by decide +kernel)
  have h12 := inv_S12 hI
  have hp := inv_pts hI h0 h1
  refine lv_iload_n hx hb dX7_pointOf_0 rfl (lv_at hl 3 rfl) ?_
  rcases (show w = 3 ∨ w = 4 ∨ w = 5 ∨ w = 6 ∨ (w < 3 ∨ 6 < w) by omega) with c_1 | c_1 | c_1 | c_1 | c_1
  · skip
    refine k_tin (tgt := 32) hx hb 3 c_1 (by decide) dX7_pointOf_1 (by decide) (by decide) rfl (by decide) ?_
    refine lv_aload_n hx hb dX7_pointOf_32 rfl (lv_at hl 0 rfl) ?_
    refine lv_iload_n hx hb dX7_pointOf_33 rfl (lv_at hl 1 rfl) ?_
    refine lv_iload_n hx hb dX7_pointOf_34 rfl (lv_at hl 2 rfl) ?_
    refine k_roV (As := [.int (iI t), .int (iI q)]) (rest := []) ⟨hx, hb, hml, hown, hts⟩ (c_X7_placeX l D cy a R t q hI (by omega) (by omega) (by omega) (by omega)) gX7_pointOf_X7_placeX rfl ⟨rfl, rfl⟩ 2 rfl (by decide +kernel) ⟨Nat.le_of_ble_eq_true rfl, Nat.le_of_ble_eq_true rfl⟩ (GG_ok D cy) hG hP (va_recv hK hP (ci := 6) (q0 := 0) rfl rfl) hl.1 rfl (Nat.le_of_ble_eq_true rfl) ⟨Nat.le_of_ble_eq_true rfl, Nat.le_of_ble_eq_true rfl⟩ dX7_pointOf_35 (fun r_2 hr_2 => ?_)
    have hr_2 : r_2 = plX (R 1) t q := hr_2
    subst hr_2
    exact W.iret (v := iI (plX (R 1) t q)) hx hb hr (fun t9 ht _ => ⟨(plX (R 1) t q), rfl, (by first | (exfalso; omega) | (unfold ptV; (repeat (first | rw [if_pos (by omega)] | rw [if_neg (by omega)])); first | done | rfl | exact hgd.symm) : (plX (R 1) t q : Int) = ptV (R 1) t q w), ht⟩) (fun _ h => nomatch h) dX7_pointOf_38 hlocks
  · skip
    refine k_tin (tgt := 39) hx hb 4 c_1 (by decide) dX7_pointOf_1 (by decide) (by decide) rfl (by decide) ?_
    refine lv_aload_n hx hb dX7_pointOf_39 rfl (lv_at hl 0 rfl) ?_
    refine lv_iload_n hx hb dX7_pointOf_40 rfl (lv_at hl 1 rfl) ?_
    refine lv_iload_n hx hb dX7_pointOf_41 rfl (lv_at hl 2 rfl) ?_
    refine k_roV (As := [.int (iI t), .int (iI q)]) (rest := []) ⟨hx, hb, hml, hown, hts⟩ (c_X7_placeY l D cy a R t q hI (by omega) (by omega) (by omega) (by omega)) gX7_pointOf_X7_placeY rfl ⟨rfl, rfl⟩ 2 rfl (by decide +kernel) ⟨Nat.le_of_ble_eq_true rfl, Nat.le_of_ble_eq_true rfl⟩ (GG_ok D cy) hG hP (va_recv hK hP (ci := 6) (q0 := 0) rfl rfl) hl.1 rfl (Nat.le_of_ble_eq_true rfl) ⟨Nat.le_of_ble_eq_true rfl, Nat.le_of_ble_eq_true rfl⟩ dX7_pointOf_42 (fun r_3 hr_3 => ?_)
    have hr_3 : r_3 = plY (R 1) t q := hr_3
    subst hr_3
    exact W.iret (v := iI (plY (R 1) t q)) hx hb hr (fun t9 ht _ => ⟨(plY (R 1) t q), rfl, (by first | (exfalso; omega) | (unfold ptV; (repeat (first | rw [if_pos (by omega)] | rw [if_neg (by omega)])); first | done | rfl | exact hgd.symm) : (plY (R 1) t q : Int) = ptV (R 1) t q w), ht⟩) (fun _ h => nomatch h) dX7_pointOf_45 hlocks
  · skip
    refine k_tin (tgt := 46) hx hb 5 c_1 (by decide) dX7_pointOf_1 (by decide) (by decide) rfl (by decide) ?_
    refine lv_aload_n hx hb dX7_pointOf_46 rfl (lv_at hl 0 rfl) ?_
    refine lv_iload_n hx hb dX7_pointOf_47 rfl (lv_at hl 1 rfl) ?_
    refine lv_iload_n hx hb dX7_pointOf_48 rfl (lv_at hl 2 rfl) ?_
    refine k_roV (As := [.int (iI t), .int (iI q)]) (rest := []) ⟨hx, hb, hml, hown, hts⟩ (c_X7_radiusOf l D cy a R t q hI (by omega) (by omega) (by omega) (by omega)) gX7_pointOf_X7_radiusOf rfl ⟨rfl, rfl⟩ 2 rfl (by decide +kernel) ⟨Nat.le_of_ble_eq_true rfl, Nat.le_of_ble_eq_true rfl⟩ (GG_ok D cy) hG hP (va_recv hK hP (ci := 6) (q0 := 0) rfl rfl) hl.1 rfl (Nat.le_of_ble_eq_true rfl) ⟨Nat.le_of_ble_eq_true rfl, Nat.le_of_ble_eq_true rfl⟩ dX7_pointOf_49 (fun r_4 hr_4 => ?_)
    have hr_4 : r_4 = rdOf (R 1) t q := hr_4
    subst hr_4
    exact W.iret (v := iI (rdOf (R 1) t q)) hx hb hr (fun t9 ht _ => ⟨(rdOf (R 1) t q), rfl, (by first | (exfalso; omega) | (unfold ptV; (repeat (first | rw [if_pos (by omega)] | rw [if_neg (by omega)])); first | done | rfl | exact hgd.symm) : (rdOf (R 1) t q : Int) = ptV (R 1) t q w), ht⟩) (fun _ h => nomatch h) dX7_pointOf_52 hlocks
  · skip
    refine k_tin (tgt := 53) hx hb 6 c_1 (by decide) dX7_pointOf_1 (by decide) (by decide) rfl (by decide) ?_
    refine lv_aload_n hx hb dX7_pointOf_53 rfl (lv_at hl 0 rfl) ?_
    refine lv_iload_n hx hb dX7_pointOf_54 rfl (lv_at hl 1 rfl) ?_
    refine lv_iload_n hx hb dX7_pointOf_55 rfl (lv_at hl 2 rfl) ?_
    refine k_roV (As := [.int (iI t), .int (iI q)]) (rest := []) ⟨hx, hb, hml, hown, hts⟩ (c_X7_angleOf l D cy a R t q hI (by omega) (by omega) (by omega) (by omega)) gX7_pointOf_X7_angleOf rfl ⟨rfl, rfl⟩ 2 rfl (by decide +kernel) ⟨Nat.le_of_ble_eq_true rfl, Nat.le_of_ble_eq_true rfl⟩ (GG_ok D cy) hG hP (va_recv hK hP (ci := 6) (q0 := 0) rfl rfl) hl.1 rfl (Nat.le_of_ble_eq_true rfl) ⟨Nat.le_of_ble_eq_true rfl, Nat.le_of_ble_eq_true rfl⟩ dX7_pointOf_56 (fun r_5 hr_5 => ?_)
    have hr_5 : r_5 = angOf (R 1) t q := hr_5
    subst hr_5
    exact W.iret (v := iI (angOf (R 1) t q)) hx hb hr (fun t9 ht _ => ⟨(angOf (R 1) t q), rfl, (by first | (exfalso; omega) | (unfold ptV; (repeat (first | rw [if_pos (by omega)] | rw [if_neg (by omega)])); first | done | rfl | exact hgd.symm) : (angOf (R 1) t q : Int) = ptV (R 1) t q w), ht⟩) (fun _ h => nomatch h) dX7_pointOf_59 hlocks
  · skip
    refine k_tout (tgt := 60) hx hb (by omega) dX7_pointOf_1 c_1 (by decide) ?_
    refine lv_aload_n hx hb dX7_pointOf_60 rfl (lv_at hl 0 rfl) ?_
    refine va_get (D := D) (ci := 6) (v := .ref (a 1)) (C := RX7) (T := TX7) (N := 19) hx hb hts hinX7 hown hK hP 0 rfl rfl 0 (by decide) hm0 (fun _ h9 => h9) rfl dX7_pointOf_61 ?_
    refine lv_iload_n hx hb dX7_pointOf_64 rfl (lv_at hl 1 rfl) ?_
    refine lv_iload_n hx hb dX7_pointOf_65 rfl (lv_at hl 2 rfl) ?_
    refine k_roS (As := [.int (iI t), .int (iI q)]) (rest := [.ref (a 1)]) ⟨hx, hb, hml, hown, hts⟩ (c_X7_cellOf l D t q ) gX7_pointOf_X7_cellOf rfl ⟨rfl, rfl⟩ 2 rfl (by decide +kernel) ⟨Nat.le_of_ble_eq_true rfl, Nat.le_of_ble_eq_true rfl⟩ kGT_ok trivial (fun k q h => by simp at h) hl.1 rfl (Nat.le_of_ble_eq_true rfl) ⟨Nat.le_of_ble_eq_true rfl, Nat.le_of_ble_eq_true rfl⟩ dX7_pointOf_66 (fun r_6 hr_6 => ?_)
    have hr_6 : r_6 = cel t q := hr_6
    subst hr_6
    have := cel_eq t q
    refine lv_iload_n hx hb dX7_pointOf_69 rfl (lv_at hl 3 rfl) ?_
    refine k_iadd hx hb dX7_pointOf_70 ?_
    refine k_iald hx hb hK hP 1 0 rfl rfl (i := (cel t q) + w) (by have := cel_eq t q; omega) dX7_pointOf_71 ?_
    exact W.iret (v := iI (R 1 ((cel t q) + w))) hx hb hr (fun t9 ht _ => ⟨(R 1 ((cel t q) + w)), rfl, (by first | (exfalso; omega) | (unfold ptV; (repeat (first | rw [if_pos (by omega)] | rw [if_neg (by omega)])); first | done | rfl | exact hgd.symm) : (R 1 ((cel t q) + w) : Int) = ptV (R 1) t q w), ht⟩) (fun _ h => nomatch h) dX7_pointOf_72 hlocks
set_option maxHeartbeats 4000000 in
set_option maxRecDepth 100000 in
theorem c_X7_trailOfWhat (l : Launch) (D : va_G) (cy : Nat → ClassId) (a : Nat → Nat) (R : Nat → Int → Int) (t w : Int) (hI : Inv (R 1)) (h0 : 0 ≤ t) (h1 : t < R 1 12) (hw : 0 ≤ w ∧ w ≤ 8) : Met l yX7_trailOfWhat wsX7_trailOfWhat { frames := 7, cells := 0, slots := 0, locals := 152 } (kPre (GG D cy) D (rfW cy a R) ([.ref (a 0), .int (iI t), .int (iI w)] : List Value)) (kRO (fun r => r = trV (R 1) (R 5) t w)) 0 0 (fun _ => False) := by
  refine kRO_start (cc := cX7_trailOfWhat) (maxL := 3) (ret := (some .int)) (by decide) rfl (Nat.le_of_ble_eq_true rfl) ?_
  intro p e s m below meth c hx hb hr hlocks hml hts hown hG hP ls hl
  have hK := hG.1
  have hl : lv_has ls 3 [(0, .ref (a 0)), (1, .int (iI t)), (2, .int (iI w))] := hl
  have hinX7 : ∀ w ∈ u_ws RX7 TX7 19, w ∈ wsX7_trailOfWhat := by decide +kernel
  have hm0 := hts (.fieldLink RX7 7 "ArcPlateModel" "m" "[I") (by decide +kernel)
  have hm1 := hts (.fieldLink RX7 22 "ArcPlateModel" "starOf" "[I") (by decide +kernel)
  have hm2 := hts (.constant RX7 109 (-1000000000)) (by decide +kernel)
  have h12 := inv_S12 hI
  have hp := inv_pts hI h0 h1
  refine lv_aload_n hx hb dX7_trailOfWhat_0 rfl (lv_at hl 0 rfl) ?_
  refine lv_iload_n hx hb dX7_trailOfWhat_1 rfl (lv_at hl 1 rfl) ?_
  refine k_roV (As := [.int (iI t)]) (rest := []) ⟨hx, hb, hml, hown, hts⟩ (c_X7_points l D cy a R t (by omega) (by omega)) gX7_trailOfWhat_X7_points rfl ⟨rfl, rfl⟩ 1 rfl (by decide +kernel) ⟨Nat.le_of_ble_eq_true rfl, Nat.le_of_ble_eq_true rfl⟩ (GG_ok D cy) hG hP (va_recv hK hP (ci := 6) (q0 := 0) rfl rfl) hl.1 rfl (Nat.le_of_ble_eq_true rfl) ⟨Nat.le_of_ble_eq_true rfl, Nat.le_of_ble_eq_true rfl⟩ dX7_trailOfWhat_2 (fun r_1 hr_1 => ?_)
  have hr_1 : r_1 = pts (R 1) t := hr_1
  subst hr_1
  refine k_if_ne (tgt := 21) hx hb dX7_trailOfWhat_5 (by decide) (by omega) (fun c_2 => ?_) (fun c_2 => ?_)
  · skip
    refine lv_iload_n hx hb dX7_trailOfWhat_21 rfl (lv_at hl 2 rfl) ?_
    rcases (show w = 0 ∨ w = 1 ∨ w = 2 ∨ w = 3 ∨ w = 4 ∨ w = 5 ∨ w = 6 ∨ w = 7 ∨ (w < 0 ∨ 7 < w) by omega) with c_3 | c_3 | c_3 | c_3 | c_3 | c_3 | c_3 | c_3 | c_3
    · skip
      refine k_tin (tgt := 68) hx hb 0 c_3 (by decide) dX7_trailOfWhat_22 (by decide) (by decide) rfl (by decide) ?_
      refine lv_aload_n hx hb dX7_trailOfWhat_68 rfl (lv_at hl 0 rfl) ?_
      refine lv_iload_n hx hb dX7_trailOfWhat_69 rfl (lv_at hl 1 rfl) ?_
      refine k_roV (As := [.int (iI t)]) (rest := []) ⟨hx, hb, hml, hown, hts⟩ (c_X7_points l D cy a R t (by omega) (by omega)) gX7_trailOfWhat_X7_points rfl ⟨rfl, rfl⟩ 1 rfl (by decide +kernel) ⟨Nat.le_of_ble_eq_true rfl, Nat.le_of_ble_eq_true rfl⟩ (GG_ok D cy) hG hP (va_recv hK hP (ci := 6) (q0 := 0) rfl rfl) hl.1 rfl (Nat.le_of_ble_eq_true rfl) ⟨Nat.le_of_ble_eq_true rfl, Nat.le_of_ble_eq_true rfl⟩ dX7_trailOfWhat_70 (fun r_4 hr_4 => ?_)
      have hr_4 : r_4 = pts (R 1) t := hr_4
      subst hr_4
      exact W.iret (v := iI (pts (R 1) t)) hx hb hr (fun t9 ht _ => ⟨(pts (R 1) t), rfl, (by first | (exfalso; omega) | (unfold trV; (repeat (first | rw [if_pos (by omega)] | rw [if_neg (by omega)])); first | done | rfl | exact hgd.symm) : (pts (R 1) t : Int) = trV (R 1) (R 5) t w), ht⟩) (fun _ h => nomatch h) dX7_trailOfWhat_73 hlocks
    · skip
      refine k_tin (tgt := 74) hx hb 1 c_3 (by decide) dX7_trailOfWhat_22 (by decide) (by decide) rfl (by decide) ?_
      refine lv_aload_n hx hb dX7_trailOfWhat_74 rfl (lv_at hl 0 rfl) ?_
      refine lv_iload_n hx hb dX7_trailOfWhat_75 rfl (lv_at hl 1 rfl) ?_
      refine k_roV (As := [.int (iI t)]) (rest := []) ⟨hx, hb, hml, hown, hts⟩ (c_X7_radius l D cy a R t hI (by omega) (by omega) (by omega)) gX7_trailOfWhat_X7_radius rfl ⟨rfl, rfl⟩ 1 rfl (by decide +kernel) ⟨Nat.le_of_ble_eq_true rfl, Nat.le_of_ble_eq_true rfl⟩ (GG_ok D cy) hG hP (va_recv hK hP (ci := 6) (q0 := 0) rfl rfl) hl.1 rfl (Nat.le_of_ble_eq_true rfl) ⟨Nat.le_of_ble_eq_true rfl, Nat.le_of_ble_eq_true rfl⟩ dX7_trailOfWhat_76 (fun r_5 hr_5 => ?_)
      have hr_5 : r_5 = rdT (R 1) t := hr_5
      subst hr_5
      exact W.iret (v := iI (rdT (R 1) t)) hx hb hr (fun t9 ht _ => ⟨(rdT (R 1) t), rfl, (by first | (exfalso; omega) | (unfold trV; (repeat (first | rw [if_pos (by omega)] | rw [if_neg (by omega)])); first | done | rfl | exact hgd.symm) : (rdT (R 1) t : Int) = trV (R 1) (R 5) t w), ht⟩) (fun _ h => nomatch h) dX7_trailOfWhat_79 hlocks
    · skip
      refine k_tin (tgt := 80) hx hb 2 c_3 (by decide) dX7_trailOfWhat_22 (by decide) (by decide) rfl (by decide) ?_
      refine lv_aload_n hx hb dX7_trailOfWhat_80 rfl (lv_at hl 0 rfl) ?_
      refine lv_iload_n hx hb dX7_trailOfWhat_81 rfl (lv_at hl 1 rfl) ?_
      refine k_roV (As := [.int (iI t)]) (rest := []) ⟨hx, hb, hml, hown, hts⟩ (c_X7_spread l D cy a R t hI (by omega) (by omega) (by omega)) gX7_trailOfWhat_X7_spread rfl ⟨rfl, rfl⟩ 1 rfl (by decide +kernel) ⟨Nat.le_of_ble_eq_true rfl, Nat.le_of_ble_eq_true rfl⟩ (GG_ok D cy) hG hP (va_recv hK hP (ci := 6) (q0 := 0) rfl rfl) hl.1 rfl (Nat.le_of_ble_eq_true rfl) ⟨Nat.le_of_ble_eq_true rfl, Nat.le_of_ble_eq_true rfl⟩ dX7_trailOfWhat_82 (fun r_6 hr_6 => ?_)
      have hr_6 : r_6 = sprd (R 1) t := hr_6
      subst hr_6
      exact W.iret (v := iI (sprd (R 1) t)) hx hb hr (fun t9 ht _ => ⟨(sprd (R 1) t), rfl, (by first | (exfalso; omega) | (unfold trV; (repeat (first | rw [if_pos (by omega)] | rw [if_neg (by omega)])); first | done | rfl | exact hgd.symm) : (sprd (R 1) t : Int) = trV (R 1) (R 5) t w), ht⟩) (fun _ h => nomatch h) dX7_trailOfWhat_85 hlocks
    · skip
      refine k_tin (tgt := 86) hx hb 3 c_3 (by decide) dX7_trailOfWhat_22 (by decide) (by decide) rfl (by decide) ?_
      refine lv_aload_n hx hb dX7_trailOfWhat_86 rfl (lv_at hl 0 rfl) ?_
      refine lv_iload_n hx hb dX7_trailOfWhat_87 rfl (lv_at hl 1 rfl) ?_
      refine k_roV (As := [.int (iI t)]) (rest := []) ⟨hx, hb, hml, hown, hts⟩ (c_X7_sweep l D cy a R t hI (by omega) (by omega) (by omega)) gX7_trailOfWhat_X7_sweep rfl ⟨rfl, rfl⟩ 1 rfl (by decide +kernel) ⟨Nat.le_of_ble_eq_true rfl, Nat.le_of_ble_eq_true rfl⟩ (GG_ok D cy) hG hP (va_recv hK hP (ci := 6) (q0 := 0) rfl rfl) hl.1 rfl (Nat.le_of_ble_eq_true rfl) ⟨Nat.le_of_ble_eq_true rfl, Nat.le_of_ble_eq_true rfl⟩ dX7_trailOfWhat_88 (fun r_7 hr_7 => ?_)
      have hr_7 : r_7 = swp (R 1) t := hr_7
      subst hr_7
      exact W.iret (v := iI (swp (R 1) t)) hx hb hr (fun t9 ht _ => ⟨(swp (R 1) t), rfl, (by first | (exfalso; omega) | (unfold trV; (repeat (first | rw [if_pos (by omega)] | rw [if_neg (by omega)])); first | done | rfl | exact hgd.symm) : (swp (R 1) t : Int) = trV (R 1) (R 5) t w), ht⟩) (fun _ h => nomatch h) dX7_trailOfWhat_91 hlocks
    · skip
      refine k_tin (tgt := 92) hx hb 4 c_3 (by decide) dX7_trailOfWhat_22 (by decide) (by decide) rfl (by decide) ?_
      refine lv_aload_n hx hb dX7_trailOfWhat_92 rfl (lv_at hl 0 rfl) ?_
      refine va_get (D := D) (ci := 6) (v := .ref (a 1)) (C := RX7) (T := TX7) (N := 19) hx hb hts hinX7 hown hK hP 0 rfl rfl 0 (by decide) hm0 (fun _ h9 => h9) rfl dX7_trailOfWhat_93 ?_
      refine k_iconst hx hb dX7_trailOfWhat_96 ?_
      refine k_iald hx hb hK hP 1 0 rfl rfl (i := 0) (by omega) dX7_trailOfWhat_97 ?_
      refine lv_aload_n hx hb dX7_trailOfWhat_98 rfl (lv_at hl 0 rfl) ?_
      refine lv_iload_n hx hb dX7_trailOfWhat_99 rfl (lv_at hl 1 rfl) ?_
      refine k_roV (As := [.int (iI t)]) (rest := [.int (iI (R 1 0))]) ⟨hx, hb, hml, hown, hts⟩ (c_X7_frames l D cy a R t hI (by omega) (by omega) (by omega)) gX7_trailOfWhat_X7_frames rfl ⟨rfl, rfl⟩ 1 rfl (by decide +kernel) ⟨Nat.le_of_ble_eq_true rfl, Nat.le_of_ble_eq_true rfl⟩ (GG_ok D cy) hG hP (va_recv hK hP (ci := 6) (q0 := 0) rfl rfl) hl.1 rfl (Nat.le_of_ble_eq_true rfl) ⟨Nat.le_of_ble_eq_true rfl, Nat.le_of_ble_eq_true rfl⟩ dX7_trailOfWhat_100 (fun r_8 hr_8 => ?_)
      have hr_8 : r_8 = fspan (R 1) t := hr_8
      subst hr_8
      refine k_imul hx hb dX7_trailOfWhat_103 ?_
      exact W.iret (v := iI ((R 1 0) * (fspan (R 1) t))) hx hb hr (fun t9 ht _ => ⟨((R 1 0) * (fspan (R 1) t)), rfl, (by first | (exfalso; omega) | (unfold trV; (repeat (first | rw [if_pos (by omega)] | rw [if_neg (by omega)])); first | done | rfl | exact hgd.symm) : ((R 1 0) * (fspan (R 1) t) : Int) = trV (R 1) (R 5) t w), ht⟩) (fun _ h => nomatch h) dX7_trailOfWhat_104 hlocks
    · skip
      refine k_tin (tgt := 105) hx hb 5 c_3 (by decide) dX7_trailOfWhat_22 (by decide) (by decide) rfl (by decide) ?_
      refine lv_aload_n hx hb dX7_trailOfWhat_105 rfl (lv_at hl 0 rfl) ?_
      refine lv_iload_n hx hb dX7_trailOfWhat_106 rfl (lv_at hl 1 rfl) ?_
      refine k_roV (As := [.int (iI t)]) (rest := []) ⟨hx, hb, hml, hown, hts⟩ (c_X7_misfit l D cy a R t hI (by omega) (by omega) (by omega)) gX7_trailOfWhat_X7_misfit rfl ⟨rfl, rfl⟩ 1 rfl (by decide +kernel) ⟨Nat.le_of_ble_eq_true rfl, Nat.le_of_ble_eq_true rfl⟩ (GG_ok D cy) hG hP (va_recv hK hP (ci := 6) (q0 := 0) rfl rfl) hl.1 rfl (Nat.le_of_ble_eq_true rfl) ⟨Nat.le_of_ble_eq_true rfl, Nat.le_of_ble_eq_true rfl⟩ dX7_trailOfWhat_107 (fun r_9 hr_9 => ?_)
      have hr_9 : r_9 = misf (R 1) t := hr_9
      subst hr_9
      exact W.iret (v := iI (misf (R 1) t)) hx hb hr (fun t9 ht _ => ⟨(misf (R 1) t), rfl, (by first | (exfalso; omega) | (unfold trV; (repeat (first | rw [if_pos (by omega)] | rw [if_neg (by omega)])); first | done | rfl | exact hgd.symm) : (misf (R 1) t : Int) = trV (R 1) (R 5) t w), ht⟩) (fun _ h => nomatch h) dX7_trailOfWhat_110 hlocks
    · skip
      refine k_tin (tgt := 111) hx hb 6 c_3 (by decide) dX7_trailOfWhat_22 (by decide) (by decide) rfl (by decide) ?_
      refine lv_aload_n hx hb dX7_trailOfWhat_111 rfl (lv_at hl 0 rfl) ?_
      refine lv_iload_n hx hb dX7_trailOfWhat_112 rfl (lv_at hl 1 rfl) ?_
      refine k_roV (As := [.int (iI t)]) (rest := []) ⟨hx, hb, hml, hown, hts⟩ (c_X7_isGood l D cy a R t hI (by omega) (by omega)) gX7_trailOfWhat_X7_isGood rfl ⟨rfl, rfl⟩ 1 rfl (by decide +kernel) ⟨Nat.le_of_ble_eq_true rfl, Nat.le_of_ble_eq_true rfl⟩ (GG_ok D cy) hG hP (va_recv hK hP (ci := 6) (q0 := 0) rfl rfl) hl.1 rfl (Nat.le_of_ble_eq_true rfl) ⟨Nat.le_of_ble_eq_true rfl, Nat.le_of_ble_eq_true rfl⟩ dX7_trailOfWhat_113 (fun r_10 hr_10 => ?_)
      have hr_10 : ((isGoodP (R 1) t) ∧ r_10 = 1) ∨ (¬ (isGoodP (R 1) t) ∧ r_10 = 0) := hr_10
      rcases hr_10 with ⟨c_11, hr_10⟩ | ⟨c_11, hr_10⟩ <;> subst hr_10
      · skip
        have hgd := goodN_1 c_11
        refine k_if_eq (tgt := 123) hx hb dX7_trailOfWhat_116 (by decide) (by omega) (fun c_12 => ?_) (fun c_12 => ?_)
        · exfalso; omega
        · skip
          refine k_iconst hx hb dX7_trailOfWhat_119 ?_
          refine lv_goto (tgt := 124) hx hb dX7_trailOfWhat_120 (by decide) ?_
          exact W.iret (v := iI 1) hx hb hr (fun t9 ht _ => ⟨1, rfl, (by first | (exfalso; omega) | (unfold trV; (repeat (first | rw [if_pos (by omega)] | rw [if_neg (by omega)])); first | done | rfl | exact hgd.symm) : (1 : Int) = trV (R 1) (R 5) t w), ht⟩) (fun _ h => nomatch h) dX7_trailOfWhat_124 hlocks
      · skip
        have hgd := goodN_0 c_11
        refine k_if_eq (tgt := 123) hx hb dX7_trailOfWhat_116 (by decide) (by omega) (fun c_13 => ?_) (fun c_13 => ?_)
        · skip
          refine k_iconst hx hb dX7_trailOfWhat_123 ?_
          exact W.iret (v := iI 0) hx hb hr (fun t9 ht _ => ⟨0, rfl, (by first | (exfalso; omega) | (unfold trV; (repeat (first | rw [if_pos (by omega)] | rw [if_neg (by omega)])); first | done | rfl | exact hgd.symm) : (0 : Int) = trV (R 1) (R 5) t w), ht⟩) (fun _ h => nomatch h) dX7_trailOfWhat_124 hlocks
        · exfalso; omega
    · skip
      refine k_tin (tgt := 125) hx hb 7 c_3 (by decide) dX7_trailOfWhat_22 (by decide) (by decide) rfl (by decide) ?_
      refine lv_aload_n hx hb dX7_trailOfWhat_125 rfl (lv_at hl 0 rfl) ?_
      refine lv_iload_n hx hb dX7_trailOfWhat_126 rfl (lv_at hl 1 rfl) ?_
      refine k_roV (As := [.int (iI t)]) (rest := []) ⟨hx, hb, hml, hown, hts⟩ (c_X7_gaps l D cy a R t hI (by omega) (by omega)) gX7_trailOfWhat_X7_gaps rfl ⟨rfl, rfl⟩ 1 rfl (by decide +kernel) ⟨Nat.le_of_ble_eq_true rfl, Nat.le_of_ble_eq_true rfl⟩ (GG_ok D cy) hG hP (va_recv hK hP (ci := 6) (q0 := 0) rfl rfl) hl.1 rfl (Nat.le_of_ble_eq_true rfl) ⟨Nat.le_of_ble_eq_true rfl, Nat.le_of_ble_eq_true rfl⟩ dX7_trailOfWhat_127 (fun r_14 hr_14 => ?_)
      have hr_14 : r_14 = gapN (R 1) t := hr_14
      subst hr_14
      exact W.iret (v := iI (gapN (R 1) t)) hx hb hr (fun t9 ht _ => ⟨(gapN (R 1) t), rfl, (by first | (exfalso; omega) | (unfold trV; (repeat (first | rw [if_pos (by omega)] | rw [if_neg (by omega)])); first | done | rfl | exact hgd.symm) : (gapN (R 1) t : Int) = trV (R 1) (R 5) t w), ht⟩) (fun _ h => nomatch h) dX7_trailOfWhat_130 hlocks
    · skip
      refine k_tout (tgt := 131) hx hb (by omega) dX7_trailOfWhat_22 c_3 (by decide) ?_
      refine lv_aload_n hx hb dX7_trailOfWhat_131 rfl (lv_at hl 0 rfl) ?_
      refine va_get (D := D) (ci := 6) (v := .ref (a 5)) (C := RX7) (T := TX7) (N := 19) hx hb hts hinX7 hown hK hP 0 rfl rfl 11 (by decide) hm1 (fun _ h9 => h9) rfl dX7_trailOfWhat_132 ?_
      refine lv_iload_n hx hb dX7_trailOfWhat_135 rfl (lv_at hl 1 rfl) ?_
      refine k_iald hx hb hK hP 5 0 rfl rfl (i := t) (by omega) dX7_trailOfWhat_136 ?_
      exact W.iret (v := iI (R 5 t)) hx hb hr (fun t9 ht _ => ⟨(R 5 t), rfl, (by first | (exfalso; omega) | (unfold trV; (repeat (first | rw [if_pos (by omega)] | rw [if_neg (by omega)])); first | done | rfl | exact hgd.symm) : (R 5 t : Int) = trV (R 1) (R 5) t w), ht⟩) (fun _ h => nomatch h) dX7_trailOfWhat_137 hlocks
  · skip
    refine lv_iload_n hx hb dX7_trailOfWhat_8 rfl (lv_at hl 2 rfl) ?_
    refine k_if_le (tgt := 21) hx hb dX7_trailOfWhat_9 (by decide) (by omega) (fun c_15 => ?_) (fun c_15 => ?_)
    · skip
      refine lv_iload_n hx hb dX7_trailOfWhat_21 rfl (lv_at hl 2 rfl) ?_
      rcases (show w = 0 ∨ w = 1 ∨ w = 2 ∨ w = 3 ∨ w = 4 ∨ w = 5 ∨ w = 6 ∨ w = 7 ∨ (w < 0 ∨ 7 < w) by omega) with c_16 | c_16 | c_16 | c_16 | c_16 | c_16 | c_16 | c_16 | c_16
      · skip
        refine k_tin (tgt := 68) hx hb 0 c_16 (by decide) dX7_trailOfWhat_22 (by decide) (by decide) rfl (by decide) ?_
        refine lv_aload_n hx hb dX7_trailOfWhat_68 rfl (lv_at hl 0 rfl) ?_
        refine lv_iload_n hx hb dX7_trailOfWhat_69 rfl (lv_at hl 1 rfl) ?_
        refine k_roV (As := [.int (iI t)]) (rest := []) ⟨hx, hb, hml, hown, hts⟩ (c_X7_points l D cy a R t (by omega) (by omega)) gX7_trailOfWhat_X7_points rfl ⟨rfl, rfl⟩ 1 rfl (by decide +kernel) ⟨Nat.le_of_ble_eq_true rfl, Nat.le_of_ble_eq_true rfl⟩ (GG_ok D cy) hG hP (va_recv hK hP (ci := 6) (q0 := 0) rfl rfl) hl.1 rfl (Nat.le_of_ble_eq_true rfl) ⟨Nat.le_of_ble_eq_true rfl, Nat.le_of_ble_eq_true rfl⟩ dX7_trailOfWhat_70 (fun r_17 hr_17 => ?_)
        have hr_17 : r_17 = pts (R 1) t := hr_17
        subst hr_17
        exact W.iret (v := iI (pts (R 1) t)) hx hb hr (fun t9 ht _ => ⟨(pts (R 1) t), rfl, (by first | (exfalso; omega) | (unfold trV; (repeat (first | rw [if_pos (by omega)] | rw [if_neg (by omega)])); first | done | rfl | exact hgd.symm) : (pts (R 1) t : Int) = trV (R 1) (R 5) t w), ht⟩) (fun _ h => nomatch h) dX7_trailOfWhat_73 hlocks
      · skip
        refine k_tin (tgt := 74) hx hb 1 c_16 (by decide) dX7_trailOfWhat_22 (by decide) (by decide) rfl (by decide) ?_
        refine lv_aload_n hx hb dX7_trailOfWhat_74 rfl (lv_at hl 0 rfl) ?_
        refine lv_iload_n hx hb dX7_trailOfWhat_75 rfl (lv_at hl 1 rfl) ?_
        refine k_roV (As := [.int (iI t)]) (rest := []) ⟨hx, hb, hml, hown, hts⟩ (c_X7_radius l D cy a R t hI (by omega) (by omega) (by omega)) gX7_trailOfWhat_X7_radius rfl ⟨rfl, rfl⟩ 1 rfl (by decide +kernel) ⟨Nat.le_of_ble_eq_true rfl, Nat.le_of_ble_eq_true rfl⟩ (GG_ok D cy) hG hP (va_recv hK hP (ci := 6) (q0 := 0) rfl rfl) hl.1 rfl (Nat.le_of_ble_eq_true rfl) ⟨Nat.le_of_ble_eq_true rfl, Nat.le_of_ble_eq_true rfl⟩ dX7_trailOfWhat_76 (fun r_18 hr_18 => ?_)
        have hr_18 : r_18 = rdT (R 1) t := hr_18
        subst hr_18
        exact W.iret (v := iI (rdT (R 1) t)) hx hb hr (fun t9 ht _ => ⟨(rdT (R 1) t), rfl, (by first | (exfalso; omega) | (unfold trV; (repeat (first | rw [if_pos (by omega)] | rw [if_neg (by omega)])); first | done | rfl | exact hgd.symm) : (rdT (R 1) t : Int) = trV (R 1) (R 5) t w), ht⟩) (fun _ h => nomatch h) dX7_trailOfWhat_79 hlocks
      · skip
        refine k_tin (tgt := 80) hx hb 2 c_16 (by decide) dX7_trailOfWhat_22 (by decide) (by decide) rfl (by decide) ?_
        refine lv_aload_n hx hb dX7_trailOfWhat_80 rfl (lv_at hl 0 rfl) ?_
        refine lv_iload_n hx hb dX7_trailOfWhat_81 rfl (lv_at hl 1 rfl) ?_
        refine k_roV (As := [.int (iI t)]) (rest := []) ⟨hx, hb, hml, hown, hts⟩ (c_X7_spread l D cy a R t hI (by omega) (by omega) (by omega)) gX7_trailOfWhat_X7_spread rfl ⟨rfl, rfl⟩ 1 rfl (by decide +kernel) ⟨Nat.le_of_ble_eq_true rfl, Nat.le_of_ble_eq_true rfl⟩ (GG_ok D cy) hG hP (va_recv hK hP (ci := 6) (q0 := 0) rfl rfl) hl.1 rfl (Nat.le_of_ble_eq_true rfl) ⟨Nat.le_of_ble_eq_true rfl, Nat.le_of_ble_eq_true rfl⟩ dX7_trailOfWhat_82 (fun r_19 hr_19 => ?_)
        have hr_19 : r_19 = sprd (R 1) t := hr_19
        subst hr_19
        exact W.iret (v := iI (sprd (R 1) t)) hx hb hr (fun t9 ht _ => ⟨(sprd (R 1) t), rfl, (by first | (exfalso; omega) | (unfold trV; (repeat (first | rw [if_pos (by omega)] | rw [if_neg (by omega)])); first | done | rfl | exact hgd.symm) : (sprd (R 1) t : Int) = trV (R 1) (R 5) t w), ht⟩) (fun _ h => nomatch h) dX7_trailOfWhat_85 hlocks
      · skip
        refine k_tin (tgt := 86) hx hb 3 c_16 (by decide) dX7_trailOfWhat_22 (by decide) (by decide) rfl (by decide) ?_
        refine lv_aload_n hx hb dX7_trailOfWhat_86 rfl (lv_at hl 0 rfl) ?_
        refine lv_iload_n hx hb dX7_trailOfWhat_87 rfl (lv_at hl 1 rfl) ?_
        refine k_roV (As := [.int (iI t)]) (rest := []) ⟨hx, hb, hml, hown, hts⟩ (c_X7_sweep l D cy a R t hI (by omega) (by omega) (by omega)) gX7_trailOfWhat_X7_sweep rfl ⟨rfl, rfl⟩ 1 rfl (by decide +kernel) ⟨Nat.le_of_ble_eq_true rfl, Nat.le_of_ble_eq_true rfl⟩ (GG_ok D cy) hG hP (va_recv hK hP (ci := 6) (q0 := 0) rfl rfl) hl.1 rfl (Nat.le_of_ble_eq_true rfl) ⟨Nat.le_of_ble_eq_true rfl, Nat.le_of_ble_eq_true rfl⟩ dX7_trailOfWhat_88 (fun r_20 hr_20 => ?_)
        have hr_20 : r_20 = swp (R 1) t := hr_20
        subst hr_20
        exact W.iret (v := iI (swp (R 1) t)) hx hb hr (fun t9 ht _ => ⟨(swp (R 1) t), rfl, (by first | (exfalso; omega) | (unfold trV; (repeat (first | rw [if_pos (by omega)] | rw [if_neg (by omega)])); first | done | rfl | exact hgd.symm) : (swp (R 1) t : Int) = trV (R 1) (R 5) t w), ht⟩) (fun _ h => nomatch h) dX7_trailOfWhat_91 hlocks
      · skip
        refine k_tin (tgt := 92) hx hb 4 c_16 (by decide) dX7_trailOfWhat_22 (by decide) (by decide) rfl (by decide) ?_
        refine lv_aload_n hx hb dX7_trailOfWhat_92 rfl (lv_at hl 0 rfl) ?_
        refine va_get (D := D) (ci := 6) (v := .ref (a 1)) (C := RX7) (T := TX7) (N := 19) hx hb hts hinX7 hown hK hP 0 rfl rfl 0 (by decide) hm0 (fun _ h9 => h9) rfl dX7_trailOfWhat_93 ?_
        refine k_iconst hx hb dX7_trailOfWhat_96 ?_
        refine k_iald hx hb hK hP 1 0 rfl rfl (i := 0) (by omega) dX7_trailOfWhat_97 ?_
        refine lv_aload_n hx hb dX7_trailOfWhat_98 rfl (lv_at hl 0 rfl) ?_
        refine lv_iload_n hx hb dX7_trailOfWhat_99 rfl (lv_at hl 1 rfl) ?_
        refine k_roV (As := [.int (iI t)]) (rest := [.int (iI (R 1 0))]) ⟨hx, hb, hml, hown, hts⟩ (c_X7_frames l D cy a R t hI (by omega) (by omega) (by omega)) gX7_trailOfWhat_X7_frames rfl ⟨rfl, rfl⟩ 1 rfl (by decide +kernel) ⟨Nat.le_of_ble_eq_true rfl, Nat.le_of_ble_eq_true rfl⟩ (GG_ok D cy) hG hP (va_recv hK hP (ci := 6) (q0 := 0) rfl rfl) hl.1 rfl (Nat.le_of_ble_eq_true rfl) ⟨Nat.le_of_ble_eq_true rfl, Nat.le_of_ble_eq_true rfl⟩ dX7_trailOfWhat_100 (fun r_21 hr_21 => ?_)
        have hr_21 : r_21 = fspan (R 1) t := hr_21
        subst hr_21
        refine k_imul hx hb dX7_trailOfWhat_103 ?_
        exact W.iret (v := iI ((R 1 0) * (fspan (R 1) t))) hx hb hr (fun t9 ht _ => ⟨((R 1 0) * (fspan (R 1) t)), rfl, (by first | (exfalso; omega) | (unfold trV; (repeat (first | rw [if_pos (by omega)] | rw [if_neg (by omega)])); first | done | rfl | exact hgd.symm) : ((R 1 0) * (fspan (R 1) t) : Int) = trV (R 1) (R 5) t w), ht⟩) (fun _ h => nomatch h) dX7_trailOfWhat_104 hlocks
      · skip
        refine k_tin (tgt := 105) hx hb 5 c_16 (by decide) dX7_trailOfWhat_22 (by decide) (by decide) rfl (by decide) ?_
        refine lv_aload_n hx hb dX7_trailOfWhat_105 rfl (lv_at hl 0 rfl) ?_
        refine lv_iload_n hx hb dX7_trailOfWhat_106 rfl (lv_at hl 1 rfl) ?_
        refine k_roV (As := [.int (iI t)]) (rest := []) ⟨hx, hb, hml, hown, hts⟩ (c_X7_misfit l D cy a R t hI (by omega) (by omega) (by omega)) gX7_trailOfWhat_X7_misfit rfl ⟨rfl, rfl⟩ 1 rfl (by decide +kernel) ⟨Nat.le_of_ble_eq_true rfl, Nat.le_of_ble_eq_true rfl⟩ (GG_ok D cy) hG hP (va_recv hK hP (ci := 6) (q0 := 0) rfl rfl) hl.1 rfl (Nat.le_of_ble_eq_true rfl) ⟨Nat.le_of_ble_eq_true rfl, Nat.le_of_ble_eq_true rfl⟩ dX7_trailOfWhat_107 (fun r_22 hr_22 => ?_)
        have hr_22 : r_22 = misf (R 1) t := hr_22
        subst hr_22
        exact W.iret (v := iI (misf (R 1) t)) hx hb hr (fun t9 ht _ => ⟨(misf (R 1) t), rfl, (by first | (exfalso; omega) | (unfold trV; (repeat (first | rw [if_pos (by omega)] | rw [if_neg (by omega)])); first | done | rfl | exact hgd.symm) : (misf (R 1) t : Int) = trV (R 1) (R 5) t w), ht⟩) (fun _ h => nomatch h) dX7_trailOfWhat_110 hlocks
      · skip
        refine k_tin (tgt := 111) hx hb 6 c_16 (by decide) dX7_trailOfWhat_22 (by decide) (by decide) rfl (by decide) ?_
        refine lv_aload_n hx hb dX7_trailOfWhat_111 rfl (lv_at hl 0 rfl) ?_
        refine lv_iload_n hx hb dX7_trailOfWhat_112 rfl (lv_at hl 1 rfl) ?_
        refine k_roV (As := [.int (iI t)]) (rest := []) ⟨hx, hb, hml, hown, hts⟩ (c_X7_isGood l D cy a R t hI (by omega) (by omega)) gX7_trailOfWhat_X7_isGood rfl ⟨rfl, rfl⟩ 1 rfl (by decide +kernel) ⟨Nat.le_of_ble_eq_true rfl, Nat.le_of_ble_eq_true rfl⟩ (GG_ok D cy) hG hP (va_recv hK hP (ci := 6) (q0 := 0) rfl rfl) hl.1 rfl (Nat.le_of_ble_eq_true rfl) ⟨Nat.le_of_ble_eq_true rfl, Nat.le_of_ble_eq_true rfl⟩ dX7_trailOfWhat_113 (fun r_23 hr_23 => ?_)
        have hr_23 : ((isGoodP (R 1) t) ∧ r_23 = 1) ∨ (¬ (isGoodP (R 1) t) ∧ r_23 = 0) := hr_23
        rcases hr_23 with ⟨c_24, hr_23⟩ | ⟨c_24, hr_23⟩ <;> subst hr_23
        · skip
          have hgd := goodN_1 c_24
          refine k_if_eq (tgt := 123) hx hb dX7_trailOfWhat_116 (by decide) (by omega) (fun c_25 => ?_) (fun c_25 => ?_)
          · exfalso; omega
          · skip
            refine k_iconst hx hb dX7_trailOfWhat_119 ?_
            refine lv_goto (tgt := 124) hx hb dX7_trailOfWhat_120 (by decide) ?_
            exact W.iret (v := iI 1) hx hb hr (fun t9 ht _ => ⟨1, rfl, (by first | (exfalso; omega) | (unfold trV; (repeat (first | rw [if_pos (by omega)] | rw [if_neg (by omega)])); first | done | rfl | exact hgd.symm) : (1 : Int) = trV (R 1) (R 5) t w), ht⟩) (fun _ h => nomatch h) dX7_trailOfWhat_124 hlocks
        · skip
          have hgd := goodN_0 c_24
          refine k_if_eq (tgt := 123) hx hb dX7_trailOfWhat_116 (by decide) (by omega) (fun c_26 => ?_) (fun c_26 => ?_)
          · skip
            refine k_iconst hx hb dX7_trailOfWhat_123 ?_
            exact W.iret (v := iI 0) hx hb hr (fun t9 ht _ => ⟨0, rfl, (by first | (exfalso; omega) | (unfold trV; (repeat (first | rw [if_pos (by omega)] | rw [if_neg (by omega)])); first | done | rfl | exact hgd.symm) : (0 : Int) = trV (R 1) (R 5) t w), ht⟩) (fun _ h => nomatch h) dX7_trailOfWhat_124 hlocks
          · exfalso; omega
      · skip
        refine k_tin (tgt := 125) hx hb 7 c_16 (by decide) dX7_trailOfWhat_22 (by decide) (by decide) rfl (by decide) ?_
        refine lv_aload_n hx hb dX7_trailOfWhat_125 rfl (lv_at hl 0 rfl) ?_
        refine lv_iload_n hx hb dX7_trailOfWhat_126 rfl (lv_at hl 1 rfl) ?_
        refine k_roV (As := [.int (iI t)]) (rest := []) ⟨hx, hb, hml, hown, hts⟩ (c_X7_gaps l D cy a R t hI (by omega) (by omega)) gX7_trailOfWhat_X7_gaps rfl ⟨rfl, rfl⟩ 1 rfl (by decide +kernel) ⟨Nat.le_of_ble_eq_true rfl, Nat.le_of_ble_eq_true rfl⟩ (GG_ok D cy) hG hP (va_recv hK hP (ci := 6) (q0 := 0) rfl rfl) hl.1 rfl (Nat.le_of_ble_eq_true rfl) ⟨Nat.le_of_ble_eq_true rfl, Nat.le_of_ble_eq_true rfl⟩ dX7_trailOfWhat_127 (fun r_27 hr_27 => ?_)
        have hr_27 : r_27 = gapN (R 1) t := hr_27
        subst hr_27
        exact W.iret (v := iI (gapN (R 1) t)) hx hb hr (fun t9 ht _ => ⟨(gapN (R 1) t), rfl, (by first | (exfalso; omega) | (unfold trV; (repeat (first | rw [if_pos (by omega)] | rw [if_neg (by omega)])); first | done | rfl | exact hgd.symm) : (gapN (R 1) t : Int) = trV (R 1) (R 5) t w), ht⟩) (fun _ h => nomatch h) dX7_trailOfWhat_130 hlocks
      · skip
        refine k_tout (tgt := 131) hx hb (by omega) dX7_trailOfWhat_22 c_16 (by decide) ?_
        refine lv_aload_n hx hb dX7_trailOfWhat_131 rfl (lv_at hl 0 rfl) ?_
        refine va_get (D := D) (ci := 6) (v := .ref (a 5)) (C := RX7) (T := TX7) (N := 19) hx hb hts hinX7 hown hK hP 0 rfl rfl 11 (by decide) hm1 (fun _ h9 => h9) rfl dX7_trailOfWhat_132 ?_
        refine lv_iload_n hx hb dX7_trailOfWhat_135 rfl (lv_at hl 1 rfl) ?_
        refine k_iald hx hb hK hP 5 0 rfl rfl (i := t) (by omega) dX7_trailOfWhat_136 ?_
        exact W.iret (v := iI (R 5 t)) hx hb hr (fun t9 ht _ => ⟨(R 5 t), rfl, (by first | (exfalso; omega) | (unfold trV; (repeat (first | rw [if_pos (by omega)] | rw [if_neg (by omega)])); first | done | rfl | exact hgd.symm) : (R 5 t : Int) = trV (R 1) (R 5) t w), ht⟩) (fun _ h => nomatch h) dX7_trailOfWhat_137 hlocks
    · skip
      refine lv_iload_n hx hb dX7_trailOfWhat_12 rfl (lv_at hl 2 rfl) ?_
      refine k_bipush hx hb dX7_trailOfWhat_13 (by decide +kernel) ?_
      refine k_icmp_ge (tgt := 21) hx hb dX7_trailOfWhat_15 (by decide) (by omega) (by omega) (fun c_28 => ?_) (fun c_28 => ?_)
      · skip
        refine lv_iload_n hx hb dX7_trailOfWhat_21 rfl (lv_at hl 2 rfl) ?_
        rcases (show w = 0 ∨ w = 1 ∨ w = 2 ∨ w = 3 ∨ w = 4 ∨ w = 5 ∨ w = 6 ∨ w = 7 ∨ (w < 0 ∨ 7 < w) by omega) with c_29 | c_29 | c_29 | c_29 | c_29 | c_29 | c_29 | c_29 | c_29
        · skip
          refine k_tin (tgt := 68) hx hb 0 c_29 (by decide) dX7_trailOfWhat_22 (by decide) (by decide) rfl (by decide) ?_
          refine lv_aload_n hx hb dX7_trailOfWhat_68 rfl (lv_at hl 0 rfl) ?_
          refine lv_iload_n hx hb dX7_trailOfWhat_69 rfl (lv_at hl 1 rfl) ?_
          refine k_roV (As := [.int (iI t)]) (rest := []) ⟨hx, hb, hml, hown, hts⟩ (c_X7_points l D cy a R t (by omega) (by omega)) gX7_trailOfWhat_X7_points rfl ⟨rfl, rfl⟩ 1 rfl (by decide +kernel) ⟨Nat.le_of_ble_eq_true rfl, Nat.le_of_ble_eq_true rfl⟩ (GG_ok D cy) hG hP (va_recv hK hP (ci := 6) (q0 := 0) rfl rfl) hl.1 rfl (Nat.le_of_ble_eq_true rfl) ⟨Nat.le_of_ble_eq_true rfl, Nat.le_of_ble_eq_true rfl⟩ dX7_trailOfWhat_70 (fun r_30 hr_30 => ?_)
          have hr_30 : r_30 = pts (R 1) t := hr_30
          subst hr_30
          exact W.iret (v := iI (pts (R 1) t)) hx hb hr (fun t9 ht _ => ⟨(pts (R 1) t), rfl, (by first | (exfalso; omega) | (unfold trV; (repeat (first | rw [if_pos (by omega)] | rw [if_neg (by omega)])); first | done | rfl | exact hgd.symm) : (pts (R 1) t : Int) = trV (R 1) (R 5) t w), ht⟩) (fun _ h => nomatch h) dX7_trailOfWhat_73 hlocks
        · skip
          refine k_tin (tgt := 74) hx hb 1 c_29 (by decide) dX7_trailOfWhat_22 (by decide) (by decide) rfl (by decide) ?_
          refine lv_aload_n hx hb dX7_trailOfWhat_74 rfl (lv_at hl 0 rfl) ?_
          refine lv_iload_n hx hb dX7_trailOfWhat_75 rfl (lv_at hl 1 rfl) ?_
          refine k_roV (As := [.int (iI t)]) (rest := []) ⟨hx, hb, hml, hown, hts⟩ (c_X7_radius l D cy a R t hI (by omega) (by omega) (by omega)) gX7_trailOfWhat_X7_radius rfl ⟨rfl, rfl⟩ 1 rfl (by decide +kernel) ⟨Nat.le_of_ble_eq_true rfl, Nat.le_of_ble_eq_true rfl⟩ (GG_ok D cy) hG hP (va_recv hK hP (ci := 6) (q0 := 0) rfl rfl) hl.1 rfl (Nat.le_of_ble_eq_true rfl) ⟨Nat.le_of_ble_eq_true rfl, Nat.le_of_ble_eq_true rfl⟩ dX7_trailOfWhat_76 (fun r_31 hr_31 => ?_)
          have hr_31 : r_31 = rdT (R 1) t := hr_31
          subst hr_31
          exact W.iret (v := iI (rdT (R 1) t)) hx hb hr (fun t9 ht _ => ⟨(rdT (R 1) t), rfl, (by first | (exfalso; omega) | (unfold trV; (repeat (first | rw [if_pos (by omega)] | rw [if_neg (by omega)])); first | done | rfl | exact hgd.symm) : (rdT (R 1) t : Int) = trV (R 1) (R 5) t w), ht⟩) (fun _ h => nomatch h) dX7_trailOfWhat_79 hlocks
        · skip
          refine k_tin (tgt := 80) hx hb 2 c_29 (by decide) dX7_trailOfWhat_22 (by decide) (by decide) rfl (by decide) ?_
          refine lv_aload_n hx hb dX7_trailOfWhat_80 rfl (lv_at hl 0 rfl) ?_
          refine lv_iload_n hx hb dX7_trailOfWhat_81 rfl (lv_at hl 1 rfl) ?_
          refine k_roV (As := [.int (iI t)]) (rest := []) ⟨hx, hb, hml, hown, hts⟩ (c_X7_spread l D cy a R t hI (by omega) (by omega) (by omega)) gX7_trailOfWhat_X7_spread rfl ⟨rfl, rfl⟩ 1 rfl (by decide +kernel) ⟨Nat.le_of_ble_eq_true rfl, Nat.le_of_ble_eq_true rfl⟩ (GG_ok D cy) hG hP (va_recv hK hP (ci := 6) (q0 := 0) rfl rfl) hl.1 rfl (Nat.le_of_ble_eq_true rfl) ⟨Nat.le_of_ble_eq_true rfl, Nat.le_of_ble_eq_true rfl⟩ dX7_trailOfWhat_82 (fun r_32 hr_32 => ?_)
          have hr_32 : r_32 = sprd (R 1) t := hr_32
          subst hr_32
          exact W.iret (v := iI (sprd (R 1) t)) hx hb hr (fun t9 ht _ => ⟨(sprd (R 1) t), rfl, (by first | (exfalso; omega) | (unfold trV; (repeat (first | rw [if_pos (by omega)] | rw [if_neg (by omega)])); first | done | rfl | exact hgd.symm) : (sprd (R 1) t : Int) = trV (R 1) (R 5) t w), ht⟩) (fun _ h => nomatch h) dX7_trailOfWhat_85 hlocks
        · skip
          refine k_tin (tgt := 86) hx hb 3 c_29 (by decide) dX7_trailOfWhat_22 (by decide) (by decide) rfl (by decide) ?_
          refine lv_aload_n hx hb dX7_trailOfWhat_86 rfl (lv_at hl 0 rfl) ?_
          refine lv_iload_n hx hb dX7_trailOfWhat_87 rfl (lv_at hl 1 rfl) ?_
          refine k_roV (As := [.int (iI t)]) (rest := []) ⟨hx, hb, hml, hown, hts⟩ (c_X7_sweep l D cy a R t hI (by omega) (by omega) (by omega)) gX7_trailOfWhat_X7_sweep rfl ⟨rfl, rfl⟩ 1 rfl (by decide +kernel) ⟨Nat.le_of_ble_eq_true rfl, Nat.le_of_ble_eq_true rfl⟩ (GG_ok D cy) hG hP (va_recv hK hP (ci := 6) (q0 := 0) rfl rfl) hl.1 rfl (Nat.le_of_ble_eq_true rfl) ⟨Nat.le_of_ble_eq_true rfl, Nat.le_of_ble_eq_true rfl⟩ dX7_trailOfWhat_88 (fun r_33 hr_33 => ?_)
          have hr_33 : r_33 = swp (R 1) t := hr_33
          subst hr_33
          exact W.iret (v := iI (swp (R 1) t)) hx hb hr (fun t9 ht _ => ⟨(swp (R 1) t), rfl, (by first | (exfalso; omega) | (unfold trV; (repeat (first | rw [if_pos (by omega)] | rw [if_neg (by omega)])); first | done | rfl | exact hgd.symm) : (swp (R 1) t : Int) = trV (R 1) (R 5) t w), ht⟩) (fun _ h => nomatch h) dX7_trailOfWhat_91 hlocks
        · skip
          refine k_tin (tgt := 92) hx hb 4 c_29 (by decide) dX7_trailOfWhat_22 (by decide) (by decide) rfl (by decide) ?_
          refine lv_aload_n hx hb dX7_trailOfWhat_92 rfl (lv_at hl 0 rfl) ?_
          refine va_get (D := D) (ci := 6) (v := .ref (a 1)) (C := RX7) (T := TX7) (N := 19) hx hb hts hinX7 hown hK hP 0 rfl rfl 0 (by decide) hm0 (fun _ h9 => h9) rfl dX7_trailOfWhat_93 ?_
          refine k_iconst hx hb dX7_trailOfWhat_96 ?_
          refine k_iald hx hb hK hP 1 0 rfl rfl (i := 0) (by omega) dX7_trailOfWhat_97 ?_
          refine lv_aload_n hx hb dX7_trailOfWhat_98 rfl (lv_at hl 0 rfl) ?_
          refine lv_iload_n hx hb dX7_trailOfWhat_99 rfl (lv_at hl 1 rfl) ?_
          refine k_roV (As := [.int (iI t)]) (rest := [.int (iI (R 1 0))]) ⟨hx, hb, hml, hown, hts⟩ (c_X7_frames l D cy a R t hI (by omega) (by omega) (by omega)) gX7_trailOfWhat_X7_frames rfl ⟨rfl, rfl⟩ 1 rfl (by decide +kernel) ⟨Nat.le_of_ble_eq_true rfl, Nat.le_of_ble_eq_true rfl⟩ (GG_ok D cy) hG hP (va_recv hK hP (ci := 6) (q0 := 0) rfl rfl) hl.1 rfl (Nat.le_of_ble_eq_true rfl) ⟨Nat.le_of_ble_eq_true rfl, Nat.le_of_ble_eq_true rfl⟩ dX7_trailOfWhat_100 (fun r_34 hr_34 => ?_)
          have hr_34 : r_34 = fspan (R 1) t := hr_34
          subst hr_34
          refine k_imul hx hb dX7_trailOfWhat_103 ?_
          exact W.iret (v := iI ((R 1 0) * (fspan (R 1) t))) hx hb hr (fun t9 ht _ => ⟨((R 1 0) * (fspan (R 1) t)), rfl, (by first | (exfalso; omega) | (unfold trV; (repeat (first | rw [if_pos (by omega)] | rw [if_neg (by omega)])); first | done | rfl | exact hgd.symm) : ((R 1 0) * (fspan (R 1) t) : Int) = trV (R 1) (R 5) t w), ht⟩) (fun _ h => nomatch h) dX7_trailOfWhat_104 hlocks
        · skip
          refine k_tin (tgt := 105) hx hb 5 c_29 (by decide) dX7_trailOfWhat_22 (by decide) (by decide) rfl (by decide) ?_
          refine lv_aload_n hx hb dX7_trailOfWhat_105 rfl (lv_at hl 0 rfl) ?_
          refine lv_iload_n hx hb dX7_trailOfWhat_106 rfl (lv_at hl 1 rfl) ?_
          refine k_roV (As := [.int (iI t)]) (rest := []) ⟨hx, hb, hml, hown, hts⟩ (c_X7_misfit l D cy a R t hI (by omega) (by omega) (by omega)) gX7_trailOfWhat_X7_misfit rfl ⟨rfl, rfl⟩ 1 rfl (by decide +kernel) ⟨Nat.le_of_ble_eq_true rfl, Nat.le_of_ble_eq_true rfl⟩ (GG_ok D cy) hG hP (va_recv hK hP (ci := 6) (q0 := 0) rfl rfl) hl.1 rfl (Nat.le_of_ble_eq_true rfl) ⟨Nat.le_of_ble_eq_true rfl, Nat.le_of_ble_eq_true rfl⟩ dX7_trailOfWhat_107 (fun r_35 hr_35 => ?_)
          have hr_35 : r_35 = misf (R 1) t := hr_35
          subst hr_35
          exact W.iret (v := iI (misf (R 1) t)) hx hb hr (fun t9 ht _ => ⟨(misf (R 1) t), rfl, (by first | (exfalso; omega) | (unfold trV; (repeat (first | rw [if_pos (by omega)] | rw [if_neg (by omega)])); first | done | rfl | exact hgd.symm) : (misf (R 1) t : Int) = trV (R 1) (R 5) t w), ht⟩) (fun _ h => nomatch h) dX7_trailOfWhat_110 hlocks
        · skip
          refine k_tin (tgt := 111) hx hb 6 c_29 (by decide) dX7_trailOfWhat_22 (by decide) (by decide) rfl (by decide) ?_
          refine lv_aload_n hx hb dX7_trailOfWhat_111 rfl (lv_at hl 0 rfl) ?_
          refine lv_iload_n hx hb dX7_trailOfWhat_112 rfl (lv_at hl 1 rfl) ?_
          refine k_roV (As := [.int (iI t)]) (rest := []) ⟨hx, hb, hml, hown, hts⟩ (c_X7_isGood l D cy a R t hI (by omega) (by omega)) gX7_trailOfWhat_X7_isGood rfl ⟨rfl, rfl⟩ 1 rfl (by decide +kernel) ⟨Nat.le_of_ble_eq_true rfl, Nat.le_of_ble_eq_true rfl⟩ (GG_ok D cy) hG hP (va_recv hK hP (ci := 6) (q0 := 0) rfl rfl) hl.1 rfl (Nat.le_of_ble_eq_true rfl) ⟨Nat.le_of_ble_eq_true rfl, Nat.le_of_ble_eq_true rfl⟩ dX7_trailOfWhat_113 (fun r_36 hr_36 => ?_)
          have hr_36 : ((isGoodP (R 1) t) ∧ r_36 = 1) ∨ (¬ (isGoodP (R 1) t) ∧ r_36 = 0) := hr_36
          rcases hr_36 with ⟨c_37, hr_36⟩ | ⟨c_37, hr_36⟩ <;> subst hr_36
          · skip
            have hgd := goodN_1 c_37
            refine k_if_eq (tgt := 123) hx hb dX7_trailOfWhat_116 (by decide) (by omega) (fun c_38 => ?_) (fun c_38 => ?_)
            · exfalso; omega
            · skip
              refine k_iconst hx hb dX7_trailOfWhat_119 ?_
              refine lv_goto (tgt := 124) hx hb dX7_trailOfWhat_120 (by decide) ?_
              exact W.iret (v := iI 1) hx hb hr (fun t9 ht _ => ⟨1, rfl, (by first | (exfalso; omega) | (unfold trV; (repeat (first | rw [if_pos (by omega)] | rw [if_neg (by omega)])); first | done | rfl | exact hgd.symm) : (1 : Int) = trV (R 1) (R 5) t w), ht⟩) (fun _ h => nomatch h) dX7_trailOfWhat_124 hlocks
          · skip
            have hgd := goodN_0 c_37
            refine k_if_eq (tgt := 123) hx hb dX7_trailOfWhat_116 (by decide) (by omega) (fun c_39 => ?_) (fun c_39 => ?_)
            · skip
              refine k_iconst hx hb dX7_trailOfWhat_123 ?_
              exact W.iret (v := iI 0) hx hb hr (fun t9 ht _ => ⟨0, rfl, (by first | (exfalso; omega) | (unfold trV; (repeat (first | rw [if_pos (by omega)] | rw [if_neg (by omega)])); first | done | rfl | exact hgd.symm) : (0 : Int) = trV (R 1) (R 5) t w), ht⟩) (fun _ h => nomatch h) dX7_trailOfWhat_124 hlocks
            · exfalso; omega
        · skip
          refine k_tin (tgt := 125) hx hb 7 c_29 (by decide) dX7_trailOfWhat_22 (by decide) (by decide) rfl (by decide) ?_
          refine lv_aload_n hx hb dX7_trailOfWhat_125 rfl (lv_at hl 0 rfl) ?_
          refine lv_iload_n hx hb dX7_trailOfWhat_126 rfl (lv_at hl 1 rfl) ?_
          refine k_roV (As := [.int (iI t)]) (rest := []) ⟨hx, hb, hml, hown, hts⟩ (c_X7_gaps l D cy a R t hI (by omega) (by omega)) gX7_trailOfWhat_X7_gaps rfl ⟨rfl, rfl⟩ 1 rfl (by decide +kernel) ⟨Nat.le_of_ble_eq_true rfl, Nat.le_of_ble_eq_true rfl⟩ (GG_ok D cy) hG hP (va_recv hK hP (ci := 6) (q0 := 0) rfl rfl) hl.1 rfl (Nat.le_of_ble_eq_true rfl) ⟨Nat.le_of_ble_eq_true rfl, Nat.le_of_ble_eq_true rfl⟩ dX7_trailOfWhat_127 (fun r_40 hr_40 => ?_)
          have hr_40 : r_40 = gapN (R 1) t := hr_40
          subst hr_40
          exact W.iret (v := iI (gapN (R 1) t)) hx hb hr (fun t9 ht _ => ⟨(gapN (R 1) t), rfl, (by first | (exfalso; omega) | (unfold trV; (repeat (first | rw [if_pos (by omega)] | rw [if_neg (by omega)])); first | done | rfl | exact hgd.symm) : (gapN (R 1) t : Int) = trV (R 1) (R 5) t w), ht⟩) (fun _ h => nomatch h) dX7_trailOfWhat_130 hlocks
        · skip
          refine k_tout (tgt := 131) hx hb (by omega) dX7_trailOfWhat_22 c_29 (by decide) ?_
          refine lv_aload_n hx hb dX7_trailOfWhat_131 rfl (lv_at hl 0 rfl) ?_
          refine va_get (D := D) (ci := 6) (v := .ref (a 5)) (C := RX7) (T := TX7) (N := 19) hx hb hts hinX7 hown hK hP 0 rfl rfl 11 (by decide) hm1 (fun _ h9 => h9) rfl dX7_trailOfWhat_132 ?_
          refine lv_iload_n hx hb dX7_trailOfWhat_135 rfl (lv_at hl 1 rfl) ?_
          refine k_iald hx hb hK hP 5 0 rfl rfl (i := t) (by omega) dX7_trailOfWhat_136 ?_
          exact W.iret (v := iI (R 5 t)) hx hb hr (fun t9 ht _ => ⟨(R 5 t), rfl, (by first | (exfalso; omega) | (unfold trV; (repeat (first | rw [if_pos (by omega)] | rw [if_neg (by omega)])); first | done | rfl | exact hgd.symm) : (R 5 t : Int) = trV (R 1) (R 5) t w), ht⟩) (fun _ h => nomatch h) dX7_trailOfWhat_137 hlocks
      · skip
        refine k_ldc (z := (-1000000000)) hx hb hown hm2 (by decide +kernel) dX7_trailOfWhat_18 ?_
        exact W.iret (v := iI (-1000000000)) hx hb hr (fun t9 ht _ => ⟨(-1000000000), rfl, (by first | (exfalso; omega) | (unfold trV; (repeat (first | rw [if_pos (by omega)] | rw [if_neg (by omega)])); first | done | rfl | exact hgd.symm) : ((-1000000000) : Int) = trV (R 1) (R 5) t w), ht⟩) (fun _ h => nomatch h) dX7_trailOfWhat_20 hlocks
set_option maxHeartbeats 4000000 in
set_option maxRecDepth 100000 in
theorem c_X7_starOfWhat (l : Launch) (D : va_G) (cy : Nat → ClassId) (a : Nat → Nat) (R : Nat → Int → Int) (u w : Int) (hI : Inv (R 1)) (h0u : 0 ≤ u) (h1u : u < R 1 13) (hw : 0 ≤ w ∧ w ≤ 6) (hI6 : TRok (R 6)) : Met l yX7_starOfWhat wsX7_starOfWhat { frames := 2, cells := 0, slots := 0, locals := 43 } (kPre (GG D cy) D (rfW cy a R) ([.ref (a 0), .int (iI u), .int (iI w)] : List Value)) (kRO (fun r => r = stV (R 1) (R 6) (R 4) u w)) 0 0 (fun _ => False) := by
  refine kRO_start (cc := cX7_starOfWhat) (maxL := 3) (ret := (some .int)) (by decide) rfl (Nat.le_of_ble_eq_true rfl) ?_
  intro p e s m below meth c hx hb hr hlocks hml hts hown hG hP ls hl
  have hK := hG.1
  have hl : lv_has ls 3 [(0, .ref (a 0)), (1, .int (iI u)), (2, .int (iI w))] := hl
  have hinX7 : ∀ w ∈ u_ws RX7 TX7 19, w ∈ wsX7_starOfWhat := by decide +kernel
  have hm0 := hts (.fieldLink RX7 25 "ArcPlateModel" "trailOf" "[I") (by decide +kernel)
  have hm1 := hts (.constant RX7 109 (-1000000000)) (by decide +kernel)
  have hm2 := hts (.fieldLink RX7 19 "ArcPlateModel" "costs" "[I") (by decide +kernel)
  have h12 := inv_S12 hI
  have ht6 := hI6 u h0u (by omega)
  refine lv_iload_n hx hb dX7_starOfWhat_0 rfl (lv_at hl 2 rfl) ?_
  rcases (show w = 3 ∨ w = 4 ∨ w = 5 ∨ w = 6 ∨ (w < 3 ∨ 6 < w) by omega) with c_1 | c_1 | c_1 | c_1 | c_1
  · skip
    refine k_tin (tgt := 32) hx hb 3 c_1 (by decide) dX7_starOfWhat_1 (by decide) (by decide) rfl (by decide) ?_
    refine lv_aload_n hx hb dX7_starOfWhat_32 rfl (lv_at hl 0 rfl) ?_
    refine lv_iload_n hx hb dX7_starOfWhat_33 rfl (lv_at hl 1 rfl) ?_
    refine k_roV (As := [.int (iI u)]) (rest := []) ⟨hx, hb, hml, hown, hts⟩ (c_X7_plateRadius l D cy a R u hI (by omega) (by omega)) gX7_starOfWhat_X7_plateRadius rfl ⟨rfl, rfl⟩ 1 rfl (by decide +kernel) ⟨Nat.le_of_ble_eq_true rfl, Nat.le_of_ble_eq_true rfl⟩ (GG_ok D cy) hG hP (va_recv hK hP (ci := 6) (q0 := 0) rfl rfl) hl.1 rfl (Nat.le_of_ble_eq_true rfl) ⟨Nat.le_of_ble_eq_true rfl, Nat.le_of_ble_eq_true rfl⟩ dX7_starOfWhat_34 (fun r_2 hr_2 => ?_)
    have hr_2 : r_2 = plR (R 1) u := hr_2
    subst hr_2
    exact W.iret (v := iI (plR (R 1) u)) hx hb hr (fun t9 ht _ => ⟨(plR (R 1) u), rfl, (by first | (exfalso; omega) | (unfold stV; (repeat (first | rw [if_pos (by omega)] | rw [if_neg (by omega)])); first | done | rfl | exact hgd.symm) : (plR (R 1) u : Int) = stV (R 1) (R 6) (R 4) u w), ht⟩) (fun _ h => nomatch h) dX7_starOfWhat_37 hlocks
  · skip
    refine k_tin (tgt := 38) hx hb 4 c_1 (by decide) dX7_starOfWhat_1 (by decide) (by decide) rfl (by decide) ?_
    refine lv_aload_n hx hb dX7_starOfWhat_38 rfl (lv_at hl 0 rfl) ?_
    refine va_get (D := D) (ci := 6) (v := .ref (a 6)) (C := RX7) (T := TX7) (N := 19) hx hb hts hinX7 hown hK hP 0 rfl rfl 12 (by decide) hm0 (fun _ h9 => h9) rfl dX7_starOfWhat_39 ?_
    refine lv_iload_n hx hb dX7_starOfWhat_42 rfl (lv_at hl 1 rfl) ?_
    refine k_iald hx hb hK hP 6 0 rfl rfl (i := u) (by omega) dX7_starOfWhat_43 ?_
    exact W.iret (v := iI (R 6 u)) hx hb hr (fun t9 ht _ => ⟨(R 6 u), rfl, (by first | (exfalso; omega) | (unfold stV; (repeat (first | rw [if_pos (by omega)] | rw [if_neg (by omega)])); first | done | rfl | exact hgd.symm) : (R 6 u : Int) = stV (R 1) (R 6) (R 4) u w), ht⟩) (fun _ h => nomatch h) dX7_starOfWhat_44 hlocks
  · skip
    refine k_tin (tgt := 45) hx hb 5 c_1 (by decide) dX7_starOfWhat_1 (by decide) (by decide) rfl (by decide) ?_
    refine lv_aload_n hx hb dX7_starOfWhat_45 rfl (lv_at hl 0 rfl) ?_
    refine va_get (D := D) (ci := 6) (v := .ref (a 6)) (C := RX7) (T := TX7) (N := 19) hx hb hts hinX7 hown hK hP 0 rfl rfl 12 (by decide) hm0 (fun _ h9 => h9) rfl dX7_starOfWhat_46 ?_
    refine lv_iload_n hx hb dX7_starOfWhat_49 rfl (lv_at hl 1 rfl) ?_
    refine k_iald hx hb hK hP 6 0 rfl rfl (i := u) (by omega) dX7_starOfWhat_50 ?_
    refine k_ldc (z := (-1000000000)) hx hb hown hm1 (by decide +kernel) dX7_starOfWhat_51 ?_
    refine k_icmp_ne (tgt := 61) hx hb dX7_starOfWhat_53 (by decide) (by omega) (by omega) (fun c_3 => ?_) (fun c_3 => ?_)
    · skip
      refine lv_aload_n hx hb dX7_starOfWhat_61 rfl (lv_at hl 0 rfl) ?_
      refine va_get (D := D) (ci := 6) (v := .ref (a 4)) (C := RX7) (T := TX7) (N := 19) hx hb hts hinX7 hown hK hP 0 rfl rfl 10 (by decide) hm2 (fun _ h9 => h9) rfl dX7_starOfWhat_62 ?_
      refine k_bipush hx hb dX7_starOfWhat_65 (by decide +kernel) ?_
      refine lv_aload_n hx hb dX7_starOfWhat_67 rfl (lv_at hl 0 rfl) ?_
      refine va_get (D := D) (ci := 6) (v := .ref (a 6)) (C := RX7) (T := TX7) (N := 19) hx hb hts hinX7 hown hK hP 0 rfl rfl 12 (by decide) hm0 (fun _ h9 => h9) rfl dX7_starOfWhat_68 ?_
      refine lv_iload_n hx hb dX7_starOfWhat_71 rfl (lv_at hl 1 rfl) ?_
      refine k_iald hx hb hK hP 6 0 rfl rfl (i := u) (by omega) dX7_starOfWhat_72 ?_
      refine k_imul hx hb dX7_starOfWhat_73 ?_
      refine lv_iload_n hx hb dX7_starOfWhat_74 rfl (lv_at hl 1 rfl) ?_
      refine k_iadd hx hb dX7_starOfWhat_75 ?_
      refine k_iald hx hb hK hP 4 0 rfl rfl (i := (12 * (R 6 u)) + u) (by omega) dX7_starOfWhat_76 ?_
      exact W.iret (v := iI (R 4 ((12 * (R 6 u)) + u))) hx hb hr (fun t9 ht _ => ⟨(R 4 ((12 * (R 6 u)) + u)), rfl, (by first | (exfalso; omega) | (unfold stV; (repeat (first | rw [if_pos (by omega)] | rw [if_neg (by omega)])); first | done | rfl | exact hgd.symm) : (R 4 ((12 * (R 6 u)) + u) : Int) = stV (R 1) (R 6) (R 4) u w), ht⟩) (fun _ h => nomatch h) dX7_starOfWhat_77 hlocks
    · skip
      refine k_ldc (z := (-1000000000)) hx hb hown hm1 (by decide +kernel) dX7_starOfWhat_56 ?_
      refine lv_goto (tgt := 77) hx hb dX7_starOfWhat_58 (by decide) ?_
      exact W.iret (v := iI (-1000000000)) hx hb hr (fun t9 ht _ => ⟨(-1000000000), rfl, (by first | (exfalso; omega) | (unfold stV; (repeat (first | rw [if_pos (by omega)] | rw [if_neg (by omega)])); first | done | rfl | exact hgd.symm) : ((-1000000000) : Int) = stV (R 1) (R 6) (R 4) u w), ht⟩) (fun _ h => nomatch h) dX7_starOfWhat_77 hlocks
  · skip
    refine k_tin (tgt := 78) hx hb 6 c_1 (by decide) dX7_starOfWhat_1 (by decide) (by decide) rfl (by decide) ?_
    refine lv_aload_n hx hb dX7_starOfWhat_78 rfl (lv_at hl 0 rfl) ?_
    refine lv_iload_n hx hb dX7_starOfWhat_79 rfl (lv_at hl 1 rfl) ?_
    refine k_roV (As := [.int (iI u)]) (rest := []) ⟨hx, hb, hml, hown, hts⟩ (c_X7_isMissing l D cy a R u hI (by omega) (by omega) hI6) gX7_starOfWhat_X7_isMissing rfl ⟨rfl, rfl⟩ 1 rfl (by decide +kernel) ⟨Nat.le_of_ble_eq_true rfl, Nat.le_of_ble_eq_true rfl⟩ (GG_ok D cy) hG hP (va_recv hK hP (ci := 6) (q0 := 0) rfl rfl) hl.1 rfl (Nat.le_of_ble_eq_true rfl) ⟨Nat.le_of_ble_eq_true rfl, Nat.le_of_ble_eq_true rfl⟩ dX7_starOfWhat_80 (fun r_4 hr_4 => ?_)
    have hr_4 : ((missP (R 1) (R 6) u) ∧ r_4 = 1) ∨ (¬ (missP (R 1) (R 6) u) ∧ r_4 = 0) := hr_4
    rcases hr_4 with ⟨c_5, hr_4⟩ | ⟨c_5, hr_4⟩ <;> subst hr_4
    · skip
      have hgd := missN_1 c_5
      refine k_if_eq (tgt := 90) hx hb dX7_starOfWhat_83 (by decide) (by omega) (fun c_6 => ?_) (fun c_6 => ?_)
      · exfalso; omega
      · skip
        refine k_iconst hx hb dX7_starOfWhat_86 ?_
        refine lv_goto (tgt := 91) hx hb dX7_starOfWhat_87 (by decide) ?_
        exact W.iret (v := iI 1) hx hb hr (fun t9 ht _ => ⟨1, rfl, (by first | (exfalso; omega) | (unfold stV; (repeat (first | rw [if_pos (by omega)] | rw [if_neg (by omega)])); first | done | rfl | exact hgd.symm) : (1 : Int) = stV (R 1) (R 6) (R 4) u w), ht⟩) (fun _ h => nomatch h) dX7_starOfWhat_91 hlocks
    · skip
      have hgd := missN_0 c_5
      refine k_if_eq (tgt := 90) hx hb dX7_starOfWhat_83 (by decide) (by omega) (fun c_7 => ?_) (fun c_7 => ?_)
      · skip
        refine k_iconst hx hb dX7_starOfWhat_90 ?_
        exact W.iret (v := iI 0) hx hb hr (fun t9 ht _ => ⟨0, rfl, (by first | (exfalso; omega) | (unfold stV; (repeat (first | rw [if_pos (by omega)] | rw [if_neg (by omega)])); first | done | rfl | exact hgd.symm) : (0 : Int) = stV (R 1) (R 6) (R 4) u w), ht⟩) (fun _ h => nomatch h) dX7_starOfWhat_91 hlocks
      · exfalso; omega
  · skip
    refine k_tout (tgt := 92) hx hb (by omega) dX7_starOfWhat_1 c_1 (by decide) ?_
    refine lv_aload_n hx hb dX7_starOfWhat_92 rfl (lv_at hl 0 rfl) ?_
    refine lv_iload_n hx hb dX7_starOfWhat_93 rfl (lv_at hl 1 rfl) ?_
    refine lv_iload_n hx hb dX7_starOfWhat_94 rfl (lv_at hl 2 rfl) ?_
    refine k_roV (As := [.int (iI u), .int (iI w)]) (rest := []) ⟨hx, hb, hml, hown, hts⟩ (c_X7_ofStar l D cy a R u w (by omega) (by omega) (by omega) (by omega)) gX7_starOfWhat_X7_ofStar rfl ⟨rfl, rfl⟩ 2 rfl (by decide +kernel) ⟨Nat.le_of_ble_eq_true rfl, Nat.le_of_ble_eq_true rfl⟩ (GG_ok D cy) hG hP (va_recv hK hP (ci := 6) (q0 := 0) rfl rfl) hl.1 rfl (Nat.le_of_ble_eq_true rfl) ⟨Nat.le_of_ble_eq_true rfl, Nat.le_of_ble_eq_true rfl⟩ dX7_starOfWhat_95 (fun r_8 hr_8 => ?_)
    have hr_8 : r_8 = R 1 (458 + 3 * u + w) := hr_8
    subst hr_8
    exact W.iret (v := iI (R 1 (458 + 3 * u + w))) hx hb hr (fun t9 ht _ => ⟨(R 1 (458 + 3 * u + w)), rfl, (by first | (exfalso; omega) | (unfold stV; (repeat (first | rw [if_pos (by omega)] | rw [if_neg (by omega)])); first | done | rfl | exact hgd.symm) : (R 1 (458 + 3 * u + w) : Int) = stV (R 1) (R 6) (R 4) u w), ht⟩) (fun _ h => nomatch h) dX7_starOfWhat_98 hlocks
set_option maxHeartbeats 4000000 in
set_option maxRecDepth 100000 in
theorem c_X7_overTrails (l : Launch) (D : va_G) (cy : Nat → ClassId) (a : Nat → Nat) (R : Nat → Int → Int) (w : Int) (hI : Inv (R 1)) (hrw : -2147483648 ≤ w ∧ w ≤ 2147483647) : Met l yX7_overTrails wsX7_overTrails { frames := 7, cells := 0, slots := 0, locals := 152 } (kPre (GG D cy) D (rfW cy a R) ([.ref (a 0), .int (iI w)] : List Value)) (kRO (fun r => r = ovT (R 1) w)) 0 0 (fun _ => False) := by
  refine kRO_start (cc := cX7_overTrails) (maxL := 4) (ret := (some .int)) (by decide) rfl (Nat.le_of_ble_eq_true rfl) ?_
  intro p e s m below meth c hx hb hr hlocks hml hts hown hG hP ls hl
  have hK := hG.1
  have hl : lv_has ls 4 [(0, .ref (a 0)), (1, .int (iI w))] := hl
  have hinX7 : ∀ w ∈ u_ws RX7 TX7 19, w ∈ wsX7_overTrails := by decide +kernel
  have hm0 := hts (.fieldLink RX7 7 "ArcPlateModel" "m" "[I") (by decide +kernel)
  have h12 := inv_S12 hI
  refine k_iconst hx hb dX7_overTrails_0 ?_
  refine lv_istore_n (lv' := [(2, .int (iI 0)), (0, .ref (a 0)), (1, .int (iI w))]) hx hb dX7_overTrails_1 rfl hl (by decide) rfl (fun ls hl => ?_)
  refine k_iconst hx hb dX7_overTrails_2 ?_
  refine lv_istore_n (lv' := [(3, .int (iI 0)), (2, .int (iI 0)), (0, .ref (a 0)), (1, .int (iI w))]) hx hb dX7_overTrails_3 rfl hl (by decide) rfl (fun ls hl => ?_)
  have loop4 : ∀ (n_1 : Nat) (t : Int) (x2 : Int) (hi0 : 0 ≤ t) (hi1 : t ≤ R 1 12) (hex2 : x2 = sumZ (fun t => if w = 9 then pts (R 1) t else if w = 10 then gapN (R 1) t else goodN (R 1) t) t) (hn : R 1 12 - t < (n_1 : Int)) (ls : Array Slot) (hl : lv_has ls 4 [(3, .int (iI t)), (2, .int (iI x2)), (0, .ref (a 0)), (1, .int (iI w))]), W p l e { frames := 7, cells := 0, slots := 0, locals := 152 } s m ([.ref (a 0), .int (iI w)] : List Value).toArray below meth c s.heap [] 0 0 (MQ below (kRO (fun r => r = ovT (R 1) w)) ([.ref (a 0), .int (iI w)] : List Value).toArray s 0 0 (fun _ => False)) (F0 m 4 ls []) := by
    intro n_1
    induction n_1 with
    | zero => intro t x2 hi0 hi1 hex2 hn ls hl; exfalso; omega
    | succ n_1 ih4 =>
      intro t x2 hi0 hi1 hex2 hn ls hl
      subst hex2
      refine lv_iload_n hx hb dX7_overTrails_4 rfl (lv_at hl 0 rfl) ?_
      refine lv_aload_n hx hb dX7_overTrails_5 rfl (lv_at hl 2 rfl) ?_
      refine va_get (D := D) (ci := 6) (v := .ref (a 1)) (C := RX7) (T := TX7) (N := 19) hx hb hts hinX7 hown hK hP 0 rfl rfl 0 (by decide) hm0 (fun _ h9 => h9) rfl dX7_overTrails_6 ?_
      refine k_bipush hx hb dX7_overTrails_9 (by decide +kernel) ?_
      refine k_iald hx hb hK hP 1 0 rfl rfl (i := 12) (by omega) dX7_overTrails_11 ?_
      refine k_icmp_ge (tgt := 65) hx hb dX7_overTrails_12 (by decide) (by omega) (by omega) (fun c_2 => ?_) (fun c_2 => ?_)
      · skip
        refine lv_iload_n hx hb dX7_overTrails_65 rfl (lv_at hl 1 rfl) ?_
        exact W.iret (v := iI (sumZ (fun t => if w = 9 then pts (R 1) t else if w = 10 then gapN (R 1) t else goodN (R 1) t) t)) hx hb hr (fun t9 ht _ => ⟨(sumZ (fun t => if w = 9 then pts (R 1) t else if w = 10 then gapN (R 1) t else goodN (R 1) t) t), rfl, (by have e9 : t = R 1 12 := (by omega); subst e9; rfl : (sumZ (fun t => if w = 9 then pts (R 1) t else if w = 10 then gapN (R 1) t else goodN (R 1) t) t : Int) = ovT (R 1) w), ht⟩) (fun _ h => nomatch h) dX7_overTrails_66 hlocks
      · skip
        refine lv_iload_n hx hb dX7_overTrails_15 rfl (lv_at hl 1 rfl) ?_
        refine lv_iload_n hx hb dX7_overTrails_16 rfl (lv_at hl 3 rfl) ?_
        refine k_bipush hx hb dX7_overTrails_17 (by decide +kernel) ?_
        refine k_icmp_ne (tgt := 30) hx hb dX7_overTrails_19 (by decide) (by omega) (by omega) (fun c_3 => ?_) (fun c_3 => ?_)
        · skip
          refine lv_iload_n hx hb dX7_overTrails_30 rfl (lv_at hl 3 rfl) ?_
          refine k_bipush hx hb dX7_overTrails_31 (by decide +kernel) ?_
          refine k_icmp_ne (tgt := 44) hx hb dX7_overTrails_33 (by decide) (by omega) (by omega) (fun c_4 => ?_) (fun c_4 => ?_)
          · skip
            refine lv_aload_n hx hb dX7_overTrails_44 rfl (lv_at hl 2 rfl) ?_
            refine lv_iload_n hx hb dX7_overTrails_45 rfl (lv_at hl 0 rfl) ?_
            refine k_roV (As := [.int (iI t)]) (rest := [.int (iI (sumZ (fun t => if w = 9 then pts (R 1) t else if w = 10 then gapN (R 1) t else goodN (R 1) t) t))]) ⟨hx, hb, hml, hown, hts⟩ (c_X7_isGood l D cy a R t hI (by omega) (by omega)) gX7_overTrails_X7_isGood rfl ⟨rfl, rfl⟩ 1 rfl (by decide +kernel) ⟨Nat.le_of_ble_eq_true rfl, Nat.le_of_ble_eq_true rfl⟩ (GG_ok D cy) hG hP (va_recv hK hP (ci := 6) (q0 := 0) rfl rfl) hl.1 rfl (Nat.le_of_ble_eq_true rfl) ⟨Nat.le_of_ble_eq_true rfl, Nat.le_of_ble_eq_true rfl⟩ dX7_overTrails_46 (fun r_5 hr_5 => ?_)
            have hr_5 : ((isGoodP (R 1) t) ∧ r_5 = 1) ∨ (¬ (isGoodP (R 1) t) ∧ r_5 = 0) := hr_5
            rcases hr_5 with ⟨c_6, hr_5⟩ | ⟨c_6, hr_5⟩ <;> subst hr_5
            · skip
              have hgd := goodN_1 c_6
              refine k_if_eq (tgt := 56) hx hb dX7_overTrails_49 (by decide) (by omega) (fun c_7 => ?_) (fun c_7 => ?_)
              · exfalso; omega
              · skip
                refine k_iconst hx hb dX7_overTrails_52 ?_
                refine lv_goto (tgt := 57) hx hb dX7_overTrails_53 (by decide) ?_
                refine k_iadd hx hb dX7_overTrails_57 ?_
                refine lv_istore_n (lv' := [(2, .int (iI ((sumZ (fun t => if w = 9 then pts (R 1) t else if w = 10 then gapN (R 1) t else goodN (R 1) t) t) + 1))), (3, .int (iI t)), (0, .ref (a 0)), (1, .int (iI w))]) hx hb dX7_overTrails_58 rfl hl (by decide) rfl (fun ls hl => ?_)
                refine lv_iinc (v := iI (t + 1)) (lv' := [(3, .int (iI (t + 1))), (2, .int (iI ((sumZ (fun t => if w = 9 then pts (R 1) t else if w = 10 then gapN (R 1) t else goodN (R 1) t) t) + 1))), (0, .ref (a 0)), (1, .int (iI w))]) hx hb dX7_overTrails_59 hl (k := 1) rfl (iI_add _ _) (by decide) rfl (fun ls hl => ?_)
                refine lv_goto (tgt := 4) hx hb dX7_overTrails_62 (by decide) ?_
                exact ih4 (t + 1) ((sumZ (fun t => if w = 9 then pts (R 1) t else if w = 10 then gapN (R 1) t else goodN (R 1) t) t) + 1) (by omega) (by omega) (by rw [sumZ_s _ hi0]; (repeat (first | rw [if_pos (by omega)] | rw [if_neg (by omega)])); try rw [hgd]) (by omega) ls (lv_sub hl [0, 1, 2, 3] rfl)
            · skip
              have hgd := goodN_0 c_6
              refine k_if_eq (tgt := 56) hx hb dX7_overTrails_49 (by decide) (by omega) (fun c_8 => ?_) (fun c_8 => ?_)
              · skip
                refine k_iconst hx hb dX7_overTrails_56 ?_
                refine k_iadd hx hb dX7_overTrails_57 ?_
                refine lv_istore_n (lv' := [(2, .int (iI ((sumZ (fun t => if w = 9 then pts (R 1) t else if w = 10 then gapN (R 1) t else goodN (R 1) t) t) + 0))), (3, .int (iI t)), (0, .ref (a 0)), (1, .int (iI w))]) hx hb dX7_overTrails_58 rfl hl (by decide) rfl (fun ls hl => ?_)
                refine lv_iinc (v := iI (t + 1)) (lv' := [(3, .int (iI (t + 1))), (2, .int (iI ((sumZ (fun t => if w = 9 then pts (R 1) t else if w = 10 then gapN (R 1) t else goodN (R 1) t) t) + 0))), (0, .ref (a 0)), (1, .int (iI w))]) hx hb dX7_overTrails_59 hl (k := 1) rfl (iI_add _ _) (by decide) rfl (fun ls hl => ?_)
                refine lv_goto (tgt := 4) hx hb dX7_overTrails_62 (by decide) ?_
                exact ih4 (t + 1) ((sumZ (fun t => if w = 9 then pts (R 1) t else if w = 10 then gapN (R 1) t else goodN (R 1) t) t) + 0) (by omega) (by omega) (by rw [sumZ_s _ hi0]; (repeat (first | rw [if_pos (by omega)] | rw [if_neg (by omega)])); try rw [hgd]) (by omega) ls (lv_sub hl [0, 1, 2, 3] rfl)
              · exfalso; omega
          · skip
            refine lv_aload_n hx hb dX7_overTrails_36 rfl (lv_at hl 2 rfl) ?_
            refine lv_iload_n hx hb dX7_overTrails_37 rfl (lv_at hl 0 rfl) ?_
            refine k_roV (As := [.int (iI t)]) (rest := [.int (iI (sumZ (fun t => if w = 9 then pts (R 1) t else if w = 10 then gapN (R 1) t else goodN (R 1) t) t))]) ⟨hx, hb, hml, hown, hts⟩ (c_X7_gaps l D cy a R t hI (by omega) (by omega)) gX7_overTrails_X7_gaps rfl ⟨rfl, rfl⟩ 1 rfl (by decide +kernel) ⟨Nat.le_of_ble_eq_true rfl, Nat.le_of_ble_eq_true rfl⟩ (GG_ok D cy) hG hP (va_recv hK hP (ci := 6) (q0 := 0) rfl rfl) hl.1 rfl (Nat.le_of_ble_eq_true rfl) ⟨Nat.le_of_ble_eq_true rfl, Nat.le_of_ble_eq_true rfl⟩ dX7_overTrails_38 (fun r_9 hr_9 => ?_)
            have hr_9 : r_9 = gapN (R 1) t := hr_9
            subst hr_9
            refine lv_goto (tgt := 57) hx hb dX7_overTrails_41 (by decide) ?_
            refine k_iadd hx hb dX7_overTrails_57 ?_
            refine lv_istore_n (lv' := [(2, .int (iI ((sumZ (fun t => if w = 9 then pts (R 1) t else if w = 10 then gapN (R 1) t else goodN (R 1) t) t) + (gapN (R 1) t)))), (3, .int (iI t)), (0, .ref (a 0)), (1, .int (iI w))]) hx hb dX7_overTrails_58 rfl hl (by decide) rfl (fun ls hl => ?_)
            refine lv_iinc (v := iI (t + 1)) (lv' := [(3, .int (iI (t + 1))), (2, .int (iI ((sumZ (fun t => if w = 9 then pts (R 1) t else if w = 10 then gapN (R 1) t else goodN (R 1) t) t) + (gapN (R 1) t)))), (0, .ref (a 0)), (1, .int (iI w))]) hx hb dX7_overTrails_59 hl (k := 1) rfl (iI_add _ _) (by decide) rfl (fun ls hl => ?_)
            refine lv_goto (tgt := 4) hx hb dX7_overTrails_62 (by decide) ?_
            exact ih4 (t + 1) ((sumZ (fun t => if w = 9 then pts (R 1) t else if w = 10 then gapN (R 1) t else goodN (R 1) t) t) + (gapN (R 1) t)) (by omega) (by omega) (by rw [sumZ_s _ hi0]; (repeat (first | rw [if_pos (by omega)] | rw [if_neg (by omega)])); try rw [hgd]) (by omega) ls (lv_sub hl [0, 1, 2, 3] rfl)
        · skip
          refine lv_aload_n hx hb dX7_overTrails_22 rfl (lv_at hl 2 rfl) ?_
          refine lv_iload_n hx hb dX7_overTrails_23 rfl (lv_at hl 0 rfl) ?_
          refine k_roV (As := [.int (iI t)]) (rest := [.int (iI (sumZ (fun t => if w = 9 then pts (R 1) t else if w = 10 then gapN (R 1) t else goodN (R 1) t) t))]) ⟨hx, hb, hml, hown, hts⟩ (c_X7_points l D cy a R t (by omega) (by omega)) gX7_overTrails_X7_points rfl ⟨rfl, rfl⟩ 1 rfl (by decide +kernel) ⟨Nat.le_of_ble_eq_true rfl, Nat.le_of_ble_eq_true rfl⟩ (GG_ok D cy) hG hP (va_recv hK hP (ci := 6) (q0 := 0) rfl rfl) hl.1 rfl (Nat.le_of_ble_eq_true rfl) ⟨Nat.le_of_ble_eq_true rfl, Nat.le_of_ble_eq_true rfl⟩ dX7_overTrails_24 (fun r_10 hr_10 => ?_)
          have hr_10 : r_10 = pts (R 1) t := hr_10
          subst hr_10
          refine lv_goto (tgt := 57) hx hb dX7_overTrails_27 (by decide) ?_
          refine k_iadd hx hb dX7_overTrails_57 ?_
          refine lv_istore_n (lv' := [(2, .int (iI ((sumZ (fun t => if w = 9 then pts (R 1) t else if w = 10 then gapN (R 1) t else goodN (R 1) t) t) + (pts (R 1) t)))), (3, .int (iI t)), (0, .ref (a 0)), (1, .int (iI w))]) hx hb dX7_overTrails_58 rfl hl (by decide) rfl (fun ls hl => ?_)
          refine lv_iinc (v := iI (t + 1)) (lv' := [(3, .int (iI (t + 1))), (2, .int (iI ((sumZ (fun t => if w = 9 then pts (R 1) t else if w = 10 then gapN (R 1) t else goodN (R 1) t) t) + (pts (R 1) t)))), (0, .ref (a 0)), (1, .int (iI w))]) hx hb dX7_overTrails_59 hl (k := 1) rfl (iI_add _ _) (by decide) rfl (fun ls hl => ?_)
          refine lv_goto (tgt := 4) hx hb dX7_overTrails_62 (by decide) ?_
          exact ih4 (t + 1) ((sumZ (fun t => if w = 9 then pts (R 1) t else if w = 10 then gapN (R 1) t else goodN (R 1) t) t) + (pts (R 1) t)) (by omega) (by omega) (by rw [sumZ_s _ hi0]; (repeat (first | rw [if_pos (by omega)] | rw [if_neg (by omega)])); try rw [hgd]) (by omega) ls (lv_sub hl [0, 1, 2, 3] rfl)
  exact loop4 ((R 1 12 - 0 : Int) + 1).toNat 0 0 (by omega) (by omega) (rfl) (by omega) ls (lv_sub hl [0, 1, 2, 3] rfl)
set_option maxHeartbeats 4000000 in
set_option maxRecDepth 100000 in
theorem c_X7_missingStars (l : Launch) (D : va_G) (cy : Nat → ClassId) (a : Nat → Nat) (R : Nat → Int → Int)  (hI : Inv (R 1)) (hI6 : TRok (R 6)) : Met l yX7_missingStars wsX7_missingStars { frames := 2, cells := 0, slots := 0, locals := 43 } (kPre (GG D cy) D (rfW cy a R) ([.ref (a 0)] : List Value)) (kRO (fun r => r = missC (R 1) (R 6))) 0 0 (fun _ => False) := by
  refine kRO_start (cc := cX7_missingStars) (maxL := 3) (ret := (some .int)) (by decide) rfl (Nat.le_of_ble_eq_true rfl) ?_
  intro p e s m below meth c hx hb hr hlocks hml hts hown hG hP ls hl
  have hK := hG.1
  have hl : lv_has ls 3 [(0, .ref (a 0))] := hl
  have hinX7 : ∀ w ∈ u_ws RX7 TX7 19, w ∈ wsX7_missingStars := by decide +kernel
  have hm0 := hts (.fieldLink RX7 7 "ArcPlateModel" "m" "[I") (by decide +kernel)
  have h12 := inv_S12 hI
  refine k_iconst hx hb dX7_missingStars_0 ?_
  refine lv_istore_n (lv' := [(1, .int (iI 0)), (0, .ref (a 0))]) hx hb dX7_missingStars_1 rfl hl (by decide) rfl (fun ls hl => ?_)
  refine k_iconst hx hb dX7_missingStars_2 ?_
  refine lv_istore_n (lv' := [(2, .int (iI 0)), (1, .int (iI 0)), (0, .ref (a 0))]) hx hb dX7_missingStars_3 rfl hl (by decide) rfl (fun ls hl => ?_)
  have loop4 : ∀ (n_1 : Nat) (u : Int) (x1 : Int) (hi0 : 0 ≤ u) (hi1 : u ≤ R 1 13) (hex1 : x1 = sumZ (missN (R 1) (R 6)) u) (hn : R 1 13 - u < (n_1 : Int)) (ls : Array Slot) (hl : lv_has ls 3 [(2, .int (iI u)), (1, .int (iI x1)), (0, .ref (a 0))]), W p l e { frames := 2, cells := 0, slots := 0, locals := 43 } s m ([.ref (a 0)] : List Value).toArray below meth c s.heap [] 0 0 (MQ below (kRO (fun r => r = missC (R 1) (R 6))) ([.ref (a 0)] : List Value).toArray s 0 0 (fun _ => False)) (F0 m 4 ls []) := by
    intro n_1
    induction n_1 with
    | zero => intro u x1 hi0 hi1 hex1 hn ls hl; exfalso; omega
    | succ n_1 ih4 =>
      intro u x1 hi0 hi1 hex1 hn ls hl
      subst hex1
      refine lv_iload_n hx hb dX7_missingStars_4 rfl (lv_at hl 0 rfl) ?_
      refine lv_aload_n hx hb dX7_missingStars_5 rfl (lv_at hl 2 rfl) ?_
      refine va_get (D := D) (ci := 6) (v := .ref (a 1)) (C := RX7) (T := TX7) (N := 19) hx hb hts hinX7 hown hK hP 0 rfl rfl 0 (by decide) hm0 (fun _ h9 => h9) rfl dX7_missingStars_6 ?_
      refine k_bipush hx hb dX7_missingStars_9 (by decide +kernel) ?_
      refine k_iald hx hb hK hP 1 0 rfl rfl (i := 13) (by omega) dX7_missingStars_11 ?_
      refine k_icmp_ge (tgt := 37) hx hb dX7_missingStars_12 (by decide) (by omega) (by omega) (fun c_2 => ?_) (fun c_2 => ?_)
      · skip
        refine lv_iload_n hx hb dX7_missingStars_37 rfl (lv_at hl 1 rfl) ?_
        exact W.iret (v := iI (sumZ (missN (R 1) (R 6)) u)) hx hb hr (fun t9 ht _ => ⟨(sumZ (missN (R 1) (R 6)) u), rfl, (by have e9 : u = R 1 13 := (by omega); subst e9; rfl : (sumZ (missN (R 1) (R 6)) u : Int) = missC (R 1) (R 6)), ht⟩) (fun _ h => nomatch h) dX7_missingStars_38 hlocks
      · skip
        refine lv_iload_n hx hb dX7_missingStars_15 rfl (lv_at hl 1 rfl) ?_
        refine lv_aload_n hx hb dX7_missingStars_16 rfl (lv_at hl 2 rfl) ?_
        refine lv_iload_n hx hb dX7_missingStars_17 rfl (lv_at hl 0 rfl) ?_
        refine k_roV (As := [.int (iI u)]) (rest := [.int (iI (sumZ (missN (R 1) (R 6)) u))]) ⟨hx, hb, hml, hown, hts⟩ (c_X7_isMissing l D cy a R u hI (by omega) (by omega) hI6) gX7_missingStars_X7_isMissing rfl ⟨rfl, rfl⟩ 1 rfl (by decide +kernel) ⟨Nat.le_of_ble_eq_true rfl, Nat.le_of_ble_eq_true rfl⟩ (GG_ok D cy) hG hP (va_recv hK hP (ci := 6) (q0 := 0) rfl rfl) hl.1 rfl (Nat.le_of_ble_eq_true rfl) ⟨Nat.le_of_ble_eq_true rfl, Nat.le_of_ble_eq_true rfl⟩ dX7_missingStars_18 (fun r_3 hr_3 => ?_)
        have hr_3 : ((missP (R 1) (R 6) u) ∧ r_3 = 1) ∨ (¬ (missP (R 1) (R 6) u) ∧ r_3 = 0) := hr_3
        rcases hr_3 with ⟨c_4, hr_3⟩ | ⟨c_4, hr_3⟩ <;> subst hr_3
        · skip
          have hgd := missN_1 c_4
          refine k_if_eq (tgt := 28) hx hb dX7_missingStars_21 (by decide) (by omega) (fun c_5 => ?_) (fun c_5 => ?_)
          · exfalso; omega
          · skip
            refine k_iconst hx hb dX7_missingStars_24 ?_
            refine lv_goto (tgt := 29) hx hb dX7_missingStars_25 (by decide) ?_
            refine k_iadd hx hb dX7_missingStars_29 ?_
            refine lv_istore_n (lv' := [(1, .int (iI ((sumZ (missN (R 1) (R 6)) u) + 1))), (2, .int (iI u)), (0, .ref (a 0))]) hx hb dX7_missingStars_30 rfl hl (by decide) rfl (fun ls hl => ?_)
            refine lv_iinc (v := iI (u + 1)) (lv' := [(2, .int (iI (u + 1))), (1, .int (iI ((sumZ (missN (R 1) (R 6)) u) + 1))), (0, .ref (a 0))]) hx hb dX7_missingStars_31 hl (k := 1) rfl (iI_add _ _) (by decide) rfl (fun ls hl => ?_)
            refine lv_goto (tgt := 4) hx hb dX7_missingStars_34 (by decide) ?_
            exact ih4 (u + 1) ((sumZ (missN (R 1) (R 6)) u) + 1) (by omega) (by omega) (by rw [sumZ_s _ hi0, hgd]) (by omega) ls (lv_sub hl [0, 1, 2] rfl)
        · skip
          have hgd := missN_0 c_4
          refine k_if_eq (tgt := 28) hx hb dX7_missingStars_21 (by decide) (by omega) (fun c_6 => ?_) (fun c_6 => ?_)
          · skip
            refine k_iconst hx hb dX7_missingStars_28 ?_
            refine k_iadd hx hb dX7_missingStars_29 ?_
            refine lv_istore_n (lv' := [(1, .int (iI ((sumZ (missN (R 1) (R 6)) u) + 0))), (2, .int (iI u)), (0, .ref (a 0))]) hx hb dX7_missingStars_30 rfl hl (by decide) rfl (fun ls hl => ?_)
            refine lv_iinc (v := iI (u + 1)) (lv' := [(2, .int (iI (u + 1))), (1, .int (iI ((sumZ (missN (R 1) (R 6)) u) + 0))), (0, .ref (a 0))]) hx hb dX7_missingStars_31 hl (k := 1) rfl (iI_add _ _) (by decide) rfl (fun ls hl => ?_)
            refine lv_goto (tgt := 4) hx hb dX7_missingStars_34 (by decide) ?_
            exact ih4 (u + 1) ((sumZ (missN (R 1) (R 6)) u) + 0) (by omega) (by omega) (by rw [sumZ_s _ hi0, hgd]) (by omega) ls (lv_sub hl [0, 1, 2] rfl)
          · exfalso; omega
  exact loop4 ((R 1 13 - 0 : Int) + 1).toNat 0 0 (by omega) (by omega) (rfl) (by omega) ls (lv_sub hl [0, 1, 2] rfl)
set_option maxHeartbeats 4000000 in
set_option maxRecDepth 100000 in
theorem c_X7_wholeOf (l : Launch) (D : va_G) (cy : Nat → ClassId) (a : Nat → Nat) (R : Nat → Int → Int) (w : Int) (hI : Inv (R 1)) (hI6 : TRok (R 6)) (hw : 0 ≤ w ∧ w ≤ 10) : Met l yX7_wholeOf wsX7_wholeOf { frames := 8, cells := 0, slots := 0, locals := 175 } (kPre (GG D cy) D (rfW cy a R) ([.ref (a 0), .int (iI w)] : List Value)) (kRO (fun r => r = whV (R 1) (R 6) (R 0 13) (R 0 14) w)) 0 0 (fun _ => False) := by
  refine kRO_start (cc := cX7_wholeOf) (maxL := 2) (ret := (some .int)) (by decide) rfl (Nat.le_of_ble_eq_true rfl) ?_
  intro p e s m below meth c hx hb hr hlocks hml hts hown hG hP ls hl
  have hK := hG.1
  have hl : lv_has ls 2 [(0, .ref (a 0)), (1, .int (iI w))] := hl
  have hinX7 : ∀ w ∈ u_ws RX7 TX7 19, w ∈ wsX7_wholeOf := by decide +kernel
  have hm0 := hts (.fieldLink RX7 7 "ArcPlateModel" "m" "[I") (by decide +kernel)
  have hm1 := hts (.fieldLink RX7 201 "ArcPlateModel" "matches" "I") (by decide +kernel)
  have hm2 := hts (.fieldLink RX7 204 "ArcPlateModel" "sumOfCosts" "I") (by decide +kernel)
  have h12 := inv_S12 hI
  refine lv_iload_n hx hb dX7_wholeOf_0 rfl (lv_at hl 1 rfl) ?_
  rcases (show w = 0 ∨ w = 1 ∨ w = 2 ∨ w = 3 ∨ w = 4 ∨ w = 5 ∨ w = 6 ∨ w = 7 ∨ w = 8 ∨ (w < 0 ∨ 8 < w) by omega) with c_1 | c_1 | c_1 | c_1 | c_1 | c_1 | c_1 | c_1 | c_1 | c_1
  · skip
    refine k_tin (tgt := 52) hx hb 0 c_1 (by decide) dX7_wholeOf_1 (by decide) (by decide) rfl (by decide) ?_
    refine lv_aload_n hx hb dX7_wholeOf_52 rfl (lv_at hl 0 rfl) ?_
    refine va_get (D := D) (ci := 6) (v := .ref (a 1)) (C := RX7) (T := TX7) (N := 19) hx hb hts hinX7 hown hK hP 0 rfl rfl 0 (by decide) hm0 (fun _ h9 => h9) rfl dX7_wholeOf_53 ?_
    refine k_bipush hx hb dX7_wholeOf_56 (by decide +kernel) ?_
    refine k_iald hx hb hK hP 1 0 rfl rfl (i := 12) (by omega) dX7_wholeOf_58 ?_
    exact W.iret (v := iI (R 1 12)) hx hb hr (fun t9 ht _ => ⟨(R 1 12), rfl, (by first | (exfalso; omega) | (unfold whV; (repeat (first | rw [if_pos (by omega)] | rw [if_neg (by omega)])); first | done | rfl | exact hgd.symm) : (R 1 12 : Int) = whV (R 1) (R 6) (R 0 13) (R 0 14) w), ht⟩) (fun _ h => nomatch h) dX7_wholeOf_59 hlocks
  · skip
    refine k_tin (tgt := 60) hx hb 1 c_1 (by decide) dX7_wholeOf_1 (by decide) (by decide) rfl (by decide) ?_
    refine lv_aload_n hx hb dX7_wholeOf_60 rfl (lv_at hl 0 rfl) ?_
    refine va_get (D := D) (ci := 6) (v := .ref (a 1)) (C := RX7) (T := TX7) (N := 19) hx hb hts hinX7 hown hK hP 0 rfl rfl 0 (by decide) hm0 (fun _ h9 => h9) rfl dX7_wholeOf_61 ?_
    refine k_bipush hx hb dX7_wholeOf_64 (by decide +kernel) ?_
    refine k_iald hx hb hK hP 1 0 rfl rfl (i := 13) (by omega) dX7_wholeOf_66 ?_
    exact W.iret (v := iI (R 1 13)) hx hb hr (fun t9 ht _ => ⟨(R 1 13), rfl, (by first | (exfalso; omega) | (unfold whV; (repeat (first | rw [if_pos (by omega)] | rw [if_neg (by omega)])); first | done | rfl | exact hgd.symm) : (R 1 13 : Int) = whV (R 1) (R 6) (R 0 13) (R 0 14) w), ht⟩) (fun _ h => nomatch h) dX7_wholeOf_67 hlocks
  · skip
    refine k_tin (tgt := 68) hx hb 2 c_1 (by decide) dX7_wholeOf_1 (by decide) (by decide) rfl (by decide) ?_
    refine lv_aload_n hx hb dX7_wholeOf_68 rfl (lv_at hl 0 rfl) ?_
    refine va_get (D := D) (ci := 6) (v := .ref (a 1)) (C := RX7) (T := TX7) (N := 19) hx hb hts hinX7 hown hK hP 0 rfl rfl 0 (by decide) hm0 (fun _ h9 => h9) rfl dX7_wholeOf_69 ?_
    refine k_bipush hx hb dX7_wholeOf_72 (by decide +kernel) ?_
    refine k_iald hx hb hK hP 1 0 rfl rfl (i := 10) (by omega) dX7_wholeOf_74 ?_
    exact W.iret (v := iI (R 1 10)) hx hb hr (fun t9 ht _ => ⟨(R 1 10), rfl, (by first | (exfalso; omega) | (unfold whV; (repeat (first | rw [if_pos (by omega)] | rw [if_neg (by omega)])); first | done | rfl | exact hgd.symm) : (R 1 10 : Int) = whV (R 1) (R 6) (R 0 13) (R 0 14) w), ht⟩) (fun _ h => nomatch h) dX7_wholeOf_75 hlocks
  · skip
    refine k_tin (tgt := 76) hx hb 3 c_1 (by decide) dX7_wholeOf_1 (by decide) (by decide) rfl (by decide) ?_
    refine lv_aload_n hx hb dX7_wholeOf_76 rfl (lv_at hl 0 rfl) ?_
    refine va_get (D := D) (ci := 6) (v := .ref (a 1)) (C := RX7) (T := TX7) (N := 19) hx hb hts hinX7 hown hK hP 0 rfl rfl 0 (by decide) hm0 (fun _ h9 => h9) rfl dX7_wholeOf_77 ?_
    refine k_bipush hx hb dX7_wholeOf_80 (by decide +kernel) ?_
    refine k_iald hx hb hK hP 1 0 rfl rfl (i := 11) (by omega) dX7_wholeOf_82 ?_
    exact W.iret (v := iI (R 1 11)) hx hb hr (fun t9 ht _ => ⟨(R 1 11), rfl, (by first | (exfalso; omega) | (unfold whV; (repeat (first | rw [if_pos (by omega)] | rw [if_neg (by omega)])); first | done | rfl | exact hgd.symm) : (R 1 11 : Int) = whV (R 1) (R 6) (R 0 13) (R 0 14) w), ht⟩) (fun _ h => nomatch h) dX7_wholeOf_83 hlocks
  · skip
    refine k_tin (tgt := 84) hx hb 4 c_1 (by decide) dX7_wholeOf_1 (by decide) (by decide) rfl (by decide) ?_
    refine lv_aload_n hx hb dX7_wholeOf_84 rfl (lv_at hl 0 rfl) ?_
    refine k_roV (As := []) (rest := []) ⟨hx, hb, hml, hown, hts⟩ (c_X7_plateCost l D cy a R hI) gX7_wholeOf_X7_plateCost rfl ⟨rfl, rfl⟩ 0 rfl (by decide +kernel) ⟨Nat.le_of_ble_eq_true rfl, Nat.le_of_ble_eq_true rfl⟩ (GG_ok D cy) hG hP (va_recv hK hP (ci := 6) (q0 := 0) rfl rfl) hl.1 rfl (Nat.le_of_ble_eq_true rfl) ⟨Nat.le_of_ble_eq_true rfl, Nat.le_of_ble_eq_true rfl⟩ dX7_wholeOf_85 (fun r_2 hr_2 => ?_)
    have hr_2 : r_2 = pcost (R 1) := hr_2
    subst hr_2
    exact W.iret (v := iI (pcost (R 1))) hx hb hr (fun t9 ht _ => ⟨(pcost (R 1)), rfl, (by first | (exfalso; omega) | (unfold whV; (repeat (first | rw [if_pos (by omega)] | rw [if_neg (by omega)])); first | done | rfl | exact hgd.symm) : (pcost (R 1) : Int) = whV (R 1) (R 6) (R 0 13) (R 0 14) w), ht⟩) (fun _ h => nomatch h) dX7_wholeOf_88 hlocks
  · skip
    refine k_tin (tgt := 104) hx hb 5 c_1 (by decide) dX7_wholeOf_1 (by decide) (by decide) rfl (by decide) ?_
    refine lv_aload_n hx hb dX7_wholeOf_104 rfl (lv_at hl 0 rfl) ?_
    refine lv_iload_n hx hb dX7_wholeOf_105 rfl (lv_at hl 1 rfl) ?_
    refine k_roV (As := [.int (iI w)]) (rest := []) ⟨hx, hb, hml, hown, hts⟩ (c_X7_overTrails l D cy a R w hI (by omega)) gX7_wholeOf_X7_overTrails rfl ⟨rfl, rfl⟩ 1 rfl (by decide +kernel) ⟨Nat.le_of_ble_eq_true rfl, Nat.le_of_ble_eq_true rfl⟩ (GG_ok D cy) hG hP (va_recv hK hP (ci := 6) (q0 := 0) rfl rfl) hl.1 rfl (Nat.le_of_ble_eq_true rfl) ⟨Nat.le_of_ble_eq_true rfl, Nat.le_of_ble_eq_true rfl⟩ dX7_wholeOf_106 (fun r_3 hr_3 => ?_)
    have hr_3 : r_3 = ovT (R 1) w := hr_3
    subst hr_3
    exact W.iret (v := iI (ovT (R 1) w)) hx hb hr (fun t9 ht _ => ⟨(ovT (R 1) w), rfl, (by first | (exfalso; omega) | (unfold whV; (repeat (first | rw [if_pos (by omega)] | rw [if_neg (by omega)])); first | done | rfl | exact hgd.symm) : (ovT (R 1) w : Int) = whV (R 1) (R 6) (R 0 13) (R 0 14) w), ht⟩) (fun _ h => nomatch h) dX7_wholeOf_109 hlocks
  · skip
    refine k_tin (tgt := 89) hx hb 6 c_1 (by decide) dX7_wholeOf_1 (by decide) (by decide) rfl (by decide) ?_
    refine lv_aload_n hx hb dX7_wholeOf_89 rfl (lv_at hl 0 rfl) ?_
    refine va_get (D := D) (ci := 6) (v := .int (iI (R 0 13))) (C := RX7) (T := TX7) (N := 19) hx hb hts hinX7 hown hK hP 0 rfl rfl 13 (by decide) hm1 (fun _ h9 => h9) rfl dX7_wholeOf_90 ?_
    exact W.iret (v := iI (R 0 13)) hx hb hr (fun t9 ht _ => ⟨(R 0 13), rfl, (by first | (exfalso; omega) | (unfold whV; (repeat (first | rw [if_pos (by omega)] | rw [if_neg (by omega)])); first | done | rfl | exact hgd.symm) : (R 0 13 : Int) = whV (R 1) (R 6) (R 0 13) (R 0 14) w), ht⟩) (fun _ h => nomatch h) dX7_wholeOf_93 hlocks
  · skip
    refine k_tin (tgt := 94) hx hb 7 c_1 (by decide) dX7_wholeOf_1 (by decide) (by decide) rfl (by decide) ?_
    refine lv_aload_n hx hb dX7_wholeOf_94 rfl (lv_at hl 0 rfl) ?_
    refine va_get (D := D) (ci := 6) (v := .int (iI (R 0 14))) (C := RX7) (T := TX7) (N := 19) hx hb hts hinX7 hown hK hP 0 rfl rfl 14 (by decide) hm2 (fun _ h9 => h9) rfl dX7_wholeOf_95 ?_
    exact W.iret (v := iI (R 0 14)) hx hb hr (fun t9 ht _ => ⟨(R 0 14), rfl, (by first | (exfalso; omega) | (unfold whV; (repeat (first | rw [if_pos (by omega)] | rw [if_neg (by omega)])); first | done | rfl | exact hgd.symm) : (R 0 14 : Int) = whV (R 1) (R 6) (R 0 13) (R 0 14) w), ht⟩) (fun _ h => nomatch h) dX7_wholeOf_98 hlocks
  · skip
    refine k_tin (tgt := 99) hx hb 8 c_1 (by decide) dX7_wholeOf_1 (by decide) (by decide) rfl (by decide) ?_
    refine lv_aload_n hx hb dX7_wholeOf_99 rfl (lv_at hl 0 rfl) ?_
    refine k_roV (As := []) (rest := []) ⟨hx, hb, hml, hown, hts⟩ (c_X7_missingStars l D cy a R hI hI6) gX7_wholeOf_X7_missingStars rfl ⟨rfl, rfl⟩ 0 rfl (by decide +kernel) ⟨Nat.le_of_ble_eq_true rfl, Nat.le_of_ble_eq_true rfl⟩ (GG_ok D cy) hG hP (va_recv hK hP (ci := 6) (q0 := 0) rfl rfl) hl.1 rfl (Nat.le_of_ble_eq_true rfl) ⟨Nat.le_of_ble_eq_true rfl, Nat.le_of_ble_eq_true rfl⟩ dX7_wholeOf_100 (fun r_4 hr_4 => ?_)
    have hr_4 : r_4 = missC (R 1) (R 6) := hr_4
    subst hr_4
    exact W.iret (v := iI (missC (R 1) (R 6))) hx hb hr (fun t9 ht _ => ⟨(missC (R 1) (R 6)), rfl, (by first | (exfalso; omega) | (unfold whV; (repeat (first | rw [if_pos (by omega)] | rw [if_neg (by omega)])); first | done | rfl | exact hgd.symm) : (missC (R 1) (R 6) : Int) = whV (R 1) (R 6) (R 0 13) (R 0 14) w), ht⟩) (fun _ h => nomatch h) dX7_wholeOf_103 hlocks
  · skip
    refine k_tout (tgt := 104) hx hb (by omega) dX7_wholeOf_1 c_1 (by decide) ?_
    refine lv_aload_n hx hb dX7_wholeOf_104 rfl (lv_at hl 0 rfl) ?_
    refine lv_iload_n hx hb dX7_wholeOf_105 rfl (lv_at hl 1 rfl) ?_
    refine k_roV (As := [.int (iI w)]) (rest := []) ⟨hx, hb, hml, hown, hts⟩ (c_X7_overTrails l D cy a R w hI (by omega)) gX7_wholeOf_X7_overTrails rfl ⟨rfl, rfl⟩ 1 rfl (by decide +kernel) ⟨Nat.le_of_ble_eq_true rfl, Nat.le_of_ble_eq_true rfl⟩ (GG_ok D cy) hG hP (va_recv hK hP (ci := 6) (q0 := 0) rfl rfl) hl.1 rfl (Nat.le_of_ble_eq_true rfl) ⟨Nat.le_of_ble_eq_true rfl, Nat.le_of_ble_eq_true rfl⟩ dX7_wholeOf_106 (fun r_5 hr_5 => ?_)
    have hr_5 : r_5 = ovT (R 1) w := hr_5
    subst hr_5
    exact W.iret (v := iI (ovT (R 1) w)) hx hb hr (fun t9 ht _ => ⟨(ovT (R 1) w), rfl, (by first | (exfalso; omega) | (unfold whV; (repeat (first | rw [if_pos (by omega)] | rw [if_neg (by omega)])); first | done | rfl | exact hgd.symm) : (ovT (R 1) w : Int) = whV (R 1) (R 6) (R 0 13) (R 0 14) w), ht⟩) (fun _ h => nomatch h) dX7_wholeOf_109 hlocks
set_option maxHeartbeats 4000000 in
set_option maxRecDepth 100000 in
theorem c_X7_zeroFor (l : Launch) (D : va_G) (cy : Nat → ClassId) (a : Nat → Nat) (R : Nat → Int → Int) (t u : Int) (hI : Inv (R 1)) (h0 : 0 ≤ t) (h1 : t < R 1 12) (hp0 : 0 < pts (R 1) t) (h0u : 0 ≤ u) (h1u : u < R 1 13) : Met l yX7_zeroFor wsX7_zeroFor { frames := 4, cells := 0, slots := 0, locals := 87 } (kPre (GG D cy) D (rfW cy a R) ([.ref (a 0), .int (iI t), .int (iI u)] : List Value)) (kRO (fun r => r = zfor (R 1) t u)) 0 0 (fun _ => False) := by
  refine kRO_start (cc := cX7_zeroFor) (maxL := 3) (ret := (some .int)) (by decide) rfl (Nat.le_of_ble_eq_true rfl) ?_
  intro p e s m below meth c hx hb hr hlocks hml hts hown hG hP ls hl
  have hK := hG.1
  have hl : lv_has ls 3 [(0, .ref (a 0)), (1, .int (iI t)), (2, .int (iI u))] := hl
  have hinX7 : ∀ w ∈ u_ws RX7 TX7 19, w ∈ wsX7_zeroFor := by decide +kernel
  have hm0 := hts (.fieldLink RX7 7 "ArcPlateModel" "m" "[I") (by decide +kernel)
  have h12 := inv_S12 hI
  have hp := inv_pts hI h0 h1
  have ha := inv_ang (M := R 1) t 0
  have hf := inv_frm hI h0 h1 (p := 0) (by omega) hp0
  have hq := inv_sta hI h0u h1u hf
  refine lv_aload_n hx hb dX7_zeroFor_0 rfl (lv_at hl 0 rfl) ?_
  refine lv_iload_n hx hb dX7_zeroFor_1 rfl (lv_at hl 1 rfl) ?_
  refine k_iconst hx hb dX7_zeroFor_2 ?_
  refine k_roV (As := [.int (iI t), .int (iI 0)]) (rest := []) ⟨hx, hb, hml, hown, hts⟩ (c_X7_angleOf l D cy a R t 0 hI (by omega) (by omega) (by omega) (by omega)) gX7_zeroFor_X7_angleOf rfl ⟨rfl, rfl⟩ 2 rfl (by decide +kernel) ⟨Nat.le_of_ble_eq_true rfl, Nat.le_of_ble_eq_true rfl⟩ (GG_ok D cy) hG hP (va_recv hK hP (ci := 6) (q0 := 0) rfl rfl) hl.1 rfl (Nat.le_of_ble_eq_true rfl) ⟨Nat.le_of_ble_eq_true rfl, Nat.le_of_ble_eq_true rfl⟩ dX7_zeroFor_3 (fun r_1 hr_1 => ?_)
  have hr_1 : r_1 = angOf (R 1) t 0 := hr_1
  subst hr_1
  refine lv_aload_n hx hb dX7_zeroFor_6 rfl (lv_at hl 0 rfl) ?_
  refine lv_iload_n hx hb dX7_zeroFor_7 rfl (lv_at hl 2 rfl) ?_
  refine k_iconst hx hb dX7_zeroFor_8 ?_
  refine k_roV (As := [.int (iI u), .int (iI 1)]) (rest := [.int (iI (angOf (R 1) t 0))]) ⟨hx, hb, hml, hown, hts⟩ (c_X7_ofStar l D cy a R u 1 (by omega) (by omega) (by omega) (by omega)) gX7_zeroFor_X7_ofStar rfl ⟨rfl, rfl⟩ 2 rfl (by decide +kernel) ⟨Nat.le_of_ble_eq_true rfl, Nat.le_of_ble_eq_true rfl⟩ (GG_ok D cy) hG hP (va_recv hK hP (ci := 6) (q0 := 0) rfl rfl) hl.1 rfl (Nat.le_of_ble_eq_true rfl) ⟨Nat.le_of_ble_eq_true rfl, Nat.le_of_ble_eq_true rfl⟩ dX7_zeroFor_9 (fun r_2 hr_2 => ?_)
  have hr_2 : r_2 = R 1 (458 + 3 * u + 1) := hr_2
  subst hr_2
  refine k_isub hx hb dX7_zeroFor_12 ?_
  refine lv_aload_n hx hb dX7_zeroFor_13 rfl (lv_at hl 0 rfl) ?_
  refine va_get (D := D) (ci := 6) (v := .ref (a 1)) (C := RX7) (T := TX7) (N := 19) hx hb hts hinX7 hown hK hP 0 rfl rfl 0 (by decide) hm0 (fun _ h9 => h9) rfl dX7_zeroFor_14 ?_
  refine k_iconst hx hb dX7_zeroFor_17 ?_
  refine k_iald hx hb hK hP 1 0 rfl rfl (i := 0) (by omega) dX7_zeroFor_18 ?_
  refine lv_aload_n hx hb dX7_zeroFor_19 rfl (lv_at hl 0 rfl) ?_
  refine lv_iload_n hx hb dX7_zeroFor_20 rfl (lv_at hl 1 rfl) ?_
  refine k_iconst hx hb dX7_zeroFor_21 ?_
  refine k_roV (As := [.int (iI t), .int (iI 0)]) (rest := [.int (iI (R 1 0)), .int (iI ((angOf (R 1) t 0) - (R 1 (458 + 3 * u + 1))))]) ⟨hx, hb, hml, hown, hts⟩ (c_X7_frameOf l D cy a R t 0 (by omega) (by omega) (by omega) (by omega)) gX7_zeroFor_X7_frameOf rfl ⟨rfl, rfl⟩ 2 rfl (by decide +kernel) ⟨Nat.le_of_ble_eq_true rfl, Nat.le_of_ble_eq_true rfl⟩ (GG_ok D cy) hG hP (va_recv hK hP (ci := 6) (q0 := 0) rfl rfl) hl.1 rfl (Nat.le_of_ble_eq_true rfl) ⟨Nat.le_of_ble_eq_true rfl, Nat.le_of_ble_eq_true rfl⟩ dX7_zeroFor_22 (fun r_3 hr_3 => ?_)
  have hr_3 : r_3 = frm (R 1) t 0 := hr_3
  subst hr_3
  refine k_imul hx hb dX7_zeroFor_25 ?_
  refine k_isub hx hb dX7_zeroFor_26 ?_
  refine k_roS (As := [.int (iI (((angOf (R 1) t 0) - (R 1 (458 + 3 * u + 1))) - ((R 1 0) * (frm (R 1) t 0))))]) (rest := []) ⟨hx, hb, hml, hown, hts⟩ (c_X7_around l D (((angOf (R 1) t 0) - (R 1 (458 + 3 * u + 1))) - ((R 1 0) * (frm (R 1) t 0))) (by omega)) gX7_zeroFor_X7_around rfl ⟨rfl, rfl⟩ 1 rfl (by decide +kernel) ⟨Nat.le_of_ble_eq_true rfl, Nat.le_of_ble_eq_true rfl⟩ kGT_ok trivial (fun k q h => by simp at h) hl.1 rfl (Nat.le_of_ble_eq_true rfl) ⟨Nat.le_of_ble_eq_true rfl, Nat.le_of_ble_eq_true rfl⟩ dX7_zeroFor_27 (fun r_4 hr_4 => ?_)
  have hr_4 : r_4 = (((angOf (R 1) t 0) - (R 1 (458 + 3 * u + 1))) - ((R 1 0) * (frm (R 1) t 0))) % 360000 := hr_4
  subst hr_4
  exact W.iret (v := iI ((((angOf (R 1) t 0) - (R 1 (458 + 3 * u + 1))) - ((R 1 0) * (frm (R 1) t 0))) % 360000)) hx hb hr (fun t9 ht _ => ⟨((((angOf (R 1) t 0) - (R 1 (458 + 3 * u + 1))) - ((R 1 0) * (frm (R 1) t 0))) % 360000), rfl, (by first | rfl | omega : ((((angOf (R 1) t 0) - (R 1 (458 + 3 * u + 1))) - ((R 1 0) * (frm (R 1) t 0))) % 360000 : Int) = zfor (R 1) t u), ht⟩) (fun _ h => nomatch h) dX7_zeroFor_30 hlocks
set_option maxHeartbeats 4000000 in
set_option maxRecDepth 100000 in
theorem c_X7_sets (l : Launch) (D : va_G) (cy : Nat → ClassId) (sz : Nat) (a : Nat → Nat) (R : Nat → Int → Int) (w v : Int) (hw : 0 ≤ w ∧ w ≤ 11) : Met l yX7_sets wsX7_sets { frames := 0, cells := 0, slots := 0, locals := 0 } (mPre (GG D cy) D (rfW cy a R) sz ([.ref (a 0), .int (iI w), .int (iI v)] : List Value)) (kQi D (rfW cy a R) sz (fun u : Nat → Int → Int => rfW cy a u) (fun r u => r = R 1 w ∧ u = upr R 1 (ups (R 1) w v))) 0 0 (va_A (rfW cy a R) sz) := by
  refine kM_start (cc := cX7_sets) (maxL := 4) (ret := (some .int)) (by decide) rfl (Nat.le_of_ble_eq_true rfl) ?_
  intro p e s m below meth c hx hb hr hlocks hml hts hown hsz hA hG hP hD hS hin ls hl
  have hK := hG.1
  have hl : lv_has ls 4 [(0, .ref (a 0)), (1, .int (iI w)), (2, .int (iI v))] := hl
  have hinX7 : ∀ w ∈ u_ws RX7 TX7 19, w ∈ wsX7_sets := by decide +kernel
  have hm0 := hts (.fieldLink RX7 7 "ArcPlateModel" "m" "[I") (by decide +kernel)
  refine lv_aload_n hx hb dX7_sets_0 rfl (lv_at hl 0 rfl) ?_
  refine va_get (D := D) (ci := 6) (v := .ref (a 1)) (C := RX7) (T := TX7) (N := 19) hx hb hts hinX7 hown hK hP 0 rfl rfl 0 (by decide) hm0 (fun _ h9 => h9) rfl dX7_sets_1 ?_
  refine lv_iload_n hx hb dX7_sets_4 rfl (lv_at hl 1 rfl) ?_
  refine k_iald hx hb hK hP 1 0 rfl rfl (i := w) (by omega) dX7_sets_5 ?_
  refine lv_istore_n (lv' := [(3, .int (iI (R 1 w))), (0, .ref (a 0)), (1, .int (iI w)), (2, .int (iI v))]) hx hb dX7_sets_6 rfl hl (by decide) rfl (fun ls hl => ?_)
  refine lv_aload_n hx hb dX7_sets_7 rfl (lv_at hl 1 rfl) ?_
  refine va_get (D := D) (ci := 6) (v := .ref (a 1)) (C := RX7) (T := TX7) (N := 19) hx hb hts hinX7 hown hK hP 0 rfl rfl 0 (by decide) hm0 (fun _ h9 => h9) rfl dX7_sets_8 ?_
  refine lv_iload_n hx hb dX7_sets_11 rfl (lv_at hl 2 rfl) ?_
  refine lv_iload_n hx hb dX7_sets_12 rfl (lv_at hl 3 rfl) ?_
  refine k_iast hx hb hK hP hD hS 1 0 rfl rfl (i := w) (x := v) (by omega) dX7_sets_13 (fun H locs hP hD hS => ?_)
  have hP : va_P D vwCl (rfW cy a (upr R 1 (ups (R 1) w v))) H := hP
  have hD : va_D (va_A (rfW cy a R) sz) (rfW cy a (upr R 1 (ups (R 1) w v))) := hD
  refine lv_iload_n hx hb dX7_sets_14 rfl (lv_at hl 0 rfl) ?_
  exact W.iret (v := iI (R 1 w)) hx hb hr (fun t9 ht _ => ⟨⟨iI (R 1 w), (upr R 1 (ups (R 1) w v)), rfl, ⟨(R 1 w), rfl, (⟨rfl, rfl⟩ : (R 1 w : Int) = R 1 w ∧ (upr R 1 (ups (R 1) w v)) = upr R 1 (ups (R 1) w v))⟩, by rw [ht]; exact hP, hD⟩, hS.F ht⟩) hS.2.2 dX7_sets_15 hlocks
