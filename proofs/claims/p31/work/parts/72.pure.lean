/-! the law's pure helpers -/
def andI (v : Int) : Int := (iI v &&& iI 2147483647).toInt
theorem andI_bd (v : Int) : 0 ≤ andI v ∧ andI v ≤ 2147483647 := by
  have h : (iI v &&& iI 2147483647).toBitVec.msb = ((iI v).toBitVec.msb && (iI 2147483647).toBitVec.msb) := by rw [Int32.toBitVec_and]; exact BitVec.msb_and
  have h2 : (iI 2147483647).toBitVec.msb = false := by decide +kernel
  rw [h2, Bool.and_false, msb_i] at h
  have h3 := of_decide_eq_false h
  have h4 := iI_rng (iI v &&& iI 2147483647)
  unfold andI
  omega
def lwF (v k : Int) : Int := andI v % k
theorem lw_bd (v : Int) {k : Int} (h : 0 < k) : 0 ≤ lwF v k ∧ lwF v k < k := ⟨Int.emod_nonneg _ (by omega), Int.emod_lt_of_pos _ h⟩
section KAND
variable {p : Program} {l : Launch} {e : Env} {R : Room} {s : State} {m : MethodId} {args : Array Value} {below : List Frame} {meth : Method} {c : Code} {H : Heap} {locs : List Loc} {cells slots : Nat} {Q : State → Prop}
variable {cc : ByteArray} {pc : Nat} {ls : Array Slot} {rest : List Value}
theorem k_iand31 (hexec : p.tables.exec = Jvm.exec) (hb : c.code = cc) {x : Int} (hdg : decode cc pc = .ok (.iand, 1)) (k : W p l e R s m args below meth c H locs cells slots Q (F0 m (pc + 1) ls (.int (iI (andI x)) :: rest))) : W p l e R s m args below meth c H locs cells slots Q (F0 m pc ls (.int (iI 2147483647) :: .int (iI x) :: rest)) := lv_iand hexec hb hdg (by rw [show iI x &&& iI 2147483647 = iI (andI x) from iI_of _]; exact k)
end KAND
set_option maxHeartbeats 4000000 in
set_option maxRecDepth 100000 in
theorem c_L_size (l : Launch) (D : va_G) (z : Int) (hr9 : -2147483647 ≤ z ∧ z ≤ 2147483647) : Met l yL_size wsL_size { frames := 0, cells := 0, slots := 0, locals := 0 } (kPre kGT D [] ([.int (iI z)] : List Value)) (kRO (fun r => r = absI z)) 0 0 (fun _ => False) := by
  refine kRO_start (cc := cL_size) (maxL := 1) (ret := (some .int)) (by decide) rfl (Nat.le_of_ble_eq_true rfl) ?_
  intro p e s m below meth c hx hb hr hlocks hml hts hown hG hP ls hl
  have hl : lv_has ls 1 [(0, .int (iI z))] := hl
  refine lv_iload_n hx hb dL_size_0 rfl (lv_at hl 0 rfl) ?_
  refine k_if_ge (tgt := 9) hx hb dL_size_1 (by decide) (by omega) (fun c_1 => ?_) (fun c_1 => ?_)
  · skip
    refine lv_iload_n hx hb dL_size_9 rfl (lv_at hl 0 rfl) ?_
    exact W.iret (v := iI z) hx hb hr (fun t9 ht _ => ⟨z, rfl, (by unfold absI; split <;> omega : (z : Int) = absI z), ht⟩) (fun _ h => nomatch h) dL_size_10 hlocks
  · skip
    refine lv_iload_n hx hb dL_size_4 rfl (lv_at hl 0 rfl) ?_
    refine k_ineg hx hb dL_size_5 ?_
    refine lv_goto (tgt := 10) hx hb dL_size_6 (by decide) ?_
    exact W.iret (v := iI (-z)) hx hb hr (fun t9 ht _ => ⟨(-z), rfl, (by unfold absI; split <;> omega : (-z : Int) = absI z), ht⟩) (fun _ h => nomatch h) dL_size_10 hlocks
set_option maxHeartbeats 4000000 in
set_option maxRecDepth 100000 in
theorem c_L_low (l : Launch) (D : va_G) (v k9 : Int) (hk9 : 0 < k9 ∧ k9 ≤ 2147483647) : Met l yL_low wsL_low { frames := 0, cells := 0, slots := 0, locals := 0 } (kPre kGT D [] ([.int (iI v), .int (iI k9)] : List Value)) (kRO (fun r => r = lwF v k9)) 0 0 (fun _ => False) := by
  refine kRO_start (cc := cL_low) (maxL := 2) (ret := (some .int)) (by decide) rfl (Nat.le_of_ble_eq_true rfl) ?_
  intro p e s m below meth c hx hb hr hlocks hml hts hown hG hP ls hl
  have hl : lv_has ls 2 [(0, .int (iI v)), (1, .int (iI k9))] := hl
  have hmw0 := hts (.constant RL 8 (2147483647)) (by decide +kernel)
  refine lv_iload_n hx hb dL_low_0 rfl (lv_at hl 0 rfl) ?_
  refine k_ldc (z := 2147483647) hx hb hown hmw0 (by decide +kernel) dL_low_1 ?_
  refine k_iand31 hx hb dL_low_3 ?_
  have hnd := andI_bd v
  refine lv_iload_n hx hb dL_low_4 rfl (lv_at hl 1 rfl) ?_
  refine k_irem hx hb dL_low_5 (by omega) (by omega) ?_
  exact W.iret (v := iI ((andI v) % k9)) hx hb hr (fun t9 ht _ => ⟨((andI v) % k9), rfl, (rfl : ((andI v) % k9 : Int) = lwF v k9), ht⟩) (fun _ h => nomatch h) dL_low_6 hlocks
/-- the script stands at b -/
def scX (b L : Nat) (xs : Nat → Int32) : (Nat → Prop) → State → Heap → Prop := fun A U H => va_X b L xs U H ∧ ¬ A b
theorem scX_ok (b L : Nat) (xs : Nat → Int32) : kGok (scX b L xs) := by
  refine ⟨fun A U H H1 hq h => ?_, fun A s U H hW h => ?_, fun A s U H hv h => ?_, fun A B U H hAB h => ⟨h.1, fun z => h.2 (hAB b z)⟩⟩
  · obtain ⟨h1, h2⟩ := h
    obtain ⟨scr, k1, k2⟩ := h1
    have hb : b < H.size := (Array.getElem?_eq_some_iff.mp k1).1
    exact ⟨va_X.kept ⟨scr, k1, k2⟩ (hq b hb h2), h2⟩
  · exact ⟨va_X.moved hW.alike h.1, h.2⟩
  · exact ⟨va_X.moved (alike_eq hv) h.1, h.2⟩
set_option maxHeartbeats 4000000 in
set_option maxRecDepth 100000 in
theorem c_L_lot (l : Launch) (D : va_G) (b L : Nat) (xs : Nat → Int32) (k : Int) (hk : 0 ≤ k ∧ k ≤ 100000) (hL : L ≤ 100000) : Met l yL_lot wsL_lot { frames := 0, cells := 0, slots := 0, locals := 0 } (kPre (scX b L xs) D [] ([.ref b, .int (iI k)] : List Value)) (kRO (fun r => -2147483648 ≤ r ∧ r ≤ 2147483647)) 0 0 (fun _ => False) := by
  refine kRO_start (cc := cL_lot) (maxL := 2) (ret := (some .int)) (by decide) rfl (Nat.le_of_ble_eq_true rfl) ?_
  intro p e s m below meth c hx hb hr hlocks hml hts hown hG hP ls hl
  have hl : lv_has ls 2 [(0, .ref b), (1, .int (iI k))] := hl
  obtain ⟨hX, hbA⟩ := hG
  have hbl : b < s.heap.size := by
    obtain ⟨scr, k1, k2⟩ := hX
    exact (Array.getElem?_eq_some_iff.mp k1).1
  have hmw0 := hts (.constant RL 7 (1976027579)) (by decide +kernel)
  have hend : ∀ x : Int32, W p l e { frames := 0, cells := 0, slots := 0, locals := 0 } s m ([.ref b, .int (iI k)] : List Value).toArray below meth c s.heap [] 0 0 (MQ below (kRO (fun r => -2147483648 ≤ r ∧ r ≤ 2147483647)) ([.ref b, .int (iI k)] : List Value).toArray s 0 0 (fun _ => False)) (F0 m 24 ls [.int x]) := by
    intro x
    rw [iI_of x]
    exact W.iret (v := iI x.toInt) hx hb hr (fun t9 ht _ => ⟨x.toInt, rfl, iI_rng x, ht⟩) (fun _ h => nomatch h) dL_lot_24 hlocks
  refine lv_iload_n hx hb dL_lot_0 rfl (lv_at hl 1 rfl) ?_
  refine lv_aload_n hx hb dL_lot_1 rfl (lv_at hl 0 rfl) ?_
  refine va_slen (A := fun _ => False) hx hb hX hbl hbA va_S.rf dL_lot_2 ?_
  rw [show Int32.ofNat L = iI (L : Int) from iI_nat L]
  refine k_icmp_ge (tgt := 12) hx hb dL_lot_3 (by decide) (by omega) (by omega) (fun h9 => ?_) (fun h9 => ?_)
  · refine k_ldc (z := 1976027579) hx hb hown hmw0 (by decide +kernel) dL_lot_12 ?_
    refine lv_iload_n hx hb dL_lot_14 rfl (lv_at hl 1 rfl) ?_
    refine k_sipush hx hb dL_lot_15 (by decide +kernel) ?_
    refine k_iadd hx hb dL_lot_18 ?_
    refine k_imul hx hb dL_lot_19 ?_
    refine k_sipush hx hb dL_lot_20 (by decide +kernel) ?_
    refine k_iadd hx hb dL_lot_23 ?_
    exact hend _
  · refine lv_aload_n hx hb dL_lot_6 rfl (lv_at hl 0 rfl) ?_
    refine lv_iload_n hx hb dL_lot_7 rfl (lv_at hl 1 rfl) ?_
    refine va_sld (A := fun _ => False) hx hb hX hbl hbA va_S.rf (vp_iI (z := k) ⟨by omega, by omega, by omega⟩) dL_lot_8 ?_
    refine lv_goto (tgt := 24) hx hb dL_lot_9 (by decide) ?_
    exact hend _
