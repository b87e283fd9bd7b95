/-! the law's loop -/
theorem and31 (x : Int32) : ∃ w : Int, x &&& iI 31 = iI w ∧ 0 ≤ w ∧ w ≤ 31 := by
  have h : (x &&& iI 31).toBitVec.toNat ≤ 31 := by
    rw [Int32.toBitVec_and, BitVec.toNat_and, show (iI 31).toBitVec.toNat = 31 by decide]
    exact Nat.and_le_right
  have e : (x &&& iI 31).toInt = ((x &&& iI 31).toBitVec.toNat : Int) := by
    show (x &&& iI 31).toBitVec.toInt = _
    rw [BitVec.toInt_eq_toNat_cond, if_pos (by omega)]
  exact ⟨(x &&& iI 31).toInt, iI_of _, by omega, by omega⟩
set_option maxHeartbeats 4000000 in
set_option maxRecDepth 100000 in
theorem z_loop {p : Program} {l : Launch} {e : Env} {s : State} {m : MethodId} {below : List Frame} {meth : Method} {c : Code} {b L : Nat} {xs : Nat → Int32} {D : va_G} {cy : Nat → ClassId} {Q : State → Prop} (C : zC p l s m c b L xs D cy) (hend : ∀ (H : Heap) (locs : List Loc) (ls : Array Slot) (cells slots : Nat), cells ≤ 600000 ∧ slots ≤ 7000000 → va_S (fun q : Nat => s.heap.size ≤ q) s.heap H locs → W p l e room_1 s m #[Value.ref b] below meth c H locs cells slots Q (F0 m 1594 ls [])) :
    ∀ (n j : Nat) (a a2 : Nat → Nat) (o : Nat) (fo : Nat → Int64) (P R : Nat → Int → Int) (H : Heap) (locs : List Loc) (ls : Array Slot), L + 10 ≤ 5 * j + n → 5 * j ≤ L → Rl P R → va_P D vwCl (lawW cy a a2 o fo P R) H → va_D (fun q : Nat => s.heap.size ≤ q) (lawW cy a a2 o fo P R) → va_S (fun q : Nat => s.heap.size ≤ q) s.heap H locs → lv_has ls 7 [(0, .ref b), (1, .ref (a 100)), (2, .ref (a2 0)), (3, .ref o), (4, .int (iI (5 * (j : Int))))] → W p l e room_1 s m #[Value.ref b] below meth c H locs (200 + j) (8000 + 6 * j) Q (F0 m 23 ls []) := by
  intro n
  induction n with
  | zero =>
    intro j a a2 o fo P R H locs ls h1 h2
    exfalso
    omega
  | succ n ih =>
    intro j a a2 o fo P R H locs ls h1 h2 hR hP hD hS hl
    obtain ⟨⟨hx, hb, hml, hown⟩, hts, ⟨hX, hbl, hL⟩, hGX, hst⟩ := id C
    refine lv_iload hx hb dL_law_23 (lv_at hl 4 rfl) ?_
    refine lv_aload_n hx hb dL_law_25 rfl (lv_at hl 0 rfl) ?_
    refine va_slen hx hb hX hbl (fun h => absurd h (Nat.not_le.mpr hbl)) hS dL_law_26 ?_
    rw [show Int32.ofNat L = iI (L : Int) from iI_nat L]
    refine k_iconst hx hb dL_law_27 ?_
    refine k_isub hx hb dL_law_28 ?_
    refine k_icmp_gt (tgt := 1594) hx hb dL_law_29 (by decide) (by omega) (by omega) (fun _ => hend H locs ls _ _ ⟨by omega, by omega⟩ hS) (fun hle => ?_)
    refine lv_aload_n hx hb dL_law_32 rfl (lv_at hl 0 rfl) ?_
    refine lv_iload hx hb dL_law_33 (lv_at hl 4 rfl) ?_
    refine va_sld hx hb hX hbl (fun h => absurd h (Nat.not_le.mpr hbl)) hS (vp_iI (z := 5 * (j : Int)) ⟨by omega, by omega, by omega⟩) dL_law_35 ?_
    refine k_bipush hx hb dL_law_36 (by decide) ?_
    refine lv_iand hx hb dL_law_38 ?_
    obtain ⟨w, hw, hw0, hw1⟩ := and31 (xs (iI (5 * (j : Int))).toNatClampNeg)
    rw [hw]
    have hi : 0 ≤ 5 * (j : Int) ∧ 5 * (j : Int) + 5 ≤ (L : Int) := ⟨by omega, by omega⟩
    have hroom : (200 + j) + 1 ≤ 600000 ∧ (8000 + 6 * j) + 6 ≤ 7000000 := ⟨by omega, by omega⟩
    have K : zK p l e s m below meth c b D cy Q (5 * (j : Int)) ((200 + j) + 1) ((8000 + 6 * j) + 6) := by
      intro a a2 o fo P R H locs ls hR hP hD hS hl
      refine lv_iinc (v := iI (5 * (j : Int) + 5)) (lv' := [(4, .int (iI (5 * (j : Int) + 5))), (0, .ref b), (1, .ref (a 100)), (2, .ref (a2 0)), (3, .ref o)]) hx hb dL_law_1588 hl (k := 4) rfl (show iI (5 * (j : Int)) + iI 5 = iI (5 * (j : Int) + 5) from iI_add _ _) (by decide) rfl (fun ls hl => ?_)
      refine lv_goto (tgt := 23) hx hb dL_law_1591 (by decide) ?_
      rw [show 5 * (j : Int) + 5 = 5 * ((j + 1 : Nat) : Int) by omega] at hl
      exact W.cs (by omega) (by omega) (ih (j + 1) a a2 o fo P R H locs ls (by omega) (by omega) hR hP hD hS (lv_sub hl [1, 2, 3, 4, 0] rfl))
    rcases (show w = 0 ∨ w = 1 ∨ w = 2 ∨ w = 3 ∨ w = 4 ∨ w = 5 ∨ w = 6 ∨ w = 7 ∨ w = 8 ∨ w = 9 ∨ w = 10 ∨ w = 11 ∨ w = 12 ∨ w = 13 ∨ w = 14 ∨ w = 15 ∨ w = 16 ∨ w = 17 ∨ w = 18 ∨ w = 19 ∨ w = 20 ∨ w = 21 ∨ w = 22 ∨ w = 23 ∨ w = 24 ∨ w = 25 ∨ w = 26 ∨ w = 27 ∨ 28 ≤ w by omega) with rfl | rfl | rfl | rfl | rfl | rfl | rfl | rfl | rfl | rfl | rfl | rfl | rfl | rfl | rfl | rfl | rfl | rfl | rfl | rfl | rfl | rfl | rfl | rfl | rfl | rfl | rfl | rfl | hw2
    · refine lv_tableIn (off := 125) (tgt := 164) hx hb dL_law_39 (by rw [iI_toInt (by decide)]; decide) (by rw [iI_toInt (by decide)]; decide) (by rw [iI_toInt (by decide)]; rfl) (by decide) ?_
      exact zc_addTrail C K hi hroom hR hP hD hS hl
    · refine lv_tableIn (off := 169) (tgt := 208) hx hb dL_law_39 (by rw [iI_toInt (by decide)]; decide) (by rw [iI_toInt (by decide)]; decide) (by rw [iI_toInt (by decide)]; rfl) (by decide) ?_
      exact zc_removeTrail C K hi hroom hR hP hD hS hl
    · refine lv_tableIn (off := 225) (tgt := 264) hx hb dL_law_39 (by rw [iI_toInt (by decide)]; decide) (by rw [iI_toInt (by decide)]; decide) (by rw [iI_toInt (by decide)]; rfl) (by decide) ?_
      exact zc_addPoint C K hi hroom hR hP hD hS hl
    · refine lv_tableIn (off := 317) (tgt := 356) hx hb dL_law_39 (by rw [iI_toInt (by decide)]; decide) (by rw [iI_toInt (by decide)]; decide) (by rw [iI_toInt (by decide)]; rfl) (by decide) ?_
      exact zc_removePoint C K hi hroom hR hP hD hS hl
    · refine lv_tableIn (off := 385) (tgt := 424) hx hb dL_law_39 (by rw [iI_toInt (by decide)]; decide) (by rw [iI_toInt (by decide)]; decide) (by rw [iI_toInt (by decide)]; rfl) (by decide) ?_
      exact zc_set C K hi hroom hR hP hD hS hl
    · refine lv_tableIn (off := 453) (tgt := 492) hx hb dL_law_39 (by rw [iI_toInt (by decide)]; decide) (by rw [iI_toInt (by decide)]; decide) (by rw [iI_toInt (by decide)]; rfl) (by decide) ?_
      exact zc_setPole C K hi hroom hR hP hD hS hl
    · refine lv_tableIn (off := 521) (tgt := 560) hx hb dL_law_39 (by rw [iI_toInt (by decide)]; decide) (by rw [iI_toInt (by decide)]; decide) (by rw [iI_toInt (by decide)]; rfl) (by decide) ?_
      exact zc_search C K hi hroom hR hP hD hS hl
    · refine lv_tableIn (off := 577) (tgt := 616) hx hb dL_law_39 (by rw [iI_toInt (by decide)]; decide) (by rw [iI_toInt (by decide)]; decide) (by rw [iI_toInt (by decide)]; rfl) (by decide) ?_
      exact zc_addStar C K hi hroom hR hP hD hS hl
    · refine lv_tableIn (off := 657) (tgt := 696) hx hb dL_law_39 (by rw [iI_toInt (by decide)]; decide) (by rw [iI_toInt (by decide)]; decide) (by rw [iI_toInt (by decide)]; rfl) (by decide) ?_
      exact zc_removeStar C K hi hroom hR hP hD hS hl
    · refine lv_tableIn (off := 713) (tgt := 752) hx hb dL_law_39 (by rw [iI_toInt (by decide)]; decide) (by rw [iI_toInt (by decide)]; decide) (by rw [iI_toInt (by decide)]; rfl) (by decide) ?_
      exact zc_point C K hi hroom hR hP hD hS hl
    · refine lv_tableIn (off := 793) (tgt := 832) hx hb dL_law_39 (by rw [iI_toInt (by decide)]; decide) (by rw [iI_toInt (by decide)]; decide) (by rw [iI_toInt (by decide)]; rfl) (by decide) ?_
      exact zc_trail C K hi hroom hR hP hD hS hl
    · refine lv_tableIn (off := 861) (tgt := 900) hx hb dL_law_39 (by rw [iI_toInt (by decide)]; decide) (by rw [iI_toInt (by decide)]; decide) (by rw [iI_toInt (by decide)]; rfl) (by decide) ?_
      exact zc_star C K hi hroom hR hP hD hS hl
    · refine lv_tableIn (off := 929) (tgt := 968) hx hb dL_law_39 (by rw [iI_toInt (by decide)]; decide) (by rw [iI_toInt (by decide)]; decide) (by rw [iI_toInt (by decide)]; rfl) (by decide) ?_
      exact zc_starAngle C K hi hroom hR hP hD hS hl
    · refine lv_tableIn (off := 997) (tgt := 1036) hx hb dL_law_39 (by rw [iI_toInt (by decide)]; decide) (by rw [iI_toInt (by decide)]; decide) (by rw [iI_toInt (by decide)]; rfl) (by decide) ?_
      exact zc_cost C K hi hroom hR hP hD hS hl
    · refine lv_tableIn (off := 1065) (tgt := 1104) hx hb dL_law_39 (by rw [iI_toInt (by decide)]; decide) (by rw [iI_toInt (by decide)]; decide) (by rw [iI_toInt (by decide)]; rfl) (by decide) ?_
      exact zc_missing C K hi hroom hR hP hD hS hl
    · refine lv_tableIn (off := 1121) (tgt := 1160) hx hb dL_law_39 (by rw [iI_toInt (by decide)]; decide) (by rw [iI_toInt (by decide)]; decide) (by rw [iI_toInt (by decide)]; rfl) (by decide) ?_
      exact zc_setting C K hi hroom hR hP hD hS hl
    · refine lv_tableIn (off := 1177) (tgt := 1216) hx hb dL_law_39 (by rw [iI_toInt (by decide)]; decide) (by rw [iI_toInt (by decide)]; decide) (by rw [iI_toInt (by decide)]; rfl) (by decide) ?_
      exact zc_whole C K hi hroom hR hP hD hS hl
    · refine lv_tableIn (off := 1233) (tgt := 1272) hx hb dL_law_39 (by rw [iI_toInt (by decide)]; decide) (by rw [iI_toInt (by decide)]; decide) (by rw [iI_toInt (by decide)]; rfl) (by decide) ?_
      exact zc_costAt C K hi hroom hR hP hD hS hl
    · refine lv_tableIn (off := 1301) (tgt := 1340) hx hb dL_law_39 (by rw [iI_toInt (by decide)]; decide) (by rw [iI_toInt (by decide)]; decide) (by rw [iI_toInt (by decide)]; rfl) (by decide) ?_
      exact zc_meanRate C K hi hroom hR hP hD hS hl
    · refine lv_tableIn (off := 1314) (tgt := 1353) hx hb dL_law_39 (by rw [iI_toInt (by decide)]; decide) (by rw [iI_toInt (by decide)]; decide) (by rw [iI_toInt (by decide)]; rfl) (by decide) ?_
      exact zc_meanScale C K hi hroom hR hP hD hS hl
    · refine lv_tableIn (off := 1327) (tgt := 1366) hx hb dL_law_39 (by rw [iI_toInt (by decide)]; decide) (by rw [iI_toInt (by decide)]; decide) (by rw [iI_toInt (by decide)]; rfl) (by decide) ?_
      exact zc_bestZero C K hi hroom hR hP hD hS hl
    · refine lv_tableIn (off := 1340) (tgt := 1379) hx hb dL_law_39 (by rw [iI_toInt (by decide)]; decide) (by rw [iI_toInt (by decide)]; decide) (by rw [iI_toInt (by decide)]; rfl) (by decide) ?_
      exact zc_bestDrift C K hi hroom hR hP hD hS hl
    · refine lv_tableIn (off := 1396) (tgt := 1435) hx hb dL_law_39 (by rw [iI_toInt (by decide)]; decide) (by rw [iI_toInt (by decide)]; decide) (by rw [iI_toInt (by decide)]; rfl) (by decide) ?_
      exact zc_type C K hi hroom hR hP hD hS hl
    · refine lv_tableIn (off := 1452) (tgt := 1491) hx hb dL_law_39 (by rw [iI_toInt (by decide)]; decide) (by rw [iI_toInt (by decide)]; decide) (by rw [iI_toInt (by decide)]; rfl) (by decide) ?_
      exact zc_clearCommands C K hi hroom hR hP hD hS hl
    · refine lv_tableIn (off := 1465) (tgt := 1504) hx hb dL_law_39 (by rw [iI_toInt (by decide)]; decide) (by rw [iI_toInt (by decide)]; decide) (by rw [iI_toInt (by decide)]; rfl) (by decide) ?_
      exact zc_runCommands C K hi hroom hR hP hD hS hl
    · refine lv_tableIn (off := 1478) (tgt := 1517) hx hb dL_law_39 (by rw [iI_toInt (by decide)]; decide) (by rw [iI_toInt (by decide)]; decide) (by rw [iI_toInt (by decide)]; rfl) (by decide) ?_
      exact zc_stop C K hi hroom hR hP hD hS hl
    · refine lv_tableIn (off := 1491) (tgt := 1530) hx hb dL_law_39 (by rw [iI_toInt (by decide)]; decide) (by rw [iI_toInt (by decide)]; decide) (by rw [iI_toInt (by decide)]; rfl) (by decide) ?_
      exact zc_undo C K hi hroom hR hP hD hS hl
    · refine lv_tableIn (off := 1535) (tgt := 1574) hx hb dL_law_39 (by rw [iI_toInt (by decide)]; decide) (by rw [iI_toInt (by decide)]; decide) (by rw [iI_toInt (by decide)]; rfl) (by decide) ?_
      exact zc_digest C K hi hroom hR hP hD hS hl
    · refine lv_tableOut (tgt := 1588) hx hb dL_law_39 (Or.inr (by rw [iI_toInt (by omega)]; omega)) (by decide) ?_
      exact W.widen (by omega) (by omega) (K a a2 o fo P R H locs ls hR hP hD hS hl)
