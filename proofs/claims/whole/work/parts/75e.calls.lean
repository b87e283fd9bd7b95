/-! the law's calls -/
set_option maxHeartbeats 4000000 in
set_option maxRecDepth 100000 in
theorem zc_type {p : Program} {l : Launch} {e : Env} {s : State} {m : MethodId} {below : List Frame} {meth : Method} {c : Code} {b L : Nat} {xs : Nat → Int32} {D : va_G} {cy : Nat → ClassId} {Q : State → Prop} {H : Heap} {locs : List Loc} {cells slots : Nat} {ls : Array Slot} {a a2 : Nat → Nat} {o : Nat} {fo : Nat → Int64} {P R : Nat → Int → Int} (C : zC p l s m c b L xs D cy) {i : Int} (K : zK p l e s m below meth c b D cy Q i (cells + 1) (slots + 6)) (hi : 0 ≤ i ∧ i + 5 ≤ (L : Int)) (hroom : cells + 1 ≤ 600000 ∧ slots + 6 ≤ 7000000) (hR : Rl P R) (hP : va_P D vwCl (lawW cy a a2 o fo P R) H) (hD : va_D (fun q : Nat => s.heap.size ≤ q) (lawW cy a a2 o fo P R)) (hS : va_S (fun q : Nat => s.heap.size ≤ q) s.heap H locs) (hl : lv_has ls 7 [(0, .ref b), (1, .ref (a 100)), (2, .ref (a2 0)), (3, .ref o), (4, .int (iI i))]) : W p l e room_1 s m #[Value.ref b] below meth c H locs cells slots Q (F0 m 1435 ls []) := by
  obtain ⟨⟨hx, hb, hml, hown⟩, hts, ⟨hX, hbl, hL⟩, hGX, hst⟩ := id C
  have hGG := hGX.1.1
  have hKk := hGG.1
  have hA : ∀ q : Nat, s.heap.size ≤ q → (fun q : Nat => s.heap.size ≤ q) q := fun _ h => h
  have hI := hR.inv
  have hIr := hR.1.1
  have hag := hR.1.2
  obtain ⟨h12, h13⟩ := rl_12 hR
  have h8 : R 1 8 = P 8 8 := rl_st hR (by decide) (by decide)
  have hsc := hR.2.1.1.2
  have h50 := hR.2.1.1.1
  have hsv : 0 ≤ P 50 1 ∧ P 50 1 ≤ 4 := ⟨by omega, by omega⟩
  have hS0 := po_S hI
  have hl0 := hR.2.2.2.2.1
  have hl1 := hR.2.2.2.2.2
  have htl := hR.2.2.1.1.2
  have h10 := hR.2.2.1.1.1
  have hroom0 : cells ≤ 600000 ∧ slots ≤ 7000000 := ⟨by omega, by omega⟩
  obtain ⟨v, e_v, hrv⟩ : ∃ z : Int, xs (i + 1).toNat = iI z ∧ -2147483648 ≤ z ∧ z ≤ 2147483647 := ⟨_, iI_of _, iI_rng _⟩
  have hmid : ∀ (k : Int) (a' : Nat → Nat) (f' : Nat → Int64) (P' : Nat → Int → Int) (H : Heap) (locs : List Loc) (cells' slots' : Nat), (0 ≤ k ∧ k ≤ 3) → a' 100 = a 100 → (∀ (r9 : Int) (R' : Nat → Int → Int), (((¬ (0 ≤ v ∧ v ≤ 127)) ∧ r9 = 0 ∧ R' = (upr R 0 (ups (R 0) 6 1))) ∨ (((0 ≤ v ∧ v ≤ 127) ∧ R 0 4 = 150) ∧ r9 = 0 ∧ R' = (upr R 0 (ups (R 0) 6 2))) ∨ (((0 ≤ v ∧ v ≤ 127) ∧ R 0 4 < 150) ∧ r9 = R 0 4 + 1 ∧ R' = (upr (upr R 0 (ups (ups (R 0) 6 0) 4 (R 0 4 + 1))) 3 (ups (R 3) (R 0 4) v)))) → (R' 0 6 = k ∧ (k = 0 → f' 0 = (iI r9).toInt64)) ∧ Rl P' R') → va_P D vwCl (lawW cy a' a2 o f' P' R) H → va_D (fun q : Nat => s.heap.size ≤ q) (lawW cy a' a2 o f' P' R) → va_S (fun q : Nat => s.heap.size ≤ q) s.heap H locs → (cells' ≤ cells + 1 ∧ slots' ≤ slots + 6) → W p l e room_1 s m #[Value.ref b] below meth c H locs cells' slots' Q (F0 m 1446 ls [.int (iI k)]) := by
    intro k a' f' P' H locs cells' slots' hk3 ha hpost hP hD hS hcs
    have hroom9 : cells' ≤ 600000 ∧ slots' ≤ 7000000 := ⟨by omega, by omega⟩
    refine lv_istore (lv' := [(5, .int (iI k)), (0, .ref b), (1, .ref (a 100)), (2, .ref (a2 0)), (3, .ref o), (4, .int (iI i))]) hx hb dL_law_1446 hl (by decide) rfl (fun ls hl => ?_)
    refine lv_aload_n hx hb dL_law_1448 rfl (lv_at hl 3 rfl) ?_
    refine z_arg C hS dL_law_1449 dL_law_1450 dL_law_1452 dL_law_1453 dL_law_1454 (k := 1) (by decide) hi (lv_at hl 1 rfl) (lv_at hl 5 rfl) e_v ?_
    refine zl_virt (As := [.int (iI v)]) (rest := []) (pb_rf (cy := cy) (a := a') (a2 := a2) (o := o) (f := f') (P := P') (R := R)) ⟨hx, hb, hml, hown, hts⟩ (c_X7_type l D cy H.size a2 R v hrv htl) gL_law_X7_type rfl ⟨rfl, rfl⟩ 1 rfl (by decide +kernel) ⟨Nat.le_of_ble_eq_true rfl, Nat.le_of_ble_eq_true rfl⟩ (GG_ok D cy) hGG hA hP hD hS (va_recv hKk (pb_rw hP) (ci := 6) (q0 := 0) rfl rfl) hl.1 rfl (Nat.le_of_ble_eq_true rfl) (rm_0 hroom9) dL_law_1455 (fun r9 R' H locs hq hP hD hS => ?_)
    have hq := hpost r9 R' hq
    rw [← ha] at hl
    exact z_tail C K dL_law_1458 dL_law_1460 dL_law_1461 dL_law_1464 dL_law_1466 dL_law_1471 dL_law_1473 dL_law_1476 dL_law_1477 dL_law_1478 dL_law_1479 dL_law_1481 dL_law_1482 dL_law_1483 dL_law_1488 (by decide) hq.1.1 hk3 hq.1.2 hq.2 hP hD hS hl hcs hroom9
  refine lv_aload_n hx hb dL_law_1435 rfl (lv_at hl 1 rfl) ?_
  refine z_arg C hS dL_law_1436 dL_law_1437 dL_law_1439 dL_law_1440 dL_law_1441 (k := 1) (by decide) hi (lv_at hl 0 rfl) (lv_at hl 4 rfl) e_v ?_
  refine lv_aload_n hx hb dL_law_1442 rfl (lv_at hl 3 rfl) ?_
  by_cases hv9 : 0 ≤ v ∧ v ≤ 127
  · by_cases hno : P 10 0 = 150
    · skip
      refine zl_stat (As := [.ref (a 100), .int (iI v), .ref o]) (rest := []) (pb_ts (cy := cy) (a := a) (a2 := a2) (o := o) (f := fo) (P := P) (R := R)) ⟨hx, hb, hml, hown, hts⟩ (c_L_type_t3 l hst H.size o D cy a P v hv9 hno) gL_law_L_type rfl ⟨rfl, rfl⟩ 3 rfl (by decide +kernel) ⟨Nat.le_of_ble_eq_true rfl, Nat.le_of_ble_eq_true rfl⟩ (GX_ok D cy) hGX hA hP hD hS hl.1 rfl (Nat.le_of_ble_eq_true rfl) (rm_1 hroom0) dL_law_1443 (fun r U9 H locs hpost hP hD hS => ?_)
      have hr0 : r = 2 := hpost
      rw [hr0]
      refine hmid 2 a fo P H locs _ _ (by decide) rfl (fun r9 R' hq => ?_) hP hD hS ⟨by omega, by omega⟩
      rcases hq with ⟨c9, e9, rfl⟩ | ⟨c9, e9, rfl⟩ | ⟨c9, e9, rfl⟩
      · exact absurd hv9 c9
      · exact ⟨⟨(rq_t R _).2, fun h => absurd h (by decide)⟩, rl_q hR (rq_t R _).1 (objq_rfl hR)⟩
      · exfalso
        have := c9.2
        omega
    · have hn9 : 0 ≤ P 10 0 ∧ P 10 0 < 150 := ⟨by omega, by omega⟩
      refine zl_stat (As := [.ref (a 100), .int (iI v), .ref o]) (rest := []) (pb_sc (cy := cy) (a := a) (a2 := a2) (o := o) (f := fo) (P := P) (R := R)) ⟨hx, hb, hml, hown, hts⟩ (c_L_type l H.size o fo D cy a P v hv9 hn9) gL_law_L_type rfl ⟨rfl, rfl⟩ 3 rfl (by decide +kernel) ⟨Nat.le_of_ble_eq_true rfl, Nat.le_of_ble_eq_true rfl⟩ (GG_ok D cy) hGG hA hP hD hS hl.1 rfl (Nat.le_of_ble_eq_true rfl) (rm_0 hroom0) dL_law_1443 (fun r U9 H locs hpost hP hD hS => ?_)
      obtain ⟨hr0, v9, hv, hv2, hu⟩ := hpost
      rw [hr0]
      refine hmid 0 a U9.2 (mixB inSc P U9.1) H locs _ _ (by decide) rfl (fun r9 R' hq => ?_) hP hD hS ⟨by omega, by omega⟩
      rw [hu, mx_sc]
      rcases hq with ⟨c9, e9, rfl⟩ | ⟨c9, e9, rfl⟩ | ⟨c9, e9, rfl⟩
      · exact absurd hv9 c9
      · exfalso
        have := c9.2
        omega
      · refine ⟨⟨?_, fun _ => ev9 hv (by omega)⟩, rl_type hR hv9 (by omega) ⟨rfl, rfl, rfl, ?_, ?_⟩ ?_ rfl⟩
        · show ups (ups (R 0) 6 0) 4 (R 0 4 + 1) 6 = 0
          simp [ups]
        · show ups (ups (R 0) 6 0) 4 (R 0 4 + 1) 2 = R 0 2
          simp [ups]
        · show ups (ups (R 0) 6 0) 4 (R 0 4 + 1) 5 = R 0 5
          simp [ups]
        · show ups (ups (R 0) 6 0) 4 (R 0 4 + 1) 4 = R 0 4 + 1
          simp [ups]
  · skip
    refine zl_stat (As := [.ref (a 100), .int (iI v), .ref o]) (rest := []) (pb_ts (cy := cy) (a := a) (a2 := a2) (o := o) (f := fo) (P := P) (R := R)) ⟨hx, hb, hml, hown, hts⟩ (c_L_type_t2 l hst H.size o D cy a P v hrv hv9) gL_law_L_type rfl ⟨rfl, rfl⟩ 3 rfl (by decide +kernel) ⟨Nat.le_of_ble_eq_true rfl, Nat.le_of_ble_eq_true rfl⟩ (GX_ok D cy) hGX hA hP hD hS hl.1 rfl (Nat.le_of_ble_eq_true rfl) (rm_1 hroom0) dL_law_1443 (fun r U9 H locs hpost hP hD hS => ?_)
    have hr0 : r = 1 := hpost
    rw [hr0]
    refine hmid 1 a fo P H locs _ _ (by decide) rfl (fun r9 R' hq => ?_) hP hD hS ⟨by omega, by omega⟩
    rcases hq with ⟨c9, e9, rfl⟩ | ⟨c9, e9, rfl⟩ | ⟨c9, e9, rfl⟩
    · exact ⟨⟨(rq_t R _).2, fun h => absurd h (by decide)⟩, rl_q hR (rq_t R _).1 (objq_rfl hR)⟩
    · exact absurd c9.1 hv9
    · exact absurd c9.1 hv9
set_option maxHeartbeats 4000000 in
set_option maxRecDepth 100000 in
theorem zc_undo {p : Program} {l : Launch} {e : Env} {s : State} {m : MethodId} {below : List Frame} {meth : Method} {c : Code} {b L : Nat} {xs : Nat → Int32} {D : va_G} {cy : Nat → ClassId} {Q : State → Prop} {H : Heap} {locs : List Loc} {cells slots : Nat} {ls : Array Slot} {a a2 : Nat → Nat} {o : Nat} {fo : Nat → Int64} {P R : Nat → Int → Int} (C : zC p l s m c b L xs D cy) {i : Int} (K : zK p l e s m below meth c b D cy Q i (cells + 1) (slots + 6)) (hi : 0 ≤ i ∧ i + 5 ≤ (L : Int)) (hroom : cells + 1 ≤ 600000 ∧ slots + 6 ≤ 7000000) (hR : Rl P R) (hP : va_P D vwCl (lawW cy a a2 o fo P R) H) (hD : va_D (fun q : Nat => s.heap.size ≤ q) (lawW cy a a2 o fo P R)) (hS : va_S (fun q : Nat => s.heap.size ≤ q) s.heap H locs) (hl : lv_has ls 7 [(0, .ref b), (1, .ref (a 100)), (2, .ref (a2 0)), (3, .ref o), (4, .int (iI i))]) : W p l e room_1 s m #[Value.ref b] below meth c H locs cells slots Q (F0 m 1530 ls []) := by
  obtain ⟨⟨hx, hb, hml, hown⟩, hts, ⟨hX, hbl, hL⟩, hGX, hst⟩ := id C
  have hGG := hGX.1.1
  have hKk := hGG.1
  have hA : ∀ q : Nat, s.heap.size ≤ q → (fun q : Nat => s.heap.size ≤ q) q := fun _ h => h
  have hI := hR.inv
  have hIr := hR.1.1
  have hag := hR.1.2
  obtain ⟨h12, h13⟩ := rl_12 hR
  have h8 : R 1 8 = P 8 8 := rl_st hR (by decide) (by decide)
  have hsc := hR.2.1.1.2
  have h50 := hR.2.1.1.1
  have hsv : 0 ≤ P 50 1 ∧ P 50 1 ≤ 4 := ⟨by omega, by omega⟩
  have hS0 := po_S hI
  have hl0 := hR.2.2.2.2.1
  have hl1 := hR.2.2.2.2.2
  have htl := hR.2.2.1.1.2
  have h10 := hR.2.2.1.1.1
  have hroom0 : cells ≤ 600000 ∧ slots ≤ 7000000 := ⟨by omega, by omega⟩
  have hmid : ∀ (k : Int) (a' : Nat → Nat) (f' : Nat → Int64) (P' : Nat → Int → Int) (H : Heap) (locs : List Loc) (cells' slots' : Nat), (0 ≤ k ∧ k ≤ 3) → a' 100 = a 100 → (∀ (r9 : Int) (R' : Nat → Int → Int), (((R 0 2 = 0) ∧ r9 = 0 ∧ R' = (upr R 0 (ups (R 0) 6 1))) ∨ ((0 < R 0 2) ∧ r9 = R 0 2 - 1 ∧ R' = (upr (upr R 0 (ups (ups (R 0) 6 0) 2 (R 0 2 - 1))) 1 (cpyI (R 1) (page (R 2) (R 0 2 - 1)) 0 494)))) → (R' 0 6 = k ∧ (k = 0 → f' 0 = (iI r9).toInt64)) ∧ Rl P' R') → va_P D vwCl (lawW cy a' a2 o f' P' R) H → va_D (fun q : Nat => s.heap.size ≤ q) (lawW cy a' a2 o f' P' R) → va_S (fun q : Nat => s.heap.size ≤ q) s.heap H locs → (cells' ≤ cells + 1 ∧ slots' ≤ slots + 6) → W p l e room_1 s m #[Value.ref b] below meth c H locs cells' slots' Q (F0 m 1535 ls [.int (iI k)]) := by
    intro k a' f' P' H locs cells' slots' hk3 ha hpost hP hD hS hcs
    have hroom9 : cells' ≤ 600000 ∧ slots' ≤ 7000000 := ⟨by omega, by omega⟩
    refine lv_istore (lv' := [(5, .int (iI k)), (0, .ref b), (1, .ref (a 100)), (2, .ref (a2 0)), (3, .ref o), (4, .int (iI i))]) hx hb dL_law_1535 hl (by decide) rfl (fun ls hl => ?_)
    refine lv_aload_n hx hb dL_law_1537 rfl (lv_at hl 3 rfl) ?_
    refine zl_virt (As := []) (rest := []) (pb_rf (cy := cy) (a := a') (a2 := a2) (o := o) (f := f') (P := P') (R := R)) ⟨hx, hb, hml, hown, hts⟩ (c_X7_undo l D cy H.size a2 R  hsc) gL_law_X7_undo rfl ⟨rfl, rfl⟩ 0 rfl (by decide +kernel) ⟨Nat.le_of_ble_eq_true rfl, Nat.le_of_ble_eq_true rfl⟩ (GG_ok D cy) hGG hA hP hD hS (va_recv hKk (pb_rw hP) (ci := 6) (q0 := 0) rfl rfl) hl.1 rfl (Nat.le_of_ble_eq_true rfl) (rm_0 hroom9) dL_law_1538 (fun r9 R' H locs hq hP hD hS => ?_)
    have hq := hpost r9 R' hq
    rw [← ha] at hl
    exact z_tail C K dL_law_1541 dL_law_1543 dL_law_1544 dL_law_1547 dL_law_1549 dL_law_1554 dL_law_1556 dL_law_1559 dL_law_1560 dL_law_1561 dL_law_1562 dL_law_1564 dL_law_1565 dL_law_1566 dL_law_1571 (by decide) hq.1.1 hk3 hq.1.2 hq.2 hP hD hS hl hcs hroom9
  refine lv_aload_n hx hb dL_law_1530 rfl (lv_at hl 1 rfl) ?_
  refine lv_aload_n hx hb dL_law_1531 rfl (lv_at hl 3 rfl) ?_
  by_cases hno : P 50 1 = 0
  · skip
    refine zl_stat (As := [.ref (a 100), .ref o]) (rest := []) (pb_th (cy := cy) (a := a) (a2 := a2) (o := o) (f := fo) (P := P) (R := R)) ⟨hx, hb, hml, hown, hts⟩ (c_L_undo_t3 l hst H.size o D cy a P hno) gL_law_L_undo rfl ⟨rfl, rfl⟩ 2 rfl (by decide +kernel) ⟨Nat.le_of_ble_eq_true rfl, Nat.le_of_ble_eq_true rfl⟩ (GX_ok D cy) hGX hA hP hD hS hl.1 rfl (Nat.le_of_ble_eq_true rfl) (rm_1 hroom0) dL_law_1532 (fun r U9 H locs hpost hP hD hS => ?_)
    have hr0 : r = 1 := hpost
    rw [hr0]
    refine hmid 1 a fo P H locs _ _ (by decide) rfl (fun r9 R' hq => ?_) hP hD hS ⟨by omega, by omega⟩
    rcases hq with ⟨c9, e9, rfl⟩ | ⟨c9, e9, rfl⟩
    · exact ⟨⟨(rq_t R _).2, fun h => absurd h (by decide)⟩, rl_q hR (rq_t R _).1 (objq_rfl hR)⟩
    · exfalso
      omega
  by_cases hk0 : P 50 1 = 1
  · have hpg := hR.2.1.2 0 (by omega)
    have hIp : Inv (mO (pgR P 0)) := inv_A hpg.1 hpg.2
    refine zl_stat (As := [.ref (a 100), .ref o]) (rest := []) (pb_hu (cy := cy) (a := a) (a2 := a2) (o := o) (f := fo) (P := P) (R := R)) ⟨hx, hb, hml, hown, hts⟩ (c_L_undo_0 l H.size o fo D cy a P hk0 hIp) gL_law_L_undo rfl ⟨rfl, rfl⟩ 2 rfl (by decide +kernel) ⟨Nat.le_of_ble_eq_true rfl, Nat.le_of_ble_eq_true rfl⟩ (GG_ok D cy) hGG hA hP hD hS hl.1 rfl (Nat.le_of_ble_eq_true rfl) (rm_0 hroom0) dL_law_1532 (fun r U9 H locs hpost hP hD hS => ?_)
    obtain ⟨hr0, v9, hv, hv2, h100, hbk⟩ := hpost
    rw [hr0]
    refine hmid 0 a U9.2 (mixB inHs P U9.1) H locs _ _ (by decide) rfl (fun r9 R' hq => ?_) hP hD hS ⟨by omega, by omega⟩
    rw [mx_hs hbk.1]
    rcases hq with ⟨c9, e9, rfl⟩ | ⟨c9, e9, rfl⟩
    · exfalso
      omega
    · refine ⟨⟨?_, fun _ => ev9 hv (by omega)⟩, rl_undo (n := 0) hR (by omega) h100 hbk ⟨⟨rfl, rfl, rfl, rfl⟩, ?_, ?_, ?_⟩⟩
      · show ups (ups (R 0) 6 0) 2 (R 0 2 - 1) 6 = 0
        simp [ups]
      · show ups (ups (R 0) 6 0) 2 (R 0 2 - 1) 2 = R 0 2 - 1
        simp [ups]
      · show ups (ups (R 0) 6 0) 2 (R 0 2 - 1) 4 = R 0 4
        simp [ups]
      · show ups (ups (R 0) 6 0) 2 (R 0 2 - 1) 5 = R 0 5
        simp [ups]
  by_cases hk1 : P 50 1 = 2
  · have hpg := hR.2.1.2 1 (by omega)
    have hIp : Inv (mO (pgR P 1)) := inv_A hpg.1 hpg.2
    refine zl_stat (As := [.ref (a 100), .ref o]) (rest := []) (pb_hu (cy := cy) (a := a) (a2 := a2) (o := o) (f := fo) (P := P) (R := R)) ⟨hx, hb, hml, hown, hts⟩ (c_L_undo_1 l H.size o fo D cy a P hk1 hIp) gL_law_L_undo rfl ⟨rfl, rfl⟩ 2 rfl (by decide +kernel) ⟨Nat.le_of_ble_eq_true rfl, Nat.le_of_ble_eq_true rfl⟩ (GG_ok D cy) hGG hA hP hD hS hl.1 rfl (Nat.le_of_ble_eq_true rfl) (rm_0 hroom0) dL_law_1532 (fun r U9 H locs hpost hP hD hS => ?_)
    obtain ⟨hr0, v9, hv, hv2, h100, hbk⟩ := hpost
    rw [hr0]
    refine hmid 0 a U9.2 (mixB inHs P U9.1) H locs _ _ (by decide) rfl (fun r9 R' hq => ?_) hP hD hS ⟨by omega, by omega⟩
    rw [mx_hs hbk.1]
    rcases hq with ⟨c9, e9, rfl⟩ | ⟨c9, e9, rfl⟩
    · exfalso
      omega
    · refine ⟨⟨?_, fun _ => ev9 hv (by omega)⟩, rl_undo (n := 1) hR (by omega) h100 hbk ⟨⟨rfl, rfl, rfl, rfl⟩, ?_, ?_, ?_⟩⟩
      · show ups (ups (R 0) 6 0) 2 (R 0 2 - 1) 6 = 0
        simp [ups]
      · show ups (ups (R 0) 6 0) 2 (R 0 2 - 1) 2 = R 0 2 - 1
        simp [ups]
      · show ups (ups (R 0) 6 0) 2 (R 0 2 - 1) 4 = R 0 4
        simp [ups]
      · show ups (ups (R 0) 6 0) 2 (R 0 2 - 1) 5 = R 0 5
        simp [ups]
  by_cases hk2 : P 50 1 = 3
  · have hpg := hR.2.1.2 2 (by omega)
    have hIp : Inv (mO (pgR P 2)) := inv_A hpg.1 hpg.2
    refine zl_stat (As := [.ref (a 100), .ref o]) (rest := []) (pb_hu (cy := cy) (a := a) (a2 := a2) (o := o) (f := fo) (P := P) (R := R)) ⟨hx, hb, hml, hown, hts⟩ (c_L_undo_2 l H.size o fo D cy a P hk2 hIp) gL_law_L_undo rfl ⟨rfl, rfl⟩ 2 rfl (by decide +kernel) ⟨Nat.le_of_ble_eq_true rfl, Nat.le_of_ble_eq_true rfl⟩ (GG_ok D cy) hGG hA hP hD hS hl.1 rfl (Nat.le_of_ble_eq_true rfl) (rm_0 hroom0) dL_law_1532 (fun r U9 H locs hpost hP hD hS => ?_)
    obtain ⟨hr0, v9, hv, hv2, h100, hbk⟩ := hpost
    rw [hr0]
    refine hmid 0 a U9.2 (mixB inHs P U9.1) H locs _ _ (by decide) rfl (fun r9 R' hq => ?_) hP hD hS ⟨by omega, by omega⟩
    rw [mx_hs hbk.1]
    rcases hq with ⟨c9, e9, rfl⟩ | ⟨c9, e9, rfl⟩
    · exfalso
      omega
    · refine ⟨⟨?_, fun _ => ev9 hv (by omega)⟩, rl_undo (n := 2) hR (by omega) h100 hbk ⟨⟨rfl, rfl, rfl, rfl⟩, ?_, ?_, ?_⟩⟩
      · show ups (ups (R 0) 6 0) 2 (R 0 2 - 1) 6 = 0
        simp [ups]
      · show ups (ups (R 0) 6 0) 2 (R 0 2 - 1) 2 = R 0 2 - 1
        simp [ups]
      · show ups (ups (R 0) 6 0) 2 (R 0 2 - 1) 4 = R 0 4
        simp [ups]
      · show ups (ups (R 0) 6 0) 2 (R 0 2 - 1) 5 = R 0 5
        simp [ups]
  by_cases hk3 : P 50 1 = 4
  · have hpg := hR.2.1.2 3 (by omega)
    have hIp : Inv (mO (pgR P 3)) := inv_A hpg.1 hpg.2
    refine zl_stat (As := [.ref (a 100), .ref o]) (rest := []) (pb_hu (cy := cy) (a := a) (a2 := a2) (o := o) (f := fo) (P := P) (R := R)) ⟨hx, hb, hml, hown, hts⟩ (c_L_undo_3 l H.size o fo D cy a P hk3 hIp) gL_law_L_undo rfl ⟨rfl, rfl⟩ 2 rfl (by decide +kernel) ⟨Nat.le_of_ble_eq_true rfl, Nat.le_of_ble_eq_true rfl⟩ (GG_ok D cy) hGG hA hP hD hS hl.1 rfl (Nat.le_of_ble_eq_true rfl) (rm_0 hroom0) dL_law_1532 (fun r U9 H locs hpost hP hD hS => ?_)
    obtain ⟨hr0, v9, hv, hv2, h100, hbk⟩ := hpost
    rw [hr0]
    refine hmid 0 a U9.2 (mixB inHs P U9.1) H locs _ _ (by decide) rfl (fun r9 R' hq => ?_) hP hD hS ⟨by omega, by omega⟩
    rw [mx_hs hbk.1]
    rcases hq with ⟨c9, e9, rfl⟩ | ⟨c9, e9, rfl⟩
    · exfalso
      omega
    · refine ⟨⟨?_, fun _ => ev9 hv (by omega)⟩, rl_undo (n := 3) hR (by omega) h100 hbk ⟨⟨rfl, rfl, rfl, rfl⟩, ?_, ?_, ?_⟩⟩
      · show ups (ups (R 0) 6 0) 2 (R 0 2 - 1) 6 = 0
        simp [ups]
      · show ups (ups (R 0) 6 0) 2 (R 0 2 - 1) 2 = R 0 2 - 1
        simp [ups]
      · show ups (ups (R 0) 6 0) 2 (R 0 2 - 1) 4 = R 0 4
        simp [ups]
      · show ups (ups (R 0) 6 0) 2 (R 0 2 - 1) 5 = R 0 5
        simp [ups]
  exfalso
  omega
