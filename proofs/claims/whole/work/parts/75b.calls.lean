/-! the law's calls -/
set_option maxHeartbeats 4000000 in
set_option maxRecDepth 100000 in
theorem zc_set {p : Program} {l : Launch} {e : Env} {s : State} {m : MethodId} {below : List Frame} {meth : Method} {c : Code} {b L : Nat} {xs : Nat → Int32} {D : va_G} {cy : Nat → ClassId} {Q : State → Prop} {H : Heap} {locs : List Loc} {cells slots : Nat} {ls : Array Slot} {a a2 : Nat → Nat} {o : Nat} {fo : Nat → Int64} {P R : Nat → Int → Int} (C : zC p l s m c b L xs D cy) {i : Int} (K : zK p l e s m below meth c b D cy Q i (cells + 1) (slots + 6)) (hi : 0 ≤ i ∧ i + 5 ≤ (L : Int)) (hroom : cells + 1 ≤ 600000 ∧ slots + 6 ≤ 7000000) (hR : Rl P R) (hP : va_P D vwCl (lawW cy a a2 o fo P R) H) (hD : va_D (fun q : Nat => s.heap.size ≤ q) (lawW cy a a2 o fo P R)) (hS : va_S (fun q : Nat => s.heap.size ≤ q) s.heap H locs) (hl : lv_has ls 7 [(0, .ref b), (1, .ref (a 100)), (2, .ref (a2 0)), (3, .ref o), (4, .int (iI i))]) : W p l e room_1 s m #[Value.ref b] below meth c H locs cells slots Q (F0 m 424 ls []) := by
  obtain ⟨⟨hx, hb, hml, hown⟩, hts, ⟨hX, hbl, hL⟩, hGX, hst⟩ := id C
  have hGG := hGX.1.1
  have hKk := hGG.1
  have hA : ∀ q : Nat, s.heap.size ≤ q → (fun q : Nat => s.heap.size ≤ q) q := fun _ h => h
  have hI := hR.inv
  have hIr := hR.1.1
  have hag := hR.1.2
  obtain ⟨h12, h13⟩ := rl_12 hR
  have h8 : R 1 8 = P 8 8 := rl_st hR (by decide) (by decide)
  have hsc := hR.2.1.1.2
  have h50 := hR.2.1.1.1
  have hsv : 0 ≤ P 50 1 ∧ P 50 1 ≤ 4 := ⟨by omega, by omega⟩
  have hS0 := po_S hI
  have hl0 := hR.2.2.2.2.1
  have hl1 := hR.2.2.2.2.2
  have htl := hR.2.2.1.1.2
  have h10 := hR.2.2.1.1.1
  have hroom0 : cells ≤ 600000 ∧ slots ≤ 7000000 := ⟨by omega, by omega⟩
  obtain ⟨w, e_w, hrw⟩ : ∃ z : Int, xs (i + 1).toNat = iI z ∧ -2147483648 ≤ z ∧ z ≤ 2147483647 := ⟨_, iI_of _, iI_rng _⟩
  obtain ⟨v, e_v, hrv⟩ : ∃ z : Int, xs (i + 2).toNat = iI z ∧ -2147483648 ≤ z ∧ z ≤ 2147483647 := ⟨_, iI_of _, iI_rng _⟩
  have hmid : ∀ (k : Int) (a' : Nat → Nat) (f' : Nat → Int64) (P' : Nat → Int → Int) (H : Heap) (locs : List Loc) (cells' slots' : Nat), (0 ≤ k ∧ k ≤ 3) → a' 100 = a 100 → (∀ (r9 : Int) (R' : Nat → Int → Int), (((¬ setOK w v) ∧ r9 = 0 ∧ R' = (upr R 0 (ups (R 0) 6 1))) ∨ ((setOK w v) ∧ r9 = R 1 w ∧ R' = (upr (upr (upr R 0 (ups (ups (R 0) 6 0) 2 (kpN (R 0 2)))) 1 (ups (R 1) w v)) 2 (kpS (R 2) (R 1) (R 0 2))))) → (R' 0 6 = k ∧ (k = 0 → f' 0 = (iI r9).toInt64)) ∧ Rl P' R') → va_P D vwCl (lawW cy a' a2 o f' P' R) H → va_D (fun q : Nat => s.heap.size ≤ q) (lawW cy a' a2 o f' P' R) → va_S (fun q : Nat => s.heap.size ≤ q) s.heap H locs → (cells' ≤ cells + 1 ∧ slots' ≤ slots + 6) → W p l e room_1 s m #[Value.ref b] below meth c H locs cells' slots' Q (F0 m 441 ls [.int (iI k)]) := by
    intro k a' f' P' H locs cells' slots' hk3 ha hpost hP hD hS hcs
    have hroom9 : cells' ≤ 600000 ∧ slots' ≤ 7000000 := ⟨by omega, by omega⟩
    refine lv_istore (lv' := [(5, .int (iI k)), (0, .ref b), (1, .ref (a 100)), (2, .ref (a2 0)), (3, .ref o), (4, .int (iI i))]) hx hb dL_law_441 hl (by decide) rfl (fun ls hl => ?_)
    refine lv_aload_n hx hb dL_law_443 rfl (lv_at hl 3 rfl) ?_
    refine z_arg C hS dL_law_444 dL_law_445 dL_law_447 dL_law_448 dL_law_449 (k := 1) (by decide) hi (lv_at hl 1 rfl) (lv_at hl 5 rfl) e_w ?_
    refine z_arg C hS dL_law_450 dL_law_451 dL_law_453 dL_law_454 dL_law_455 (k := 2) (by decide) hi (lv_at hl 1 rfl) (lv_at hl 5 rfl) e_v ?_
    refine zl_virt (As := [.int (iI w), .int (iI v)]) (rest := []) (pb_rf (cy := cy) (a := a') (a2 := a2) (o := o) (f := f') (P := P') (R := R)) ⟨hx, hb, hml, hown, hts⟩ (c_X7_set l D cy H.size a2 R w v hsc hrw hrv) gL_law_X7_set rfl ⟨rfl, rfl⟩ 2 rfl (by decide +kernel) ⟨Nat.le_of_ble_eq_true rfl, Nat.le_of_ble_eq_true rfl⟩ (GG_ok D cy) hGG hA hP hD hS (va_recv hKk (pb_rw hP) (ci := 6) (q0 := 0) rfl rfl) hl.1 rfl (Nat.le_of_ble_eq_true rfl) (rm_0 hroom9) dL_law_456 (fun r9 R' H locs hq hP hD hS => ?_)
    have hq := hpost r9 R' hq
    rw [← ha] at hl
    exact z_tail C K dL_law_459 dL_law_461 dL_law_462 dL_law_465 dL_law_467 dL_law_472 dL_law_474 dL_law_477 dL_law_478 dL_law_479 dL_law_480 dL_law_482 dL_law_483 dL_law_484 dL_law_489 (by decide) hq.1.1 hk3 hq.1.2 hq.2 hP hD hS hl hcs hroom9
  refine lv_aload_n hx hb dL_law_424 rfl (lv_at hl 1 rfl) ?_
  refine z_arg C hS dL_law_425 dL_law_426 dL_law_428 dL_law_429 dL_law_430 (k := 1) (by decide) hi (lv_at hl 0 rfl) (lv_at hl 4 rfl) e_w ?_
  refine z_arg C hS dL_law_431 dL_law_432 dL_law_434 dL_law_435 dL_law_436 (k := 2) (by decide) hi (lv_at hl 0 rfl) (lv_at hl 4 rfl) e_v ?_
  refine lv_aload_n hx hb dL_law_437 rfl (lv_at hl 3 rfl) ?_
  by_cases hok : setOK w v
  · skip
    refine zl_stat (As := [.ref (a 100), .int (iI w), .int (iI v), .ref o]) (rest := []) (pb_hs (cy := cy) (a := a) (a2 := a2) (o := o) (f := fo) (P := P) (R := R)) ⟨hx, hb, hml, hown, hts⟩ (c_L_set l H.size o fo D cy a P w v hI hsv hrw hrv hok) gL_law_L_set rfl ⟨rfl, rfl⟩ 4 rfl (by decide +kernel) ⟨Nat.le_of_ble_eq_true rfl, Nat.le_of_ble_eq_true rfl⟩ (GG_ok D cy) hGG hA hP hD hS hl.1 rfl (Nat.le_of_ble_eq_true rfl) (rm_0 hroom0) dL_law_438 (fun r U9 H locs hpost hP hD hS => ?_)
    obtain ⟨hr0, v9, hv, hv2, ho⟩ := hpost
    rw [hr0]
    refine hmid 0 (pgm a U9.1.1) U9.2 (mixB inHs P U9.1.2) H locs _ _ (by decide) rfl (fun r9 R' hq => ?_) hP hD hS ⟨by omega, by omega⟩
    rw [mx_hs ho.2.2.1]
    rcases hq with ⟨c9, e9, rfl⟩ | ⟨c9, e9, rfl⟩
    · exact absurd hok c9
    · exact ⟨⟨(ro_t R _).2, fun _ => ev9 hv (hv2.trans (by rw [e9, rl_st hR hok.1.1 (by have := hok.1; omega)]))⟩, rl_op hR ho (ro_t R _).1 (by rw [mO_ups P v (show w < 10 by have := hok.1; omega)]; exact st_ag v hIr hag (by have := hok.1; omega)) (st_inv hIr hok)⟩
  · skip
    refine zl_stat (As := [.ref (a 100), .int (iI w), .int (iI v), .ref o]) (rest := []) (pb_tp (cy := cy) (a := a) (a2 := a2) (o := o) (f := fo) (P := P) (R := R)) ⟨hx, hb, hml, hown, hts⟩ (c_L_set_t2 l hst H.size o D cy a P w v hrw hrv hok) gL_law_L_set rfl ⟨rfl, rfl⟩ 4 rfl (by decide +kernel) ⟨Nat.le_of_ble_eq_true rfl, Nat.le_of_ble_eq_true rfl⟩ (GX_ok D cy) hGX hA hP hD hS hl.1 rfl (Nat.le_of_ble_eq_true rfl) (rm_1 hroom0) dL_law_438 (fun r U9 H locs hpost hP hD hS => ?_)
    have hr0 : r = 1 := hpost
    rw [hr0]
    refine hmid 1 a fo P H locs _ _ (by decide) rfl (fun r9 R' hq => ?_) hP hD hS ⟨by omega, by omega⟩
    rcases hq with ⟨c9, e9, rfl⟩ | ⟨c9, e9, rfl⟩
    · exact ⟨⟨(rq_t R _).2, fun h => absurd h (by decide)⟩, rl_q hR (rq_t R _).1 (objq_rfl hR)⟩
    · exact absurd c9 hok
set_option maxHeartbeats 4000000 in
set_option maxRecDepth 100000 in
theorem zc_setPole {p : Program} {l : Launch} {e : Env} {s : State} {m : MethodId} {below : List Frame} {meth : Method} {c : Code} {b L : Nat} {xs : Nat → Int32} {D : va_G} {cy : Nat → ClassId} {Q : State → Prop} {H : Heap} {locs : List Loc} {cells slots : Nat} {ls : Array Slot} {a a2 : Nat → Nat} {o : Nat} {fo : Nat → Int64} {P R : Nat → Int → Int} (C : zC p l s m c b L xs D cy) {i : Int} (K : zK p l e s m below meth c b D cy Q i (cells + 1) (slots + 6)) (hi : 0 ≤ i ∧ i + 5 ≤ (L : Int)) (hroom : cells + 1 ≤ 600000 ∧ slots + 6 ≤ 7000000) (hR : Rl P R) (hP : va_P D vwCl (lawW cy a a2 o fo P R) H) (hD : va_D (fun q : Nat => s.heap.size ≤ q) (lawW cy a a2 o fo P R)) (hS : va_S (fun q : Nat => s.heap.size ≤ q) s.heap H locs) (hl : lv_has ls 7 [(0, .ref b), (1, .ref (a 100)), (2, .ref (a2 0)), (3, .ref o), (4, .int (iI i))]) : W p l e room_1 s m #[Value.ref b] below meth c H locs cells slots Q (F0 m 492 ls []) := by
  obtain ⟨⟨hx, hb, hml, hown⟩, hts, ⟨hX, hbl, hL⟩, hGX, hst⟩ := id C
  have hGG := hGX.1.1
  have hKk := hGG.1
  have hA : ∀ q : Nat, s.heap.size ≤ q → (fun q : Nat => s.heap.size ≤ q) q := fun _ h => h
  have hI := hR.inv
  have hIr := hR.1.1
  have hag := hR.1.2
  obtain ⟨h12, h13⟩ := rl_12 hR
  have h8 : R 1 8 = P 8 8 := rl_st hR (by decide) (by decide)
  have hsc := hR.2.1.1.2
  have h50 := hR.2.1.1.1
  have hsv : 0 ≤ P 50 1 ∧ P 50 1 ≤ 4 := ⟨by omega, by omega⟩
  have hS0 := po_S hI
  have hl0 := hR.2.2.2.2.1
  have hl1 := hR.2.2.2.2.2
  have htl := hR.2.2.1.1.2
  have h10 := hR.2.2.1.1.1
  have hroom0 : cells ≤ 600000 ∧ slots ≤ 7000000 := ⟨by omega, by omega⟩
  obtain ⟨x, e_x, hrx⟩ : ∃ z : Int, xs (i + 1).toNat = iI z ∧ -2147483648 ≤ z ∧ z ≤ 2147483647 := ⟨_, iI_of _, iI_rng _⟩
  obtain ⟨y, e_y, hry⟩ : ∃ z : Int, xs (i + 2).toNat = iI z ∧ -2147483648 ≤ z ∧ z ≤ 2147483647 := ⟨_, iI_of _, iI_rng _⟩
  have hmid : ∀ (k : Int) (a' : Nat → Nat) (f' : Nat → Int64) (P' : Nat → Int → Int) (H : Heap) (locs : List Loc) (cells' slots' : Nat), (0 ≤ k ∧ k ≤ 3) → a' 100 = a 100 → (∀ (r9 : Int) (R' : Nat → Int → Int), (((¬ poleOK x y) ∧ r9 = 0 ∧ R' = (upr R 0 (ups (R 0) 6 1))) ∨ ((poleOK x y) ∧ r9 = pcost (tPo (R 1) x y) ∧ R' = (upr (upr (upr R 0 (ups (ups (R 0) 6 0) 2 (kpN (R 0 2)))) 1 (tPo (R 1) x y)) 2 (kpS (R 2) (R 1) (R 0 2))))) → (R' 0 6 = k ∧ (k = 0 → f' 0 = (iI r9).toInt64)) ∧ Rl P' R') → va_P D vwCl (lawW cy a' a2 o f' P' R) H → va_D (fun q : Nat => s.heap.size ≤ q) (lawW cy a' a2 o f' P' R) → va_S (fun q : Nat => s.heap.size ≤ q) s.heap H locs → (cells' ≤ cells + 1 ∧ slots' ≤ slots + 6) → W p l e room_1 s m #[Value.ref b] below meth c H locs cells' slots' Q (F0 m 509 ls [.int (iI k)]) := by
    intro k a' f' P' H locs cells' slots' hk3 ha hpost hP hD hS hcs
    have hroom9 : cells' ≤ 600000 ∧ slots' ≤ 7000000 := ⟨by omega, by omega⟩
    refine lv_istore (lv' := [(5, .int (iI k)), (0, .ref b), (1, .ref (a 100)), (2, .ref (a2 0)), (3, .ref o), (4, .int (iI i))]) hx hb dL_law_509 hl (by decide) rfl (fun ls hl => ?_)
    refine lv_aload_n hx hb dL_law_511 rfl (lv_at hl 3 rfl) ?_
    refine z_arg C hS dL_law_512 dL_law_513 dL_law_515 dL_law_516 dL_law_517 (k := 1) (by decide) hi (lv_at hl 1 rfl) (lv_at hl 5 rfl) e_x ?_
    refine z_arg C hS dL_law_518 dL_law_519 dL_law_521 dL_law_522 dL_law_523 (k := 2) (by decide) hi (lv_at hl 1 rfl) (lv_at hl 5 rfl) e_y ?_
    refine zl_virt (As := [.int (iI x), .int (iI y)]) (rest := []) (pb_rf (cy := cy) (a := a') (a2 := a2) (o := o) (f := f') (P := P') (R := R)) ⟨hx, hb, hml, hown, hts⟩ (c_X7_setPole l D cy H.size a2 R x y hIr hsc hrx hry) gL_law_X7_setPole rfl ⟨rfl, rfl⟩ 2 rfl (by decide +kernel) ⟨Nat.le_of_ble_eq_true rfl, Nat.le_of_ble_eq_true rfl⟩ (GG_ok D cy) hGG hA hP hD hS (va_recv hKk (pb_rw hP) (ci := 6) (q0 := 0) rfl rfl) hl.1 rfl (Nat.le_of_ble_eq_true rfl) (rm_0 hroom9) dL_law_524 (fun r9 R' H locs hq hP hD hS => ?_)
    have hq := hpost r9 R' hq
    rw [← ha] at hl
    exact z_tail C K dL_law_527 dL_law_529 dL_law_530 dL_law_533 dL_law_535 dL_law_540 dL_law_542 dL_law_545 dL_law_546 dL_law_547 dL_law_548 dL_law_550 dL_law_551 dL_law_552 dL_law_557 (by decide) hq.1.1 hk3 hq.1.2 hq.2 hP hD hS hl hcs hroom9
  refine lv_aload_n hx hb dL_law_492 rfl (lv_at hl 1 rfl) ?_
  refine z_arg C hS dL_law_493 dL_law_494 dL_law_496 dL_law_497 dL_law_498 (k := 1) (by decide) hi (lv_at hl 0 rfl) (lv_at hl 4 rfl) e_x ?_
  refine z_arg C hS dL_law_499 dL_law_500 dL_law_502 dL_law_503 dL_law_504 (k := 2) (by decide) hi (lv_at hl 0 rfl) (lv_at hl 4 rfl) e_y ?_
  refine lv_aload_n hx hb dL_law_505 rfl (lv_at hl 3 rfl) ?_
  by_cases hpo : poleOK x y
  · skip
    refine zl_stat (As := [.ref (a 100), .int (iI x), .int (iI y), .ref o]) (rest := []) (pb_hs (cy := cy) (a := a) (a2 := a2) (o := o) (f := fo) (P := P) (R := R)) ⟨hx, hb, hml, hown, hts⟩ (c_L_setPole l H.size o fo D cy a P x y hI hsv hrx hry hpo) gL_law_L_setPole rfl ⟨rfl, rfl⟩ 4 rfl (by decide +kernel) ⟨Nat.le_of_ble_eq_true rfl, Nat.le_of_ble_eq_true rfl⟩ (GG_ok D cy) hGG hA hP hD hS hl.1 rfl (Nat.le_of_ble_eq_true rfl) (rm_0 hroom0) dL_law_506 (fun r U9 H locs hpost hP hD hS => ?_)
    obtain ⟨hr0, v9, hv, hv2, ho⟩ := hpost
    rw [hr0]
    refine hmid 0 (pgm a U9.1.1) U9.2 (mixB inHs P U9.1.2) H locs _ _ (by decide) rfl (fun r9 R' hq => ?_) hP hD hS ⟨by omega, by omega⟩
    rw [mx_hs ho.2.2.1]
    rcases hq with ⟨c9, e9, rfl⟩ | ⟨c9, e9, rfl⟩
    · exact absurd hpo c9
    · exact ⟨⟨(ro_t R _).2, fun _ => ev9 hv (hv2.trans (by rw [e9, pcA (po_ag x y hIr hag)]))⟩, rl_op hR ho (ro_t R _).1 (po_ag x y hIr hag) (inv_tPo hIr hpo)⟩
  · skip
    refine zl_stat (As := [.ref (a 100), .int (iI x), .int (iI y), .ref o]) (rest := []) (pb_tp (cy := cy) (a := a) (a2 := a2) (o := o) (f := fo) (P := P) (R := R)) ⟨hx, hb, hml, hown, hts⟩ (c_L_setPole_t2 l hst H.size o D cy a P x y hrx hry hpo) gL_law_L_setPole rfl ⟨rfl, rfl⟩ 4 rfl (by decide +kernel) ⟨Nat.le_of_ble_eq_true rfl, Nat.le_of_ble_eq_true rfl⟩ (GX_ok D cy) hGX hA hP hD hS hl.1 rfl (Nat.le_of_ble_eq_true rfl) (rm_1 hroom0) dL_law_506 (fun r U9 H locs hpost hP hD hS => ?_)
    have hr0 : r = 1 := hpost
    rw [hr0]
    refine hmid 1 a fo P H locs _ _ (by decide) rfl (fun r9 R' hq => ?_) hP hD hS ⟨by omega, by omega⟩
    rcases hq with ⟨c9, e9, rfl⟩ | ⟨c9, e9, rfl⟩
    · exact ⟨⟨(rq_t R _).2, fun h => absurd h (by decide)⟩, rl_q hR (rq_t R _).1 (objq_rfl hR)⟩
    · exact absurd c9 hpo
set_option maxHeartbeats 4000000 in
set_option maxRecDepth 100000 in
theorem zc_search {p : Program} {l : Launch} {e : Env} {s : State} {m : MethodId} {below : List Frame} {meth : Method} {c : Code} {b L : Nat} {xs : Nat → Int32} {D : va_G} {cy : Nat → ClassId} {Q : State → Prop} {H : Heap} {locs : List Loc} {cells slots : Nat} {ls : Array Slot} {a a2 : Nat → Nat} {o : Nat} {fo : Nat → Int64} {P R : Nat → Int → Int} (C : zC p l s m c b L xs D cy) {i : Int} (K : zK p l e s m below meth c b D cy Q i (cells + 1) (slots + 6)) (hi : 0 ≤ i ∧ i + 5 ≤ (L : Int)) (hroom : cells + 1 ≤ 600000 ∧ slots + 6 ≤ 7000000) (hR : Rl P R) (hP : va_P D vwCl (lawW cy a a2 o fo P R) H) (hD : va_D (fun q : Nat => s.heap.size ≤ q) (lawW cy a a2 o fo P R)) (hS : va_S (fun q : Nat => s.heap.size ≤ q) s.heap H locs) (hl : lv_has ls 7 [(0, .ref b), (1, .ref (a 100)), (2, .ref (a2 0)), (3, .ref o), (4, .int (iI i))]) : W p l e room_1 s m #[Value.ref b] below meth c H locs cells slots Q (F0 m 560 ls []) := by
  obtain ⟨⟨hx, hb, hml, hown⟩, hts, ⟨hX, hbl, hL⟩, hGX, hst⟩ := id C
  have hGG := hGX.1.1
  have hKk := hGG.1
  have hA : ∀ q : Nat, s.heap.size ≤ q → (fun q : Nat => s.heap.size ≤ q) q := fun _ h => h
  have hI := hR.inv
  have hIr := hR.1.1
  have hag := hR.1.2
  obtain ⟨h12, h13⟩ := rl_12 hR
  have h8 : R 1 8 = P 8 8 := rl_st hR (by decide) (by decide)
  have hsc := hR.2.1.1.2
  have h50 := hR.2.1.1.1
  have hsv : 0 ≤ P 50 1 ∧ P 50 1 ≤ 4 := ⟨by omega, by omega⟩
  have hS0 := po_S hI
  have hl0 := hR.2.2.2.2.1
  have hl1 := hR.2.2.2.2.2
  have htl := hR.2.2.1.1.2
  have h10 := hR.2.2.1.1.1
  have hroom0 : cells ≤ 600000 ∧ slots ≤ 7000000 := ⟨by omega, by omega⟩
  obtain ⟨s9, e_s9, hrs9⟩ : ∃ z : Int, xs (i + 1).toNat = iI z ∧ -2147483648 ≤ z ∧ z ≤ 2147483647 := ⟨_, iI_of _, iI_rng _⟩
  have hmid : ∀ (k : Int) (a' : Nat → Nat) (f' : Nat → Int64) (P' : Nat → Int → Int) (H : Heap) (locs : List Loc) (cells' slots' : Nat), (0 ≤ k ∧ k ≤ 3) → a' 100 = a 100 → (∀ (r9 : Int) (R' : Nat → Int → Int), (((¬ (1 ≤ s9 ∧ s9 ≤ 512)) ∧ r9 = 0 ∧ R' = (upr R 0 (ups (R 0) 6 1))) ∨ (∃ (za : Int) (zb : Int) (zc : Int), (1 ≤ s9 ∧ s9 ≤ 512) ∧ r9 = (srch (R 1) s9).2 ∧ R' = (upr (upr (upr R 0 (ups (ups (ups (ups (ups (R 0) 6 0) 2 (kpN (R 0 2))) 7 za) 8 zb) 9 zc)) 1 ((srch (R 1) s9).1)) 2 (kpS (R 2) (R 1) (R 0 2))))) → (R' 0 6 = k ∧ (k = 0 → f' 0 = (iI r9).toInt64)) ∧ Rl P' R') → va_P D vwCl (lawW cy a' a2 o f' P' R) H → va_D (fun q : Nat => s.heap.size ≤ q) (lawW cy a' a2 o f' P' R) → va_S (fun q : Nat => s.heap.size ≤ q) s.heap H locs → (cells' ≤ cells + 1 ∧ slots' ≤ slots + 6) → W p l e room_1 s m #[Value.ref b] below meth c H locs cells' slots' Q (F0 m 571 ls [.int (iI k)]) := by
    intro k a' f' P' H locs cells' slots' hk3 ha hpost hP hD hS hcs
    have hroom9 : cells' ≤ 600000 ∧ slots' ≤ 7000000 := ⟨by omega, by omega⟩
    refine lv_istore (lv' := [(5, .int (iI k)), (0, .ref b), (1, .ref (a 100)), (2, .ref (a2 0)), (3, .ref o), (4, .int (iI i))]) hx hb dL_law_571 hl (by decide) rfl (fun ls hl => ?_)
    refine lv_aload_n hx hb dL_law_573 rfl (lv_at hl 3 rfl) ?_
    refine z_arg C hS dL_law_574 dL_law_575 dL_law_577 dL_law_578 dL_law_579 (k := 1) (by decide) hi (lv_at hl 1 rfl) (lv_at hl 5 rfl) e_s9 ?_
    refine zl_virt (As := [.int (iI s9)]) (rest := []) (pb_rf (cy := cy) (a := a') (a2 := a2) (o := o) (f := f') (P := P') (R := R)) ⟨hx, hb, hml, hown, hts⟩ (c_X7_search l D cy H.size a2 R s9 hIr hsc hrs9) gL_law_X7_search rfl ⟨rfl, rfl⟩ 1 rfl (by decide +kernel) ⟨Nat.le_of_ble_eq_true rfl, Nat.le_of_ble_eq_true rfl⟩ (GG_ok D cy) hGG hA hP hD hS (va_recv hKk (pb_rw hP) (ci := 6) (q0 := 0) rfl rfl) hl.1 rfl (Nat.le_of_ble_eq_true rfl) (rm_0 hroom9) dL_law_580 (fun r9 R' H locs hq hP hD hS => ?_)
    have hq := hpost r9 R' hq
    rw [← ha] at hl
    exact z_tail C K dL_law_583 dL_law_585 dL_law_586 dL_law_589 dL_law_591 dL_law_596 dL_law_598 dL_law_601 dL_law_602 dL_law_603 dL_law_604 dL_law_606 dL_law_607 dL_law_608 dL_law_613 (by decide) hq.1.1 hk3 hq.1.2 hq.2 hP hD hS hl hcs hroom9
  refine lv_aload_n hx hb dL_law_560 rfl (lv_at hl 1 rfl) ?_
  refine z_arg C hS dL_law_561 dL_law_562 dL_law_564 dL_law_565 dL_law_566 (k := 1) (by decide) hi (lv_at hl 0 rfl) (lv_at hl 4 rfl) e_s9 ?_
  refine lv_aload_n hx hb dL_law_567 rfl (lv_at hl 3 rfl) ?_
  by_cases hs9 : 1 ≤ s9 ∧ s9 ≤ 512
  · have hsr := srchA s9 hIr hag
    refine zl_stat (As := [.ref (a 100), .int (iI s9), .ref o]) (rest := []) (pb_hs (cy := cy) (a := a) (a2 := a2) (o := o) (f := fo) (P := P) (R := R)) ⟨hx, hb, hml, hown, hts⟩ (c_L_search l H.size o fo D cy a P s9 hI hsv hs9) gL_law_L_search rfl ⟨rfl, rfl⟩ 3 rfl (by decide +kernel) ⟨Nat.le_of_ble_eq_true rfl, Nat.le_of_ble_eq_true rfl⟩ (GG_ok D cy) hGG hA hP hD hS hl.1 rfl (Nat.le_of_ble_eq_true rfl) (rm_0 hroom0) dL_law_568 (fun r U9 H locs hpost hP hD hS => ?_)
    obtain ⟨hr0, v9, hv, hv2, ho⟩ := hpost
    rw [hr0]
    refine hmid 0 (pgm a U9.1.1) U9.2 (mixB inHs P U9.1.2) H locs _ _ (by decide) rfl (fun r9 R' hq => ?_) hP hD hS ⟨by omega, by omega⟩
    rw [mx_hs ho.2.2.1]
    rcases hq with ⟨c9, e9, rfl⟩ | ⟨z0, z1, z2, c9, e9, rfl⟩
    · exact absurd hs9 c9
    · exact ⟨⟨(ro_s R _ _ _ _).2, fun _ => ev9 hv (hv2.trans (by rw [e9, hsr.2]))⟩, rl_op hR ho (ro_s R _ _ _ _).1 (hsr.1.1) (hsr.1.2)⟩
  · skip
    refine zl_stat (As := [.ref (a 100), .int (iI s9), .ref o]) (rest := []) (pb_tp (cy := cy) (a := a) (a2 := a2) (o := o) (f := fo) (P := P) (R := R)) ⟨hx, hb, hml, hown, hts⟩ (c_L_search_t2 l hst H.size o D cy a P s9 hrs9 hs9) gL_law_L_search rfl ⟨rfl, rfl⟩ 3 rfl (by decide +kernel) ⟨Nat.le_of_ble_eq_true rfl, Nat.le_of_ble_eq_true rfl⟩ (GX_ok D cy) hGX hA hP hD hS hl.1 rfl (Nat.le_of_ble_eq_true rfl) (rm_1 hroom0) dL_law_568 (fun r U9 H locs hpost hP hD hS => ?_)
    have hr0 : r = 1 := hpost
    rw [hr0]
    refine hmid 1 a fo P H locs _ _ (by decide) rfl (fun r9 R' hq => ?_) hP hD hS ⟨by omega, by omega⟩
    rcases hq with ⟨c9, e9, rfl⟩ | ⟨z0, z1, z2, c9, e9, rfl⟩
    · exact ⟨⟨(rq_t R _).2, fun h => absurd h (by decide)⟩, rl_q hR (rq_t R _).1 (objq_rfl hR)⟩
    · exact absurd c9 hs9
set_option maxHeartbeats 4000000 in
set_option maxRecDepth 100000 in
theorem zc_addStar {p : Program} {l : Launch} {e : Env} {s : State} {m : MethodId} {below : List Frame} {meth : Method} {c : Code} {b L : Nat} {xs : Nat → Int32} {D : va_G} {cy : Nat → ClassId} {Q : State → Prop} {H : Heap} {locs : List Loc} {cells slots : Nat} {ls : Array Slot} {a a2 : Nat → Nat} {o : Nat} {fo : Nat → Int64} {P R : Nat → Int → Int} (C : zC p l s m c b L xs D cy) {i : Int} (K : zK p l e s m below meth c b D cy Q i (cells + 1) (slots + 6)) (hi : 0 ≤ i ∧ i + 5 ≤ (L : Int)) (hroom : cells + 1 ≤ 600000 ∧ slots + 6 ≤ 7000000) (hR : Rl P R) (hP : va_P D vwCl (lawW cy a a2 o fo P R) H) (hD : va_D (fun q : Nat => s.heap.size ≤ q) (lawW cy a a2 o fo P R)) (hS : va_S (fun q : Nat => s.heap.size ≤ q) s.heap H locs) (hl : lv_has ls 7 [(0, .ref b), (1, .ref (a 100)), (2, .ref (a2 0)), (3, .ref o), (4, .int (iI i))]) : W p l e room_1 s m #[Value.ref b] below meth c H locs cells slots Q (F0 m 616 ls []) := by
  obtain ⟨⟨hx, hb, hml, hown⟩, hts, ⟨hX, hbl, hL⟩, hGX, hst⟩ := id C
  have hGG := hGX.1.1
  have hKk := hGG.1
  have hA : ∀ q : Nat, s.heap.size ≤ q → (fun q : Nat => s.heap.size ≤ q) q := fun _ h => h
  have hI := hR.inv
  have hIr := hR.1.1
  have hag := hR.1.2
  obtain ⟨h12, h13⟩ := rl_12 hR
  have h8 : R 1 8 = P 8 8 := rl_st hR (by decide) (by decide)
  have hsc := hR.2.1.1.2
  have h50 := hR.2.1.1.1
  have hsv : 0 ≤ P 50 1 ∧ P 50 1 ≤ 4 := ⟨by omega, by omega⟩
  have hS0 := po_S hI
  have hl0 := hR.2.2.2.2.1
  have hl1 := hR.2.2.2.2.2
  have htl := hR.2.2.1.1.2
  have h10 := hR.2.2.1.1.1
  have hroom0 : cells ≤ 600000 ∧ slots ≤ 7000000 := ⟨by omega, by omega⟩
  obtain ⟨x, e_x, hrx⟩ : ∃ z : Int, xs (i + 1).toNat = iI z ∧ -2147483648 ≤ z ∧ z ≤ 2147483647 := ⟨_, iI_of _, iI_rng _⟩
  obtain ⟨y, e_y, hry⟩ : ∃ z : Int, xs (i + 2).toNat = iI z ∧ -2147483648 ≤ z ∧ z ≤ 2147483647 := ⟨_, iI_of _, iI_rng _⟩
  obtain ⟨z, e_z, hrz⟩ : ∃ z : Int, xs (i + 3).toNat = iI z ∧ -2147483648 ≤ z ∧ z ≤ 2147483647 := ⟨_, iI_of _, iI_rng _⟩
  have hmid : ∀ (k : Int) (a' : Nat → Nat) (f' : Nat → Int64) (P' : Nat → Int → Int) (H : Heap) (locs : List Loc) (cells' slots' : Nat), (0 ≤ k ∧ k ≤ 3) → a' 100 = a 100 → (∀ (r9 : Int) (R' : Nat → Int → Int), (((¬ starOK x y z) ∧ r9 = 0 ∧ R' = (upr R 0 (ups (R 0) 6 1))) ∨ ((starOK x y z ∧ R 1 13 = 12) ∧ r9 = 0 ∧ R' = (upr R 0 (ups (R 0) 6 2))) ∨ ((starOK x y z ∧ R 1 13 < 12) ∧ r9 = R 1 13 ∧ R' = (upr (upr (upr R 0 (ups (ups (R 0) 6 0) 2 (kpN (R 0 2)))) 1 (tAS (R 1) x y z)) 2 (kpS (R 2) (R 1) (R 0 2))))) → (R' 0 6 = k ∧ (k = 0 → f' 0 = (iI r9).toInt64)) ∧ Rl P' R') → va_P D vwCl (lawW cy a' a2 o f' P' R) H → va_D (fun q : Nat => s.heap.size ≤ q) (lawW cy a' a2 o f' P' R) → va_S (fun q : Nat => s.heap.size ≤ q) s.heap H locs → (cells' ≤ cells + 1 ∧ slots' ≤ slots + 6) → W p l e room_1 s m #[Value.ref b] below meth c H locs cells' slots' Q (F0 m 639 ls [.int (iI k)]) := by
    intro k a' f' P' H locs cells' slots' hk3 ha hpost hP hD hS hcs
    have hroom9 : cells' ≤ 600000 ∧ slots' ≤ 7000000 := ⟨by omega, by omega⟩
    refine lv_istore (lv' := [(5, .int (iI k)), (0, .ref b), (1, .ref (a 100)), (2, .ref (a2 0)), (3, .ref o), (4, .int (iI i))]) hx hb dL_law_639 hl (by decide) rfl (fun ls hl => ?_)
    refine lv_aload_n hx hb dL_law_641 rfl (lv_at hl 3 rfl) ?_
    refine z_arg C hS dL_law_642 dL_law_643 dL_law_645 dL_law_646 dL_law_647 (k := 1) (by decide) hi (lv_at hl 1 rfl) (lv_at hl 5 rfl) e_x ?_
    refine z_arg C hS dL_law_648 dL_law_649 dL_law_651 dL_law_652 dL_law_653 (k := 2) (by decide) hi (lv_at hl 1 rfl) (lv_at hl 5 rfl) e_y ?_
    refine z_arg C hS dL_law_654 dL_law_655 dL_law_657 dL_law_658 dL_law_659 (k := 3) (by decide) hi (lv_at hl 1 rfl) (lv_at hl 5 rfl) e_z ?_
    refine zl_virt (As := [.int (iI x), .int (iI y), .int (iI z)]) (rest := []) (pb_rf (cy := cy) (a := a') (a2 := a2) (o := o) (f := f') (P := P') (R := R)) ⟨hx, hb, hml, hown, hts⟩ (c_X7_addStar l D cy H.size a2 R x y z hIr hsc hrx hry hrz) gL_law_X7_addStar rfl ⟨rfl, rfl⟩ 3 rfl (by decide +kernel) ⟨Nat.le_of_ble_eq_true rfl, Nat.le_of_ble_eq_true rfl⟩ (GG_ok D cy) hGG hA hP hD hS (va_recv hKk (pb_rw hP) (ci := 6) (q0 := 0) rfl rfl) hl.1 rfl (Nat.le_of_ble_eq_true rfl) (rm_0 hroom9) dL_law_660 (fun r9 R' H locs hq hP hD hS => ?_)
    have hq := hpost r9 R' hq
    rw [← ha] at hl
    exact z_tail C K dL_law_663 dL_law_665 dL_law_666 dL_law_669 dL_law_671 dL_law_676 dL_law_678 dL_law_681 dL_law_682 dL_law_683 dL_law_684 dL_law_686 dL_law_687 dL_law_688 dL_law_693 (by decide) hq.1.1 hk3 hq.1.2 hq.2 hP hD hS hl hcs hroom9
  refine lv_aload_n hx hb dL_law_616 rfl (lv_at hl 1 rfl) ?_
  refine z_arg C hS dL_law_617 dL_law_618 dL_law_620 dL_law_621 dL_law_622 (k := 1) (by decide) hi (lv_at hl 0 rfl) (lv_at hl 4 rfl) e_x ?_
  refine z_arg C hS dL_law_623 dL_law_624 dL_law_626 dL_law_627 dL_law_628 (k := 2) (by decide) hi (lv_at hl 0 rfl) (lv_at hl 4 rfl) e_y ?_
  refine z_arg C hS dL_law_629 dL_law_630 dL_law_632 dL_law_633 dL_law_634 (k := 3) (by decide) hi (lv_at hl 0 rfl) (lv_at hl 4 rfl) e_z ?_
  refine lv_aload_n hx hb dL_law_635 rfl (lv_at hl 3 rfl) ?_
  by_cases hsk : starOK x y z
  · by_cases hno : P 0 1 = 12
    · skip
      refine zl_stat (As := [.ref (a 100), .int (iI x), .int (iI y), .int (iI z), .ref o]) (rest := []) (pb_tp (cy := cy) (a := a) (a2 := a2) (o := o) (f := fo) (P := P) (R := R)) ⟨hx, hb, hml, hown, hts⟩ (c_L_addStar_t3 l hst H.size o D cy a P x y z hI hrx hry hrz hsk hno) gL_law_L_addStar rfl ⟨rfl, rfl⟩ 5 rfl (by decide +kernel) ⟨Nat.le_of_ble_eq_true rfl, Nat.le_of_ble_eq_true rfl⟩ (GX_ok D cy) hGX hA hP hD hS hl.1 rfl (Nat.le_of_ble_eq_true rfl) (rm_1 hroom0) dL_law_636 (fun r U9 H locs hpost hP hD hS => ?_)
      have hr0 : r = 2 := hpost
      rw [hr0]
      refine hmid 2 a fo P H locs _ _ (by decide) rfl (fun r9 R' hq => ?_) hP hD hS ⟨by omega, by omega⟩
      rcases hq with ⟨c9, e9, rfl⟩ | ⟨c9, e9, rfl⟩ | ⟨c9, e9, rfl⟩
      · exact absurd hsk c9
      · exact ⟨⟨(rq_t R _).2, fun h => absurd h (by decide)⟩, rl_q hR (rq_t R _).1 (objq_rfl hR)⟩
      · exfalso
        have := c9.2
        omega
    · have hok : P 0 1 < 12 := by omega
      refine zl_stat (As := [.ref (a 100), .int (iI x), .int (iI y), .int (iI z), .ref o]) (rest := []) (pb_hs (cy := cy) (a := a) (a2 := a2) (o := o) (f := fo) (P := P) (R := R)) ⟨hx, hb, hml, hown, hts⟩ (c_L_addStar l H.size o fo D cy a P x y z hI hsv hrx hry hrz hsk hok) gL_law_L_addStar rfl ⟨rfl, rfl⟩ 5 rfl (by decide +kernel) ⟨Nat.le_of_ble_eq_true rfl, Nat.le_of_ble_eq_true rfl⟩ (GG_ok D cy) hGG hA hP hD hS hl.1 rfl (Nat.le_of_ble_eq_true rfl) (rm_0 hroom0) dL_law_636 (fun r U9 H locs hpost hP hD hS => ?_)
      obtain ⟨hr0, v9, hv, hv2, ho⟩ := hpost
      rw [hr0]
      refine hmid 0 (pgm a U9.1.1) U9.2 (mixB inHs P U9.1.2) H locs _ _ (by decide) rfl (fun r9 R' hq => ?_) hP hD hS ⟨by omega, by omega⟩
      rw [mx_hs ho.2.2.1]
      rcases hq with ⟨c9, e9, rfl⟩ | ⟨c9, e9, rfl⟩ | ⟨c9, e9, rfl⟩
      · exact absurd hsk c9
      · exfalso
        have := c9.2
        omega
      · exact ⟨⟨(ro_t R _).2, fun _ => ev9 hv (by omega)⟩, rl_op hR ho (ro_t R _).1 (as_ag hIr hag) (as_inv hIr hsk c9.2)⟩
  · skip
    refine zl_stat (As := [.ref (a 100), .int (iI x), .int (iI y), .int (iI z), .ref o]) (rest := []) (pb_tp (cy := cy) (a := a) (a2 := a2) (o := o) (f := fo) (P := P) (R := R)) ⟨hx, hb, hml, hown, hts⟩ (c_L_addStar_t2 l hst H.size o D cy a P x y z hI hrx hry hrz hsk) gL_law_L_addStar rfl ⟨rfl, rfl⟩ 5 rfl (by decide +kernel) ⟨Nat.le_of_ble_eq_true rfl, Nat.le_of_ble_eq_true rfl⟩ (GX_ok D cy) hGX hA hP hD hS hl.1 rfl (Nat.le_of_ble_eq_true rfl) (rm_1 hroom0) dL_law_636 (fun r U9 H locs hpost hP hD hS => ?_)
    have hr0 : r = 1 := hpost
    rw [hr0]
    refine hmid 1 a fo P H locs _ _ (by decide) rfl (fun r9 R' hq => ?_) hP hD hS ⟨by omega, by omega⟩
    rcases hq with ⟨c9, e9, rfl⟩ | ⟨c9, e9, rfl⟩ | ⟨c9, e9, rfl⟩
    · exact ⟨⟨(rq_t R _).2, fun h => absurd h (by decide)⟩, rl_q hR (rq_t R _).1 (objq_rfl hR)⟩
    · exact absurd c9.1 hsk
    · exact absurd c9.1 hsk
set_option maxHeartbeats 4000000 in
set_option maxRecDepth 100000 in
theorem zc_removeStar {p : Program} {l : Launch} {e : Env} {s : State} {m : MethodId} {below : List Frame} {meth : Method} {c : Code} {b L : Nat} {xs : Nat → Int32} {D : va_G} {cy : Nat → ClassId} {Q : State → Prop} {H : Heap} {locs : List Loc} {cells slots : Nat} {ls : Array Slot} {a a2 : Nat → Nat} {o : Nat} {fo : Nat → Int64} {P R : Nat → Int → Int} (C : zC p l s m c b L xs D cy) {i : Int} (K : zK p l e s m below meth c b D cy Q i (cells + 1) (slots + 6)) (hi : 0 ≤ i ∧ i + 5 ≤ (L : Int)) (hroom : cells + 1 ≤ 600000 ∧ slots + 6 ≤ 7000000) (hR : Rl P R) (hP : va_P D vwCl (lawW cy a a2 o fo P R) H) (hD : va_D (fun q : Nat => s.heap.size ≤ q) (lawW cy a a2 o fo P R)) (hS : va_S (fun q : Nat => s.heap.size ≤ q) s.heap H locs) (hl : lv_has ls 7 [(0, .ref b), (1, .ref (a 100)), (2, .ref (a2 0)), (3, .ref o), (4, .int (iI i))]) : W p l e room_1 s m #[Value.ref b] below meth c H locs cells slots Q (F0 m 696 ls []) := by
  obtain ⟨⟨hx, hb, hml, hown⟩, hts, ⟨hX, hbl, hL⟩, hGX, hst⟩ := id C
  have hGG := hGX.1.1
  have hKk := hGG.1
  have hA : ∀ q : Nat, s.heap.size ≤ q → (fun q : Nat => s.heap.size ≤ q) q := fun _ h => h
  have hI := hR.inv
  have hIr := hR.1.1
  have hag := hR.1.2
  obtain ⟨h12, h13⟩ := rl_12 hR
  have h8 : R 1 8 = P 8 8 := rl_st hR (by decide) (by decide)
  have hsc := hR.2.1.1.2
  have h50 := hR.2.1.1.1
  have hsv : 0 ≤ P 50 1 ∧ P 50 1 ≤ 4 := ⟨by omega, by omega⟩
  have hS0 := po_S hI
  have hl0 := hR.2.2.2.2.1
  have hl1 := hR.2.2.2.2.2
  have htl := hR.2.2.1.1.2
  have h10 := hR.2.2.1.1.1
  have hroom0 : cells ≤ 600000 ∧ slots ≤ 7000000 := ⟨by omega, by omega⟩
  obtain ⟨u, e_u, hru⟩ : ∃ z : Int, xs (i + 1).toNat = iI z ∧ -2147483648 ≤ z ∧ z ≤ 2147483647 := ⟨_, iI_of _, iI_rng _⟩
  have hmid : ∀ (k : Int) (a' : Nat → Nat) (f' : Nat → Int64) (P' : Nat → Int → Int) (H : Heap) (locs : List Loc) (cells' slots' : Nat), (0 ≤ k ∧ k ≤ 3) → a' 100 = a 100 → (∀ (r9 : Int) (R' : Nat → Int → Int), (((¬ (0 ≤ u ∧ u < R 1 13)) ∧ r9 = 0 ∧ R' = (upr R 0 (ups (R 0) 6 1))) ∨ ((0 ≤ u ∧ u < R 1 13) ∧ r9 = R 1 13 - 1 ∧ R' = (upr (upr (upr R 0 (ups (ups (R 0) 6 0) 2 (kpN (R 0 2)))) 1 (tRS (R 1) u)) 2 (kpS (R 2) (R 1) (R 0 2))))) → (R' 0 6 = k ∧ (k = 0 → f' 0 = (iI r9).toInt64)) ∧ Rl P' R') → va_P D vwCl (lawW cy a' a2 o f' P' R) H → va_D (fun q : Nat => s.heap.size ≤ q) (lawW cy a' a2 o f' P' R) → va_S (fun q : Nat => s.heap.size ≤ q) s.heap H locs → (cells' ≤ cells + 1 ∧ slots' ≤ slots + 6) → W p l e room_1 s m #[Value.ref b] below meth c H locs cells' slots' Q (F0 m 707 ls [.int (iI k)]) := by
    intro k a' f' P' H locs cells' slots' hk3 ha hpost hP hD hS hcs
    have hroom9 : cells' ≤ 600000 ∧ slots' ≤ 7000000 := ⟨by omega, by omega⟩
    refine lv_istore (lv' := [(5, .int (iI k)), (0, .ref b), (1, .ref (a 100)), (2, .ref (a2 0)), (3, .ref o), (4, .int (iI i))]) hx hb dL_law_707 hl (by decide) rfl (fun ls hl => ?_)
    refine lv_aload_n hx hb dL_law_709 rfl (lv_at hl 3 rfl) ?_
    refine z_arg C hS dL_law_710 dL_law_711 dL_law_713 dL_law_714 dL_law_715 (k := 1) (by decide) hi (lv_at hl 1 rfl) (lv_at hl 5 rfl) e_u ?_
    refine zl_virt (As := [.int (iI u)]) (rest := []) (pb_rf (cy := cy) (a := a') (a2 := a2) (o := o) (f := f') (P := P') (R := R)) ⟨hx, hb, hml, hown, hts⟩ (c_X7_removeStar l D cy H.size a2 R u hIr hsc hru) gL_law_X7_removeStar rfl ⟨rfl, rfl⟩ 1 rfl (by decide +kernel) ⟨Nat.le_of_ble_eq_true rfl, Nat.le_of_ble_eq_true rfl⟩ (GG_ok D cy) hGG hA hP hD hS (va_recv hKk (pb_rw hP) (ci := 6) (q0 := 0) rfl rfl) hl.1 rfl (Nat.le_of_ble_eq_true rfl) (rm_0 hroom9) dL_law_716 (fun r9 R' H locs hq hP hD hS => ?_)
    have hq := hpost r9 R' hq
    rw [← ha] at hl
    exact z_tail C K dL_law_719 dL_law_721 dL_law_722 dL_law_725 dL_law_727 dL_law_732 dL_law_734 dL_law_737 dL_law_738 dL_law_739 dL_law_740 dL_law_742 dL_law_743 dL_law_744 dL_law_749 (by decide) hq.1.1 hk3 hq.1.2 hq.2 hP hD hS hl hcs hroom9
  refine lv_aload_n hx hb dL_law_696 rfl (lv_at hl 1 rfl) ?_
  refine z_arg C hS dL_law_697 dL_law_698 dL_law_700 dL_law_701 dL_law_702 (k := 1) (by decide) hi (lv_at hl 0 rfl) (lv_at hl 4 rfl) e_u ?_
  refine lv_aload_n hx hb dL_law_703 rfl (lv_at hl 3 rfl) ?_
  by_cases c1 : 0 ≤ u ∧ u < P 0 1
  · obtain ⟨h0, h1⟩ := c1
    refine zl_stat (As := [.ref (a 100), .int (iI u), .ref o]) (rest := []) (pb_hs (cy := cy) (a := a) (a2 := a2) (o := o) (f := fo) (P := P) (R := R)) ⟨hx, hb, hml, hown, hts⟩ (c_L_removeStar l H.size o fo D cy a P u hI hsv h0 h1) gL_law_L_removeStar rfl ⟨rfl, rfl⟩ 3 rfl (by decide +kernel) ⟨Nat.le_of_ble_eq_true rfl, Nat.le_of_ble_eq_true rfl⟩ (GG_ok D cy) hGG hA hP hD hS hl.1 rfl (Nat.le_of_ble_eq_true rfl) (rm_0 hroom0) dL_law_704 (fun r U9 H locs hpost hP hD hS => ?_)
    obtain ⟨hr0, v9, hv, hv2, ho⟩ := hpost
    rw [hr0]
    refine hmid 0 (pgm a U9.1.1) U9.2 (mixB inHs P U9.1.2) H locs _ _ (by decide) rfl (fun r9 R' hq => ?_) hP hD hS ⟨by omega, by omega⟩
    rw [mx_hs ho.2.2.1]
    rcases hq with ⟨c9, e9, rfl⟩ | ⟨c9, e9, rfl⟩
    · exfalso
      omega
    · exact ⟨⟨(ro_t R _).2, fun _ => ev9 hv (by omega)⟩, rl_op hR ho (ro_t R _).1 (rs_ag hIr hag c9.1 c9.2) (rs_inv hIr c9.1 c9.2)⟩
  · skip
    refine zl_stat (As := [.ref (a 100), .int (iI u), .ref o]) (rest := []) (pb_tp (cy := cy) (a := a) (a2 := a2) (o := o) (f := fo) (P := P) (R := R)) ⟨hx, hb, hml, hown, hts⟩ (c_L_removeStar_t1 l hst H.size o D cy a P u hI hru c1) gL_law_L_removeStar rfl ⟨rfl, rfl⟩ 3 rfl (by decide +kernel) ⟨Nat.le_of_ble_eq_true rfl, Nat.le_of_ble_eq_true rfl⟩ (GX_ok D cy) hGX hA hP hD hS hl.1 rfl (Nat.le_of_ble_eq_true rfl) (rm_1 hroom0) dL_law_704 (fun r U9 H locs hpost hP hD hS => ?_)
    have hr0 : r = 1 := hpost
    rw [hr0]
    refine hmid 1 a fo P H locs _ _ (by decide) rfl (fun r9 R' hq => ?_) hP hD hS ⟨by omega, by omega⟩
    rcases hq with ⟨c9, e9, rfl⟩ | ⟨c9, e9, rfl⟩
    · exact ⟨⟨(rq_t R _).2, fun h => absurd h (by decide)⟩, rl_q hR (rq_t R _).1 (objq_rfl hR)⟩
    · exfalso
      omega
