/-! the law's calls that are never refused -/
set_option maxHeartbeats 4000000 in
set_option maxRecDepth 100000 in
theorem zc_meanRate {p : Program} {l : Launch} {e : Env} {s : State} {m : MethodId} {below : List Frame} {meth : Method} {c : Code} {b L : Nat} {xs : Nat → Int32} {D : va_G} {cy : Nat → ClassId} {Q : State → Prop} {H : Heap} {locs : List Loc} {cells slots : Nat} {ls : Array Slot} {a a2 : Nat → Nat} {o : Nat} {fo : Nat → Int64} {P R : Nat → Int → Int} (C : zC p l s m c b L xs D cy) {i : Int} (K : zK p l e s m below meth c b D cy Q i (cells + 1) (slots + 6)) (hi : 0 ≤ i ∧ i + 5 ≤ (L : Int)) (hroom : cells + 1 ≤ 600000 ∧ slots + 6 ≤ 7000000) (hR : Rl P R) (hP : va_P D vwCl (lawW cy a a2 o fo P R) H) (hD : va_D (fun q : Nat => s.heap.size ≤ q) (lawW cy a a2 o fo P R)) (hS : va_S (fun q : Nat => s.heap.size ≤ q) s.heap H locs) (hl : lv_has ls 7 [(0, .ref b), (1, .ref (a 100)), (2, .ref (a2 0)), (3, .ref o), (4, .int (iI i))]) : W p l e room_1 s m #[Value.ref b] below meth c H locs cells slots Q (F0 m 1340 ls []) := by
  obtain ⟨⟨hx, hb, hml, hown⟩, hts, ⟨hX, hbl, hL⟩, hGX, hst⟩ := id C
  have hGG := hGX.1.1
  have hKk := hGG.1
  have hA : ∀ q : Nat, s.heap.size ≤ q → (fun q : Nat => s.heap.size ≤ q) q := fun _ h => h
  have hI := hR.inv
  have hIr := hR.1.1
  have hag := hR.1.2
  obtain ⟨h12, h13⟩ := rl_12 hR
  have h8 : R 1 8 = P 8 8 := rl_st hR (by decide) (by decide)
  have hsc := hR.2.1.1.2
  have h50 := hR.2.1.1.1
  have hsv : 0 ≤ P 50 1 ∧ P 50 1 ≤ 4 := ⟨by omega, by omega⟩
  have hS0 := po_S hI
  have hl0 := hR.2.2.2.2.1
  have hl1 := hR.2.2.2.2.2
  have htl := hR.2.2.1.1.2
  have h10 := hR.2.2.1.1.1
  have hroom0 : cells ≤ 600000 ∧ slots ≤ 7000000 := ⟨by omega, by omega⟩
  have h100 := hR.2.2.2.1
  have htl9 : 0 ≤ P 10 0 ∧ P 10 0 ≤ 150 := ⟨by omega, by omega⟩
  have hst9 : 0 ≤ P 100 7 ∧ P 100 7 ≤ 3 := ⟨by omega, by omega⟩
  refine lv_aload_n hx hb dL_law_1340 rfl (lv_at hl 1 rfl) ?_
  refine zl_virt (As := []) (rest := []) (pb_lk0 (cy := cy) (a := a) (a2 := a2) (o := o) (f := fo) (P := P) (R := R)) ⟨hx, hb, hml, hown, hts⟩ (c_X6_meanRate l D cy H.size a P hI hl0 hl1) gL_law_X6_meanRate rfl ⟨rfl, rfl⟩ 0 rfl (by decide +kernel) ⟨Nat.le_of_ble_eq_true rfl, Nat.le_of_ble_eq_true rfl⟩ (GG_ok D cy) hGG hA hP hD hS (va_recv hKk (pb_ob hP) (ci := 5) (q0 := 0) rfl rfl) hl.1 rfl (Nat.le_of_ble_eq_true rfl) (rm_0 hroom0) dL_law_1341 (fun r U9 H locs hpost hP hD hS => ?_)
  refine W.cs (cells' := cells) (slots' := slots) rfl rfl ?_
  obtain ⟨zZ, hz, hv2, hu⟩ := hpost
  have hu : U9 = lkU P zZ := hu
  have hoq : objq P (lkU P zZ) := oq_lkU hz
  have hP : va_P D vwCl (lawW cy a a2 o fo (mixB inLk P U9) R) H := hP
  have hD : va_D (fun q : Nat => s.heap.size ≤ q) (lawW cy a a2 o fo (mixB inLk P U9) R) := hD
  rw [hu, mx_lkU_inLk] at hP hD
  refine lv_aload_n hx hb dL_law_1344 rfl (lv_at hl 2 rfl) ?_
  refine zl_virt (As := []) (rest := [.int (iI r)]) (pb_rf (cy := cy) (a := a) (a2 := a2) (o := o) (f := fo) (P := (lkU P zZ)) (R := R)) ⟨hx, hb, hml, hown, hts⟩ (c_X7_meanRate l D cy H.size a2 R hIr) gL_law_X7_meanRate rfl ⟨rfl, rfl⟩ 0 rfl (by decide +kernel) ⟨Nat.le_of_ble_eq_true rfl, Nat.le_of_ble_eq_true rfl⟩ (GG_ok D cy) hGG hA hP hD hS (va_recv hKk (pb_rw hP) (ci := 6) (q0 := 0) rfl rfl) hl.1 rfl (Nat.le_of_ble_eq_true rfl) (rm_0 hroom0) dL_law_1345 (fun r9 R' H locs hpost hP hD hS => ?_)
  refine W.cs (cells' := cells) (slots' := slots) rfl rfl ?_
  obtain ⟨e9, rfl⟩ := hpost
  have heq : r = r9 := hv2.trans (by rw [e9, mrtA hIr hag])
  refine lv_icmp_eq (tgt := 1588) hx hb dL_law_1348 (by decide) (fun _ => ?_) (fun h => absurd (by rw [heq]) h)
  exact W.widen (by omega) (by omega) (K a a2 o fo (lkU P zZ) _ H locs ls (rl_q hR (rq_t R _).1 hoq) hP hD hS hl)
set_option maxHeartbeats 4000000 in
set_option maxRecDepth 100000 in
theorem zc_meanScale {p : Program} {l : Launch} {e : Env} {s : State} {m : MethodId} {below : List Frame} {meth : Method} {c : Code} {b L : Nat} {xs : Nat → Int32} {D : va_G} {cy : Nat → ClassId} {Q : State → Prop} {H : Heap} {locs : List Loc} {cells slots : Nat} {ls : Array Slot} {a a2 : Nat → Nat} {o : Nat} {fo : Nat → Int64} {P R : Nat → Int → Int} (C : zC p l s m c b L xs D cy) {i : Int} (K : zK p l e s m below meth c b D cy Q i (cells + 1) (slots + 6)) (hi : 0 ≤ i ∧ i + 5 ≤ (L : Int)) (hroom : cells + 1 ≤ 600000 ∧ slots + 6 ≤ 7000000) (hR : Rl P R) (hP : va_P D vwCl (lawW cy a a2 o fo P R) H) (hD : va_D (fun q : Nat => s.heap.size ≤ q) (lawW cy a a2 o fo P R)) (hS : va_S (fun q : Nat => s.heap.size ≤ q) s.heap H locs) (hl : lv_has ls 7 [(0, .ref b), (1, .ref (a 100)), (2, .ref (a2 0)), (3, .ref o), (4, .int (iI i))]) : W p l e room_1 s m #[Value.ref b] below meth c H locs cells slots Q (F0 m 1353 ls []) := by
  obtain ⟨⟨hx, hb, hml, hown⟩, hts, ⟨hX, hbl, hL⟩, hGX, hst⟩ := id C
  have hGG := hGX.1.1
  have hKk := hGG.1
  have hA : ∀ q : Nat, s.heap.size ≤ q → (fun q : Nat => s.heap.size ≤ q) q := fun _ h => h
  have hI := hR.inv
  have hIr := hR.1.1
  have hag := hR.1.2
  obtain ⟨h12, h13⟩ := rl_12 hR
  have h8 : R 1 8 = P 8 8 := rl_st hR (by decide) (by decide)
  have hsc := hR.2.1.1.2
  have h50 := hR.2.1.1.1
  have hsv : 0 ≤ P 50 1 ∧ P 50 1 ≤ 4 := ⟨by omega, by omega⟩
  have hS0 := po_S hI
  have hl0 := hR.2.2.2.2.1
  have hl1 := hR.2.2.2.2.2
  have htl := hR.2.2.1.1.2
  have h10 := hR.2.2.1.1.1
  have hroom0 : cells ≤ 600000 ∧ slots ≤ 7000000 := ⟨by omega, by omega⟩
  have h100 := hR.2.2.2.1
  have htl9 : 0 ≤ P 10 0 ∧ P 10 0 ≤ 150 := ⟨by omega, by omega⟩
  have hst9 : 0 ≤ P 100 7 ∧ P 100 7 ≤ 3 := ⟨by omega, by omega⟩
  refine lv_aload_n hx hb dL_law_1353 rfl (lv_at hl 1 rfl) ?_
  refine zl_virt (As := []) (rest := []) (pb_lk0 (cy := cy) (a := a) (a2 := a2) (o := o) (f := fo) (P := P) (R := R)) ⟨hx, hb, hml, hown, hts⟩ (c_X6_meanScale l D cy H.size a P hI hl0 hl1) gL_law_X6_meanScale rfl ⟨rfl, rfl⟩ 0 rfl (by decide +kernel) ⟨Nat.le_of_ble_eq_true rfl, Nat.le_of_ble_eq_true rfl⟩ (GG_ok D cy) hGG hA hP hD hS (va_recv hKk (pb_ob hP) (ci := 5) (q0 := 0) rfl rfl) hl.1 rfl (Nat.le_of_ble_eq_true rfl) (rm_0 hroom0) dL_law_1354 (fun r U9 H locs hpost hP hD hS => ?_)
  refine W.cs (cells' := cells) (slots' := slots) rfl rfl ?_
  obtain ⟨zZ, hz, hv2, hu⟩ := hpost
  have hu : U9 = lkU P zZ := hu
  have hoq : objq P (lkU P zZ) := oq_lkU hz
  have hP : va_P D vwCl (lawW cy a a2 o fo (mixB inLk P U9) R) H := hP
  have hD : va_D (fun q : Nat => s.heap.size ≤ q) (lawW cy a a2 o fo (mixB inLk P U9) R) := hD
  rw [hu, mx_lkU_inLk] at hP hD
  refine lv_aload_n hx hb dL_law_1357 rfl (lv_at hl 2 rfl) ?_
  refine zl_virt (As := []) (rest := [.int (iI r)]) (pb_rf (cy := cy) (a := a) (a2 := a2) (o := o) (f := fo) (P := (lkU P zZ)) (R := R)) ⟨hx, hb, hml, hown, hts⟩ (c_X7_meanScale l D cy H.size a2 R hIr) gL_law_X7_meanScale rfl ⟨rfl, rfl⟩ 0 rfl (by decide +kernel) ⟨Nat.le_of_ble_eq_true rfl, Nat.le_of_ble_eq_true rfl⟩ (GG_ok D cy) hGG hA hP hD hS (va_recv hKk (pb_rw hP) (ci := 6) (q0 := 0) rfl rfl) hl.1 rfl (Nat.le_of_ble_eq_true rfl) (rm_0 hroom0) dL_law_1358 (fun r9 R' H locs hpost hP hD hS => ?_)
  refine W.cs (cells' := cells) (slots' := slots) rfl rfl ?_
  obtain ⟨z0, z1, z2, c9, e9, rfl⟩ := hpost
  have heq : r = r9 := hv2.trans (by rw [e9, mscA hIr hag])
  refine lv_icmp_eq (tgt := 1588) hx hb dL_law_1361 (by decide) (fun _ => ?_) (fun h => absurd (by rw [heq]) h)
  exact W.widen (by omega) (by omega) (K a a2 o fo (lkU P zZ) _ H locs ls (rl_q hR (rq_l R _ _ _ _ _).1 hoq) hP hD hS hl)
set_option maxHeartbeats 4000000 in
set_option maxRecDepth 100000 in
theorem zc_bestZero {p : Program} {l : Launch} {e : Env} {s : State} {m : MethodId} {below : List Frame} {meth : Method} {c : Code} {b L : Nat} {xs : Nat → Int32} {D : va_G} {cy : Nat → ClassId} {Q : State → Prop} {H : Heap} {locs : List Loc} {cells slots : Nat} {ls : Array Slot} {a a2 : Nat → Nat} {o : Nat} {fo : Nat → Int64} {P R : Nat → Int → Int} (C : zC p l s m c b L xs D cy) {i : Int} (K : zK p l e s m below meth c b D cy Q i (cells + 1) (slots + 6)) (hi : 0 ≤ i ∧ i + 5 ≤ (L : Int)) (hroom : cells + 1 ≤ 600000 ∧ slots + 6 ≤ 7000000) (hR : Rl P R) (hP : va_P D vwCl (lawW cy a a2 o fo P R) H) (hD : va_D (fun q : Nat => s.heap.size ≤ q) (lawW cy a a2 o fo P R)) (hS : va_S (fun q : Nat => s.heap.size ≤ q) s.heap H locs) (hl : lv_has ls 7 [(0, .ref b), (1, .ref (a 100)), (2, .ref (a2 0)), (3, .ref o), (4, .int (iI i))]) : W p l e room_1 s m #[Value.ref b] below meth c H locs cells slots Q (F0 m 1366 ls []) := by
  obtain ⟨⟨hx, hb, hml, hown⟩, hts, ⟨hX, hbl, hL⟩, hGX, hst⟩ := id C
  have hGG := hGX.1.1
  have hKk := hGG.1
  have hA : ∀ q : Nat, s.heap.size ≤ q → (fun q : Nat => s.heap.size ≤ q) q := fun _ h => h
  have hI := hR.inv
  have hIr := hR.1.1
  have hag := hR.1.2
  obtain ⟨h12, h13⟩ := rl_12 hR
  have h8 : R 1 8 = P 8 8 := rl_st hR (by decide) (by decide)
  have hsc := hR.2.1.1.2
  have h50 := hR.2.1.1.1
  have hsv : 0 ≤ P 50 1 ∧ P 50 1 ≤ 4 := ⟨by omega, by omega⟩
  have hS0 := po_S hI
  have hl0 := hR.2.2.2.2.1
  have hl1 := hR.2.2.2.2.2
  have htl := hR.2.2.1.1.2
  have h10 := hR.2.2.1.1.1
  have hroom0 : cells ≤ 600000 ∧ slots ≤ 7000000 := ⟨by omega, by omega⟩
  have h100 := hR.2.2.2.1
  have htl9 : 0 ≤ P 10 0 ∧ P 10 0 ≤ 150 := ⟨by omega, by omega⟩
  have hst9 : 0 ≤ P 100 7 ∧ P 100 7 ≤ 3 := ⟨by omega, by omega⟩
  refine lv_aload_n hx hb dL_law_1366 rfl (lv_at hl 1 rfl) ?_
  refine zl_virt (As := []) (rest := []) (pb_zz0 (cy := cy) (a := a) (a2 := a2) (o := o) (f := fo) (P := P) (R := R)) ⟨hx, hb, hml, hown, hts⟩ (c_X6_bestZero l D cy H.size a P hI hl0 hl1) gL_law_X6_bestZero rfl ⟨rfl, rfl⟩ 0 rfl (by decide +kernel) ⟨Nat.le_of_ble_eq_true rfl, Nat.le_of_ble_eq_true rfl⟩ (GG_ok D cy) hGG hA hP hD hS (va_recv hKk (pb_ob hP) (ci := 5) (q0 := 0) rfl rfl) hl.1 rfl (Nat.le_of_ble_eq_true rfl) (rm_0 hroom0) dL_law_1367 (fun r U9 H locs hpost hP hD hS => ?_)
  refine W.cs (cells' := cells) (slots' := slots) rfl rfl ?_
  obtain ⟨zZ, hz, hv2, hu⟩ := hpost
  have hu : U9 = lkV P zZ := hu
  have hoq : objq P (lkV P zZ) := oq_lkV hz
  have hP : va_P D vwCl (lawW cy a a2 o fo (mixB inZz P U9) R) H := hP
  have hD : va_D (fun q : Nat => s.heap.size ≤ q) (lawW cy a a2 o fo (mixB inZz P U9) R) := hD
  rw [hu, mx_lkV_inZz] at hP hD
  refine lv_aload_n hx hb dL_law_1370 rfl (lv_at hl 2 rfl) ?_
  refine zl_virt (As := []) (rest := [.int (iI r)]) (pb_rf (cy := cy) (a := a) (a2 := a2) (o := o) (f := fo) (P := (lkV P zZ)) (R := R)) ⟨hx, hb, hml, hown, hts⟩ (c_X7_bestZero l D cy H.size a2 R hIr) gL_law_X7_bestZero rfl ⟨rfl, rfl⟩ 0 rfl (by decide +kernel) ⟨Nat.le_of_ble_eq_true rfl, Nat.le_of_ble_eq_true rfl⟩ (GG_ok D cy) hGG hA hP hD hS (va_recv hKk (pb_rw hP) (ci := 6) (q0 := 0) rfl rfl) hl.1 rfl (Nat.le_of_ble_eq_true rfl) (rm_0 hroom0) dL_law_1371 (fun r9 R' H locs hpost hP hD hS => ?_)
  refine W.cs (cells' := cells) (slots' := slots) rfl rfl ?_
  obtain ⟨z0, z1, z2, z3, z4, c9, e9, rfl⟩ := hpost
  have heq : r = r9 := hv2.trans (by rw [e9, bzFA hIr hag])
  refine lv_icmp_eq (tgt := 1588) hx hb dL_law_1374 (by decide) (fun _ => ?_) (fun h => absurd (by rw [heq]) h)
  exact W.widen (by omega) (by omega) (K a a2 o fo (lkV P zZ) _ H locs ls (rl_q hR (rq_z R _ _ _ _ _).1 hoq) hP hD hS hl)
set_option maxHeartbeats 4000000 in
set_option maxRecDepth 100000 in
theorem zc_clearCommands {p : Program} {l : Launch} {e : Env} {s : State} {m : MethodId} {below : List Frame} {meth : Method} {c : Code} {b L : Nat} {xs : Nat → Int32} {D : va_G} {cy : Nat → ClassId} {Q : State → Prop} {H : Heap} {locs : List Loc} {cells slots : Nat} {ls : Array Slot} {a a2 : Nat → Nat} {o : Nat} {fo : Nat → Int64} {P R : Nat → Int → Int} (C : zC p l s m c b L xs D cy) {i : Int} (K : zK p l e s m below meth c b D cy Q i (cells + 1) (slots + 6)) (hi : 0 ≤ i ∧ i + 5 ≤ (L : Int)) (hroom : cells + 1 ≤ 600000 ∧ slots + 6 ≤ 7000000) (hR : Rl P R) (hP : va_P D vwCl (lawW cy a a2 o fo P R) H) (hD : va_D (fun q : Nat => s.heap.size ≤ q) (lawW cy a a2 o fo P R)) (hS : va_S (fun q : Nat => s.heap.size ≤ q) s.heap H locs) (hl : lv_has ls 7 [(0, .ref b), (1, .ref (a 100)), (2, .ref (a2 0)), (3, .ref o), (4, .int (iI i))]) : W p l e room_1 s m #[Value.ref b] below meth c H locs cells slots Q (F0 m 1491 ls []) := by
  obtain ⟨⟨hx, hb, hml, hown⟩, hts, ⟨hX, hbl, hL⟩, hGX, hst⟩ := id C
  have hGG := hGX.1.1
  have hKk := hGG.1
  have hA : ∀ q : Nat, s.heap.size ≤ q → (fun q : Nat => s.heap.size ≤ q) q := fun _ h => h
  have hI := hR.inv
  have hIr := hR.1.1
  have hag := hR.1.2
  obtain ⟨h12, h13⟩ := rl_12 hR
  have h8 : R 1 8 = P 8 8 := rl_st hR (by decide) (by decide)
  have hsc := hR.2.1.1.2
  have h50 := hR.2.1.1.1
  have hsv : 0 ≤ P 50 1 ∧ P 50 1 ≤ 4 := ⟨by omega, by omega⟩
  have hS0 := po_S hI
  have hl0 := hR.2.2.2.2.1
  have hl1 := hR.2.2.2.2.2
  have htl := hR.2.2.1.1.2
  have h10 := hR.2.2.1.1.1
  have hroom0 : cells ≤ 600000 ∧ slots ≤ 7000000 := ⟨by omega, by omega⟩
  have h100 := hR.2.2.2.1
  have htl9 : 0 ≤ P 10 0 ∧ P 10 0 ≤ 150 := ⟨by omega, by omega⟩
  have hst9 : 0 ≤ P 100 7 ∧ P 100 7 ≤ 3 := ⟨by omega, by omega⟩
  refine lv_aload_n hx hb dL_law_1491 rfl (lv_at hl 1 rfl) ?_
  refine zl_virt (As := []) (rest := []) (pb_sc0 (cy := cy) (a := a) (a2 := a2) (o := o) (f := fo) (P := P) (R := R)) ⟨hx, hb, hml, hown, hts⟩ (c_X6_clearCommands l D cy H.size a P) gL_law_X6_clearCommands rfl ⟨rfl, rfl⟩ 0 rfl (by decide +kernel) ⟨Nat.le_of_ble_eq_true rfl, Nat.le_of_ble_eq_true rfl⟩ (GG_ok D cy) hGG hA hP hD hS (va_recv hKk (pb_ob hP) (ci := 5) (q0 := 0) rfl rfl) hl.1 rfl (Nat.le_of_ble_eq_true rfl) (rm_0 hroom0) dL_law_1492 (fun r U9 H locs hpost hP hD hS => ?_)
  refine W.cs (cells' := cells) (slots' := slots) rfl rfl ?_
  obtain ⟨hv2, hu⟩ := hpost
  have hu : U9 = upr P 10 (ups (P 10) 0 0) := hu
  have hP : va_P D vwCl (lawW cy a a2 o fo (mixB inSc P U9) R) H := hP
  have hD : va_D (fun q : Nat => s.heap.size ≤ q) (lawW cy a a2 o fo (mixB inSc P U9) R) := hD
  rw [hu, mx_sc1] at hP hD
  refine lv_aload_n hx hb dL_law_1495 rfl (lv_at hl 2 rfl) ?_
  refine zl_virt (As := []) (rest := [.int (iI r)]) (pb_rf (cy := cy) (a := a) (a2 := a2) (o := o) (f := fo) (P := (upr P 10 (ups (P 10) 0 0))) (R := R)) ⟨hx, hb, hml, hown, hts⟩ (c_X7_clearCommands l D cy H.size a2 R ) gL_law_X7_clearCommands rfl ⟨rfl, rfl⟩ 0 rfl (by decide +kernel) ⟨Nat.le_of_ble_eq_true rfl, Nat.le_of_ble_eq_true rfl⟩ (GG_ok D cy) hGG hA hP hD hS (va_recv hKk (pb_rw hP) (ci := 6) (q0 := 0) rfl rfl) hl.1 rfl (Nat.le_of_ble_eq_true rfl) (rm_0 hroom0) dL_law_1496 (fun r9 R' H locs hpost hP hD hS => ?_)
  refine W.cs (cells' := cells) (slots' := slots) rfl rfl ?_
  obtain ⟨e9, rfl⟩ := hpost
  have heq : r = r9 := by
    have hv2 : r = P 10 0 := hv2
    omega
  have hrl : Rl (upr P 10 (ups (P 10) 0 0)) (upr R 0 (ups (ups (R 0) 6 0) 4 0)) := by
    refine rl_clear hR ⟨rfl, rfl, rfl, ?_, ?_⟩ ?_ rfl
    · show ups (ups (R 0) 6 0) 4 0 2 = R 0 2
      simp [ups]
    · show ups (ups (R 0) 6 0) 4 0 5 = R 0 5
      simp [ups]
    · show ups (ups (R 0) 6 0) 4 0 4 = 0
      simp [ups]
  refine lv_icmp_eq (tgt := 1588) hx hb dL_law_1499 (by decide) (fun _ => ?_) (fun h => absurd (by rw [heq]) h)
  exact W.widen (by omega) (by omega) (K a a2 o fo (upr P 10 (ups (P 10) 0 0)) _ H locs ls (hrl) hP hD hS hl)
set_option maxHeartbeats 4000000 in
set_option maxRecDepth 100000 in
theorem zc_stop {p : Program} {l : Launch} {e : Env} {s : State} {m : MethodId} {below : List Frame} {meth : Method} {c : Code} {b L : Nat} {xs : Nat → Int32} {D : va_G} {cy : Nat → ClassId} {Q : State → Prop} {H : Heap} {locs : List Loc} {cells slots : Nat} {ls : Array Slot} {a a2 : Nat → Nat} {o : Nat} {fo : Nat → Int64} {P R : Nat → Int → Int} (C : zC p l s m c b L xs D cy) {i : Int} (K : zK p l e s m below meth c b D cy Q i (cells + 1) (slots + 6)) (hi : 0 ≤ i ∧ i + 5 ≤ (L : Int)) (hroom : cells + 1 ≤ 600000 ∧ slots + 6 ≤ 7000000) (hR : Rl P R) (hP : va_P D vwCl (lawW cy a a2 o fo P R) H) (hD : va_D (fun q : Nat => s.heap.size ≤ q) (lawW cy a a2 o fo P R)) (hS : va_S (fun q : Nat => s.heap.size ≤ q) s.heap H locs) (hl : lv_has ls 7 [(0, .ref b), (1, .ref (a 100)), (2, .ref (a2 0)), (3, .ref o), (4, .int (iI i))]) : W p l e room_1 s m #[Value.ref b] below meth c H locs cells slots Q (F0 m 1517 ls []) := by
  obtain ⟨⟨hx, hb, hml, hown⟩, hts, ⟨hX, hbl, hL⟩, hGX, hst⟩ := id C
  have hGG := hGX.1.1
  have hKk := hGG.1
  have hA : ∀ q : Nat, s.heap.size ≤ q → (fun q : Nat => s.heap.size ≤ q) q := fun _ h => h
  have hI := hR.inv
  have hIr := hR.1.1
  have hag := hR.1.2
  obtain ⟨h12, h13⟩ := rl_12 hR
  have h8 : R 1 8 = P 8 8 := rl_st hR (by decide) (by decide)
  have hsc := hR.2.1.1.2
  have h50 := hR.2.1.1.1
  have hsv : 0 ≤ P 50 1 ∧ P 50 1 ≤ 4 := ⟨by omega, by omega⟩
  have hS0 := po_S hI
  have hl0 := hR.2.2.2.2.1
  have hl1 := hR.2.2.2.2.2
  have htl := hR.2.2.1.1.2
  have h10 := hR.2.2.1.1.1
  have hroom0 : cells ≤ 600000 ∧ slots ≤ 7000000 := ⟨by omega, by omega⟩
  have h100 := hR.2.2.2.1
  have htl9 : 0 ≤ P 10 0 ∧ P 10 0 ≤ 150 := ⟨by omega, by omega⟩
  have hst9 : 0 ≤ P 100 7 ∧ P 100 7 ≤ 3 := ⟨by omega, by omega⟩
  refine lv_aload_n hx hb dL_law_1517 rfl (lv_at hl 1 rfl) ?_
  refine k_roV (As := []) (rest := []) ⟨hx, hb, hml, hown, hts⟩ (c_X6_stop l D cy a P) gL_law_X6_stop rfl ⟨rfl, rfl⟩ 0 rfl (by decide +kernel) ⟨Nat.le_of_ble_eq_true rfl, Nat.le_of_ble_eq_true rfl⟩ (GG_ok D cy) ((GG_ok D cy).2.2.2 _ _ _ _ (fun _ h => h.elim) ((GG_ok D cy).1 _ _ _ _ hS.2.1 hGG)) (pb_ob hP) (va_recv hKk (pb_ob hP) (ci := 5) (q0 := 0) rfl rfl) hl.1 rfl (Nat.le_of_ble_eq_true rfl) (rm_r hroom0) dL_law_1518 (fun r hv2 => ?_)
  refine lv_aload_n hx hb dL_law_1521 rfl (lv_at hl 2 rfl) ?_
  refine zl_virt (As := []) (rest := [.int (iI r)]) (pb_rf (cy := cy) (a := a) (a2 := a2) (o := o) (f := fo) (P := P) (R := R)) ⟨hx, hb, hml, hown, hts⟩ (c_X7_stop l D cy H.size a2 R ) gL_law_X7_stop rfl ⟨rfl, rfl⟩ 0 rfl (by decide +kernel) ⟨Nat.le_of_ble_eq_true rfl, Nat.le_of_ble_eq_true rfl⟩ (GG_ok D cy) hGG hA hP hD hS (va_recv hKk (pb_rw hP) (ci := 6) (q0 := 0) rfl rfl) hl.1 rfl (Nat.le_of_ble_eq_true rfl) (rm_0 hroom0) dL_law_1522 (fun r9 R' H locs hpost hP hD hS => ?_)
  refine W.cs (cells' := cells) (slots' := slots) rfl rfl ?_
  obtain ⟨e9, rfl⟩ := hpost
  have heq : r = r9 := by
    have hv2 : r = P 100 7 := hv2
    omega
  refine lv_icmp_eq (tgt := 1588) hx hb dL_law_1525 (by decide) (fun _ => ?_) (fun h => absurd (by rw [heq]) h)
  exact W.widen (by omega) (by omega) (K a a2 o fo P _ H locs ls (rl_q hR (rq_t R _).1 (objq_rfl hR)) hP hD hS hl)
