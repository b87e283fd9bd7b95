/-! the law's calls that are never refused -/
set_option maxHeartbeats 4000000 in
set_option maxRecDepth 100000 in
theorem zc_runCommands {p : Program} {l : Launch} {e : Env} {s : State} {m : MethodId} {below : List Frame} {meth : Method} {c : Code} {b L : Nat} {xs : Nat → Int32} {D : va_G} {cy : Nat → ClassId} {Q : State → Prop} {H : Heap} {locs : List Loc} {cells slots : Nat} {ls : Array Slot} {a a2 : Nat → Nat} {o : Nat} {fo : Nat → Int64} {P R : Nat → Int → Int} (C : zC p l s m c b L xs D cy) {i : Int} (K : zK p l e s m below meth c b D cy Q i (cells + 1) (slots + 6)) (hi : 0 ≤ i ∧ i + 5 ≤ (L : Int)) (hroom : cells + 1 ≤ 600000 ∧ slots + 6 ≤ 7000000) (hR : Rl P R) (hP : va_P D vwCl (lawW cy a a2 o fo P R) H) (hD : va_D (fun q : Nat => s.heap.size ≤ q) (lawW cy a a2 o fo P R)) (hS : va_S (fun q : Nat => s.heap.size ≤ q) s.heap H locs) (hl : lv_has ls 7 [(0, .ref b), (1, .ref (a 100)), (2, .ref (a2 0)), (3, .ref o), (4, .int (iI i))]) : W p l e room_1 s m #[Value.ref b] below meth c H locs cells slots Q (F0 m 1504 ls []) := by
  obtain ⟨⟨hx, hb, hml, hown⟩, hts, ⟨hX, hbl, hL⟩, hGX, hst⟩ := id C
  have hGG := hGX.1.1
  have hKk := hGG.1
  have hA : ∀ q : Nat, s.heap.size ≤ q → (fun q : Nat => s.heap.size ≤ q) q := fun _ h => h
  have hI := hR.inv
  have hIr := hR.1.1
  have hag := hR.1.2
  obtain ⟨h12, h13⟩ := rl_12 hR
  have h8 : R 1 8 = P 8 8 := rl_st hR (by decide) (by decide)
  have hsc := hR.2.1.1.2
  have h50 := hR.2.1.1.1
  have hsv : 0 ≤ P 50 1 ∧ P 50 1 ≤ 4 := ⟨by omega, by omega⟩
  have hS0 := po_S hI
  have hl0 := hR.2.2.2.2.1
  have hl1 := hR.2.2.2.2.2
  have htl := hR.2.2.1.1.2
  have h10 := hR.2.2.1.1.1
  have hroom0 : cells ≤ 600000 ∧ slots ≤ 7000000 := ⟨by omega, by omega⟩
  have h100 := hR.2.2.2.1
  have htl9 : 0 ≤ P 10 0 ∧ P 10 0 ≤ 150 := ⟨by omega, by omega⟩
  have hst9 : 0 ≤ P 100 7 ∧ P 100 7 ≤ 3 := ⟨by omega, by omega⟩
  refine lv_aload_n hx hb dL_law_1504 rfl (lv_at hl 1 rfl) ?_
  have h11 := hR.2.2.1.2.1
  have h3k := hR.2.2.1.2.2.1
  have hnn := hR.2.2.1.2.2.2.1
  have hnm := hR.2.2.1.2.2.2.2
  have h11k : ∀ k : Int, 0 ≤ k → k < 150 → 0 ≤ P 11 k ∧ P 11 k ≤ 127 := by
    rw [h11]
    exact h3k
  refine zl_virt (As := []) (rest := []) (pb_rn0 (cy := cy) (a := a) (a2 := a2) (o := o) (f := fo) (P := P) (R := R)) ⟨hx, hb, hml, hown, hts⟩ (c_X6_runCommands l D cy H.size a P hI hsv htl9 h11k hnn) gL_law_X6_runCommands rfl ⟨rfl, rfl⟩ 0 rfl (by decide +kernel) ⟨Nat.le_of_ble_eq_true rfl, Nat.le_of_ble_eq_true rfl⟩ (GS_ok D cy) hGX.1 hA hP hD hS (va_recv hKk (pb_ob hP) (ci := 5) (q0 := 0) rfl rfl) hl.1 rfl (Nat.le_of_ble_eq_true rfl) (rm_0 hroom0) dL_law_1505 (fun r U9 H locs hpost hP hD hS => ?_)
  refine W.cs (cells' := cells) (slots' := slots) rfl rfl ?_
  have hrc : rcP P U9.2 r := hpost
  have hP : va_P D vwCl (lawW cy (pgm a U9.1) a2 o fo (mixB inRn P U9.2) R) H := hP
  have hD : va_D (fun q : Nat => s.heap.size ≤ q) (lawW cy (pgm a U9.1) a2 o fo (mixB inRn P U9.2) R) := hD
  rw [mx_rn hrc.1.1] at hP hD
  refine lv_aload_n hx hb dL_law_1508 rfl (lv_at hl 2 rfl) ?_
  refine zl_virt (As := []) (rest := [.int (iI r)]) (pb_rf (cy := cy) (a := (pgm a U9.1)) (a2 := a2) (o := o) (f := fo) (P := U9.2) (R := R)) ⟨hx, hb, hml, hown, hts⟩ (c_X7_runCommands l D cy H.size a2 R hIr hsc htl.1 htl.2 h3k hnm) gL_law_X7_runCommands rfl ⟨rfl, rfl⟩ 0 rfl (by decide +kernel) ⟨Nat.le_of_ble_eq_true rfl, Nat.le_of_ble_eq_true rfl⟩ (GG_ok D cy) hGG hA hP hD hS (va_recv hKk (pb_rw hP) (ci := 6) (q0 := 0) rfl rfl) hl.1 rfl (Nat.le_of_ble_eq_true rfl) (rm_0 hroom0) dL_law_1509 (fun r9 R' H locs hpost hP hD hS => ?_)
  refine W.cs (cells' := cells) (slots' := slots) rfl rfl ?_
  have hrr : refr R R' r9 := by
    rcases hpost with ⟨zc, zb, zx, ⟨hb1, hp1⟩, e9, rfl⟩ | ⟨A0, zb, zm, zn, z5, zc, zq, z7, z8, z9, ⟨⟨zx, hp1⟩, hA0, hzb, hrf⟩, e9, rfl⟩
    · refine Or.inl ⟨zx, hp1, e9, ⟨rfl, rfl, rfl, hb1⟩, ?_, ?_, ?_⟩
      · show ups (ups (ups (R 0) 6 0) 16 zc) 15 zx 2 = R 0 2
        simp [ups]
      · show ups (ups (ups (R 0) 6 0) 16 zc) 15 zx 4 = R 0 4
        simp [ups]
      · show ups (ups (ups (R 0) 6 0) 16 zc) 15 zx 5 = R 0 5
        simp [ups]
    · refine Or.inr ⟨A0, zx, hp1, ?_, ⟨?_, rfl, rfl, hzb⟩, ?_, ?_, ?_⟩
      · rw [hrf]
        exact e9
      · rw [hrf]
        rfl
      · show ups (ups (ups (ups (ups (ups (ups (ups (R 0) 6 0) 2 (kpN (R 0 2))) 5 z5) 16 zc) 15 zq) 7 z7) 8 z8) 9 z9 2 = kpN (R 0 2)
        simp [ups]
      · show ups (ups (ups (ups (ups (ups (ups (ups (R 0) 6 0) 2 (kpN (R 0 2))) 5 z5) 16 zc) 15 zq) 7 z7) 8 z8) 9 z9 4 = R 0 4
        simp [ups]
      · rw [hrf]
        show ups (ups (ups (ups (ups (ups (ups (ups (R 0) 6 0) 2 (kpN (R 0 2))) 5 z5) 16 zc) 15 zq) 7 z7) 8 z8) 9 z9 5 = z5
        simp [ups]
  obtain ⟨hrl, heq⟩ := rl_run hR hrc hrr
  refine lv_icmp_eq (tgt := 1588) hx hb dL_law_1512 (by decide) (fun _ => ?_) (fun h => absurd (by rw [heq]) h)
  exact W.widen (by omega) (by omega) (K (pgm a U9.1) a2 o fo U9.2 _ H locs ls (hrl) hP hD hS hl)
set_option maxHeartbeats 4000000 in
set_option maxRecDepth 100000 in
theorem zc_digest {p : Program} {l : Launch} {e : Env} {s : State} {m : MethodId} {below : List Frame} {meth : Method} {c : Code} {b L : Nat} {xs : Nat → Int32} {D : va_G} {cy : Nat → ClassId} {Q : State → Prop} {H : Heap} {locs : List Loc} {cells slots : Nat} {ls : Array Slot} {a a2 : Nat → Nat} {o : Nat} {fo : Nat → Int64} {P R : Nat → Int → Int} (C : zC p l s m c b L xs D cy) {i : Int} (K : zK p l e s m below meth c b D cy Q i (cells + 1) (slots + 6)) (hi : 0 ≤ i ∧ i + 5 ≤ (L : Int)) (hroom : cells + 1 ≤ 600000 ∧ slots + 6 ≤ 7000000) (hR : Rl P R) (hP : va_P D vwCl (lawW cy a a2 o fo P R) H) (hD : va_D (fun q : Nat => s.heap.size ≤ q) (lawW cy a a2 o fo P R)) (hS : va_S (fun q : Nat => s.heap.size ≤ q) s.heap H locs) (hl : lv_has ls 7 [(0, .ref b), (1, .ref (a 100)), (2, .ref (a2 0)), (3, .ref o), (4, .int (iI i))]) : W p l e room_1 s m #[Value.ref b] below meth c H locs cells slots Q (F0 m 1574 ls []) := by
  obtain ⟨⟨hx, hb, hml, hown⟩, hts, ⟨hX, hbl, hL⟩, hGX, hst⟩ := id C
  have hGG := hGX.1.1
  have hKk := hGG.1
  have hA : ∀ q : Nat, s.heap.size ≤ q → (fun q : Nat => s.heap.size ≤ q) q := fun _ h => h
  have hI := hR.inv
  have hIr := hR.1.1
  have hag := hR.1.2
  obtain ⟨h12, h13⟩ := rl_12 hR
  have h8 : R 1 8 = P 8 8 := rl_st hR (by decide) (by decide)
  have hsc := hR.2.1.1.2
  have h50 := hR.2.1.1.1
  have hsv : 0 ≤ P 50 1 ∧ P 50 1 ≤ 4 := ⟨by omega, by omega⟩
  have hS0 := po_S hI
  have hl0 := hR.2.2.2.2.1
  have hl1 := hR.2.2.2.2.2
  have htl := hR.2.2.1.1.2
  have h10 := hR.2.2.1.1.1
  have hroom0 : cells ≤ 600000 ∧ slots ≤ 7000000 := ⟨by omega, by omega⟩
  have h100 := hR.2.2.2.1
  have htl9 : 0 ≤ P 10 0 ∧ P 10 0 ≤ 150 := ⟨by omega, by omega⟩
  have hst9 : 0 ≤ P 100 7 ∧ P 100 7 ≤ 3 := ⟨by omega, by omega⟩
  refine lv_aload_n hx hb dL_law_1574 rfl (lv_at hl 1 rfl) ?_
  refine zl_virl (As := []) (rest := []) (pb_dg0 (cy := cy) (a := a) (a2 := a2) (o := o) (f := fo) (P := P) (R := R)) ⟨hx, hb, hml, hown, hts⟩ (c_X6_digest l D cy H.size a P hI hl0 hl1 hsv htl9 hst9) gL_law_X6_digest rfl ⟨rfl, rfl⟩ 0 rfl (by decide +kernel) ⟨Nat.le_of_ble_eq_true rfl, Nat.le_of_ble_eq_true rfl⟩ (GG_ok D cy) hGG hA hP hD hS (va_recv hKk (pb_ob hP) (ci := 5) (q0 := 0) rfl rfl) hl.1 rfl (Nat.le_of_ble_eq_true rfl) (rm_0 hroom0) dL_law_1575 (fun r U9 H locs hpost hP hD hS => ?_)
  refine W.cs (cells' := cells) (slots' := slots) rfl rfl ?_
  obtain ⟨zZ, hz, hv2, hu⟩ := hpost
  have hu : U9 = lkU P zZ := hu
  have hoq : objq P (lkU P zZ) := oq_lkU hz
  have hP : va_P D vwCl (lawW cy a a2 o fo (mixB inDg P U9) R) H := hP
  have hD : va_D (fun q : Nat => s.heap.size ≤ q) (lawW cy a a2 o fo (mixB inDg P U9) R) := hD
  rw [hu, mx_lkU_inDg] at hP hD
  refine lv_aload_n hx hb dL_law_1578 rfl (lv_at hl 2 rfl) ?_
  refine zl_virl (As := []) (rest := [.long (lI r)]) (pb_rf (cy := cy) (a := a) (a2 := a2) (o := o) (f := fo) (P := (lkU P zZ)) (R := R)) ⟨hx, hb, hml, hown, hts⟩ (c_X7_digest l D cy H.size a2 R hIr hsc htl h100.2) gL_law_X7_digest rfl ⟨rfl, rfl⟩ 0 rfl (by decide +kernel) ⟨Nat.le_of_ble_eq_true rfl, Nat.le_of_ble_eq_true rfl⟩ (GG_ok D cy) hGG hA hP hD hS (va_recv hKk (pb_rw hP) (ci := 6) (q0 := 0) rfl rfl) hl.1 rfl (Nat.le_of_ble_eq_true rfl) (rm_0 hroom0) dL_law_1579 (fun r9 R' H locs hpost hP hD hS => ?_)
  refine W.cs (cells' := cells) (slots' := slots) rfl rfl ?_
  obtain ⟨z0, z1, z2, z3, e9, rfl⟩ := hpost
  have heq : r = r9 := hv2.trans (by rw [e9, dgA _ _ _ hIr hag, h50, h10, h100.1])
  rw [heq]
  refine W.lcmp hx hb dL_law_1582 ?_
  rw [cmp_self]
  refine lv_if_eq (tgt := 1588) hx hb dL_law_1583 (by decide) (fun _ => ?_) (fun h => absurd rfl h)
  exact W.widen (by omega) (by omega) (K a a2 o fo (lkU P zZ) _ H locs ls (rl_q hR (rq_d R _ _ _ _ _ _).1 hoq) hP hD hS hl)
