/-! the law's calls -/
set_option maxHeartbeats 4000000 in
set_option maxRecDepth 100000 in
theorem zc_cost {p : Program} {l : Launch} {e : Env} {s : State} {m : MethodId} {below : List Frame} {meth : Method} {c : Code} {b L : Nat} {xs : Nat → Int32} {D : va_G} {cy : Nat → ClassId} {Q : State → Prop} {H : Heap} {locs : List Loc} {cells slots : Nat} {ls : Array Slot} {a a2 : Nat → Nat} {o : Nat} {fo : Nat → Int64} {P R : Nat → Int → Int} (C : zC p l s m c b L xs D cy) {i : Int} (K : zK p l e s m below meth c b D cy Q i (cells + 1) (slots + 6)) (hi : 0 ≤ i ∧ i + 5 ≤ (L : Int)) (hroom : cells + 1 ≤ 600000 ∧ slots + 6 ≤ 7000000) (hR : Rl P R) (hP : va_P D vwCl (lawW cy a a2 o fo P R) H) (hD : va_D (fun q : Nat => s.heap.size ≤ q) (lawW cy a a2 o fo P R)) (hS : va_S (fun q : Nat => s.heap.size ≤ q) s.heap H locs) (hl : lv_has ls 7 [(0, .ref b), (1, .ref (a 100)), (2, .ref (a2 0)), (3, .ref o), (4, .int (iI i))]) : W p l e room_1 s m #[Value.ref b] below meth c H locs cells slots Q (F0 m 1036 ls []) := by
  obtain ⟨⟨hx, hb, hml, hown⟩, hts, ⟨hX, hbl, hL⟩, hGX, hst⟩ := id C
  have hGG := hGX.1.1
  have hKk := hGG.1
  have hA : ∀ q : Nat, s.heap.size ≤ q → (fun q : Nat => s.heap.size ≤ q) q := fun _ h => h
  have hI := hR.inv
  have hIr := hR.1.1
  have hag := hR.1.2
  obtain ⟨h12, h13⟩ := rl_12 hR
  have h8 : R 1 8 = P 8 8 := rl_st hR (by decide) (by decide)
  have hsc := hR.2.1.1.2
  have h50 := hR.2.1.1.1
  have hsv : 0 ≤ P 50 1 ∧ P 50 1 ≤ 4 := ⟨by omega, by omega⟩
  have hS0 := po_S hI
  have hl0 := hR.2.2.2.2.1
  have hl1 := hR.2.2.2.2.2
  have htl := hR.2.2.1.1.2
  have h10 := hR.2.2.1.1.1
  have hroom0 : cells ≤ 600000 ∧ slots ≤ 7000000 := ⟨by omega, by omega⟩
  obtain ⟨t, e_t, hrt⟩ : ∃ z : Int, xs (i + 1).toNat = iI z ∧ -2147483648 ≤ z ∧ z ≤ 2147483647 := ⟨_, iI_of _, iI_rng _⟩
  obtain ⟨u, e_u, hru⟩ : ∃ z : Int, xs (i + 2).toNat = iI z ∧ -2147483648 ≤ z ∧ z ≤ 2147483647 := ⟨_, iI_of _, iI_rng _⟩
  have hmid : ∀ (k : Int) (a' : Nat → Nat) (f' : Nat → Int64) (P' : Nat → Int → Int) (H : Heap) (locs : List Loc) (cells' slots' : Nat), (0 ≤ k ∧ k ≤ 3) → a' 100 = a 100 → (∀ (r9 : Int) (R' : Nat → Int → Int), (((¬ ((0 ≤ t ∧ t < R 1 12) ∧ 0 ≤ u ∧ u < R 1 13)) ∧ r9 = 0 ∧ R' = (upr R 0 (ups (R 0) 6 1))) ∨ ((((0 ≤ t ∧ t < R 1 12) ∧ 0 ≤ u ∧ u < R 1 13) ∧ pts (R 1) t = 0) ∧ r9 = -1000000000 ∧ R' = (upr R 0 (ups (R 0) 6 0))) ∨ ((((0 ≤ t ∧ t < R 1 12) ∧ 0 ≤ u ∧ u < R 1 13) ∧ 0 < pts (R 1) t) ∧ r9 = cstZ (R 1) (R 1 8) t u ∧ R' = (upr R 0 (ups (R 0) 6 0)))) → (R' 0 6 = k ∧ (k = 0 → f' 0 = (iI r9).toInt64)) ∧ Rl P' R') → va_P D vwCl (lawW cy a' a2 o f' P' R) H → va_D (fun q : Nat => s.heap.size ≤ q) (lawW cy a' a2 o f' P' R) → va_S (fun q : Nat => s.heap.size ≤ q) s.heap H locs → (cells' ≤ cells + 1 ∧ slots' ≤ slots + 6) → W p l e room_1 s m #[Value.ref b] below meth c H locs cells' slots' Q (F0 m 1053 ls [.int (iI k)]) := by
    intro k a' f' P' H locs cells' slots' hk3 ha hpost hP hD hS hcs
    have hroom9 : cells' ≤ 600000 ∧ slots' ≤ 7000000 := ⟨by omega, by omega⟩
    refine lv_istore (lv' := [(5, .int (iI k)), (0, .ref b), (1, .ref (a 100)), (2, .ref (a2 0)), (3, .ref o), (4, .int (iI i))]) hx hb dL_law_1053 hl (by decide) rfl (fun ls hl => ?_)
    refine lv_aload_n hx hb dL_law_1055 rfl (lv_at hl 3 rfl) ?_
    refine z_arg C hS dL_law_1056 dL_law_1057 dL_law_1059 dL_law_1060 dL_law_1061 (k := 1) (by decide) hi (lv_at hl 1 rfl) (lv_at hl 5 rfl) e_t ?_
    refine z_arg C hS dL_law_1062 dL_law_1063 dL_law_1065 dL_law_1066 dL_law_1067 (k := 2) (by decide) hi (lv_at hl 1 rfl) (lv_at hl 5 rfl) e_u ?_
    refine zl_virt (As := [.int (iI t), .int (iI u)]) (rest := []) (pb_rf (cy := cy) (a := a') (a2 := a2) (o := o) (f := f') (P := P') (R := R)) ⟨hx, hb, hml, hown, hts⟩ (c_X7_cost l D cy H.size a2 R t u hIr hrt hru) gL_law_X7_cost rfl ⟨rfl, rfl⟩ 2 rfl (by decide +kernel) ⟨Nat.le_of_ble_eq_true rfl, Nat.le_of_ble_eq_true rfl⟩ (GG_ok D cy) hGG hA hP hD hS (va_recv hKk (pb_rw hP) (ci := 6) (q0 := 0) rfl rfl) hl.1 rfl (Nat.le_of_ble_eq_true rfl) (rm_0 hroom9) dL_law_1068 (fun r9 R' H locs hq hP hD hS => ?_)
    have hq := hpost r9 R' hq
    rw [← ha] at hl
    exact z_tail C K dL_law_1071 dL_law_1073 dL_law_1074 dL_law_1077 dL_law_1079 dL_law_1084 dL_law_1086 dL_law_1089 dL_law_1090 dL_law_1091 dL_law_1092 dL_law_1094 dL_law_1095 dL_law_1096 dL_law_1101 (by decide) hq.1.1 hk3 hq.1.2 hq.2 hP hD hS hl hcs hroom9
  refine lv_aload_n hx hb dL_law_1036 rfl (lv_at hl 1 rfl) ?_
  refine z_arg C hS dL_law_1037 dL_law_1038 dL_law_1040 dL_law_1041 dL_law_1042 (k := 1) (by decide) hi (lv_at hl 0 rfl) (lv_at hl 4 rfl) e_t ?_
  refine z_arg C hS dL_law_1043 dL_law_1044 dL_law_1046 dL_law_1047 dL_law_1048 (k := 2) (by decide) hi (lv_at hl 0 rfl) (lv_at hl 4 rfl) e_u ?_
  refine lv_aload_n hx hb dL_law_1049 rfl (lv_at hl 3 rfl) ?_
  by_cases c1 : (0 ≤ t ∧ t < P 0 0) ∧ 0 ≤ u ∧ u < P 0 1
  · obtain ⟨⟨h0, h1⟩, g0, g1⟩ := c1
    have hpt := rl_pt hR h0 h1
    have hp12 := po_pts hI h0 h1
    by_cases hz9 : P 1 t = 0
    · skip
      refine zl_stat (As := [.ref (a 100), .int (iI t), .int (iI u), .ref o]) (rest := []) (pb_pl (cy := cy) (a := a) (a2 := a2) (o := o) (f := fo) (P := P) (R := R)) ⟨hx, hb, hml, hown, hts⟩ (c_L_cost_z l H.size o fo D cy a P t u hI h0 h1 g0 g1 hz9) gL_law_L_cost rfl ⟨rfl, rfl⟩ 4 rfl (by decide +kernel) ⟨Nat.le_of_ble_eq_true rfl, Nat.le_of_ble_eq_true rfl⟩ (GG_ok D cy) hGG hA hP hD hS hl.1 rfl (Nat.le_of_ble_eq_true rfl) (rm_0 hroom0) dL_law_1050 (fun r U9 H locs hpost hP hD hS => ?_)
      obtain ⟨hr0, v9, hv, hv2⟩ := hpost
      rw [hr0]
      refine hmid 0 a U9.2 P H locs _ _ (by decide) rfl (fun r9 R' hq => ?_) hP hD hS ⟨by omega, by omega⟩
      rcases hq with ⟨c9, e9, rfl⟩ | ⟨c9, e9, rfl⟩ | ⟨c9, e9, rfl⟩
      · exfalso
        omega
      · exact ⟨⟨(rq_t R _).2, fun _ => ev9 hv (Eq.trans hv2 e9.symm)⟩, rl_q hR (rq_t R _).1 (objq_rfl hR)⟩
      · exfalso
        have := c9.2
        omega
    · have hp0 : 0 < P 1 t := by omega
      refine zl_stat (As := [.ref (a 100), .int (iI t), .int (iI u), .ref o]) (rest := []) (pb_lk (cy := cy) (a := a) (a2 := a2) (o := o) (f := fo) (P := P) (R := R)) ⟨hx, hb, hml, hown, hts⟩ (c_L_cost l H.size o fo D cy a P t u hI hl0 hl1 h0 h1 hp0 g0 g1) gL_law_L_cost rfl ⟨rfl, rfl⟩ 4 rfl (by decide +kernel) ⟨Nat.le_of_ble_eq_true rfl, Nat.le_of_ble_eq_true rfl⟩ (GG_ok D cy) hGG hA hP hD hS hl.1 rfl (Nat.le_of_ble_eq_true rfl) (rm_0 hroom0) dL_law_1050 (fun r U9 H locs hpost hP hD hS => ?_)
      obtain ⟨hr0, v9, hv, zZ, hz, hv2, hu⟩ := hpost
      rw [hr0]
      have hu : U9.1 = lkU P zZ := hu
      have hoq : objq P (lkU P zZ) := oq_lkU hz
      refine hmid 0 a U9.2 (mixB inLk P U9.1) H locs _ _ (by decide) rfl (fun r9 R' hq => ?_) hP hD hS ⟨by omega, by omega⟩
      rw [hu, mx_lkU_inLk]
      rcases hq with ⟨c9, e9, rfl⟩ | ⟨c9, e9, rfl⟩ | ⟨c9, e9, rfl⟩
      · exfalso
        omega
      · exfalso
        have := c9.2
        omega
      · exact ⟨⟨(rq_t R _).2, fun _ => ev9 hv (hv2.trans (by rw [e9, cstA hag (R 1 8) h0 c9.1.1.2 c9.2 g0 c9.1.2.2, h8]))⟩, rl_q hR (rq_t R _).1 hoq⟩
  · skip
    refine zl_stat (As := [.ref (a 100), .int (iI t), .int (iI u), .ref o]) (rest := []) (pb_tp (cy := cy) (a := a) (a2 := a2) (o := o) (f := fo) (P := P) (R := R)) ⟨hx, hb, hml, hown, hts⟩ (c_L_cost_t1 l hst H.size o D cy a P t u hI hrt hru c1) gL_law_L_cost rfl ⟨rfl, rfl⟩ 4 rfl (by decide +kernel) ⟨Nat.le_of_ble_eq_true rfl, Nat.le_of_ble_eq_true rfl⟩ (GX_ok D cy) hGX hA hP hD hS hl.1 rfl (Nat.le_of_ble_eq_true rfl) (rm_1 hroom0) dL_law_1050 (fun r U9 H locs hpost hP hD hS => ?_)
    have hr0 : r = 1 := hpost
    rw [hr0]
    refine hmid 1 a fo P H locs _ _ (by decide) rfl (fun r9 R' hq => ?_) hP hD hS ⟨by omega, by omega⟩
    rcases hq with ⟨c9, e9, rfl⟩ | ⟨c9, e9, rfl⟩ | ⟨c9, e9, rfl⟩
    · exact ⟨⟨(rq_t R _).2, fun h => absurd h (by decide)⟩, rl_q hR (rq_t R _).1 (objq_rfl hR)⟩
    · exfalso
      have := c9.1
      omega
    · exfalso
      have := c9.1
      omega
set_option maxHeartbeats 4000000 in
set_option maxRecDepth 100000 in
theorem zc_missing {p : Program} {l : Launch} {e : Env} {s : State} {m : MethodId} {below : List Frame} {meth : Method} {c : Code} {b L : Nat} {xs : Nat → Int32} {D : va_G} {cy : Nat → ClassId} {Q : State → Prop} {H : Heap} {locs : List Loc} {cells slots : Nat} {ls : Array Slot} {a a2 : Nat → Nat} {o : Nat} {fo : Nat → Int64} {P R : Nat → Int → Int} (C : zC p l s m c b L xs D cy) {i : Int} (K : zK p l e s m below meth c b D cy Q i (cells + 1) (slots + 6)) (hi : 0 ≤ i ∧ i + 5 ≤ (L : Int)) (hroom : cells + 1 ≤ 600000 ∧ slots + 6 ≤ 7000000) (hR : Rl P R) (hP : va_P D vwCl (lawW cy a a2 o fo P R) H) (hD : va_D (fun q : Nat => s.heap.size ≤ q) (lawW cy a a2 o fo P R)) (hS : va_S (fun q : Nat => s.heap.size ≤ q) s.heap H locs) (hl : lv_has ls 7 [(0, .ref b), (1, .ref (a 100)), (2, .ref (a2 0)), (3, .ref o), (4, .int (iI i))]) : W p l e room_1 s m #[Value.ref b] below meth c H locs cells slots Q (F0 m 1104 ls []) := by
  obtain ⟨⟨hx, hb, hml, hown⟩, hts, ⟨hX, hbl, hL⟩, hGX, hst⟩ := id C
  have hGG := hGX.1.1
  have hKk := hGG.1
  have hA : ∀ q : Nat, s.heap.size ≤ q → (fun q : Nat => s.heap.size ≤ q) q := fun _ h => h
  have hI := hR.inv
  have hIr := hR.1.1
  have hag := hR.1.2
  obtain ⟨h12, h13⟩ := rl_12 hR
  have h8 : R 1 8 = P 8 8 := rl_st hR (by decide) (by decide)
  have hsc := hR.2.1.1.2
  have h50 := hR.2.1.1.1
  have hsv : 0 ≤ P 50 1 ∧ P 50 1 ≤ 4 := ⟨by omega, by omega⟩
  have hS0 := po_S hI
  have hl0 := hR.2.2.2.2.1
  have hl1 := hR.2.2.2.2.2
  have htl := hR.2.2.1.1.2
  have h10 := hR.2.2.1.1.1
  have hroom0 : cells ≤ 600000 ∧ slots ≤ 7000000 := ⟨by omega, by omega⟩
  obtain ⟨v, e_v, hrv⟩ : ∃ z : Int, xs (i + 1).toNat = iI z ∧ -2147483648 ≤ z ∧ z ≤ 2147483647 := ⟨_, iI_of _, iI_rng _⟩
  have hmid : ∀ (k : Int) (a' : Nat → Nat) (f' : Nat → Int64) (P' : Nat → Int → Int) (H : Heap) (locs : List Loc) (cells' slots' : Nat), (0 ≤ k ∧ k ≤ 3) → a' 100 = a 100 → (∀ (r9 : Int) (R' : Nat → Int → Int), (((v < 0) ∧ r9 = 0 ∧ R' = (upr R 0 (ups (R 0) 6 1))) ∨ (∃ (zs : Int → Int) (zt : Int → Int) (zq : Int → Int), (0 ≤ v) ∧ r9 = misF (R 1) v ∧ R' = (upr (upr (upr (upr R 0 (ups (ups (ups (R 0) 6 0) 13 (mat (R 1) (R 1 8)).2.2.1) 14 (mat (R 1) (R 1 8)).2.2.2)) 4 (zq)) 5 (zs)) 6 (zt)))) → (R' 0 6 = k ∧ (k = 0 → f' 0 = (iI r9).toInt64)) ∧ Rl P' R') → va_P D vwCl (lawW cy a' a2 o f' P' R) H → va_D (fun q : Nat => s.heap.size ≤ q) (lawW cy a' a2 o f' P' R) → va_S (fun q : Nat => s.heap.size ≤ q) s.heap H locs → (cells' ≤ cells + 1 ∧ slots' ≤ slots + 6) → W p l e room_1 s m #[Value.ref b] below meth c H locs cells' slots' Q (F0 m 1115 ls [.int (iI k)]) := by
    intro k a' f' P' H locs cells' slots' hk3 ha hpost hP hD hS hcs
    have hroom9 : cells' ≤ 600000 ∧ slots' ≤ 7000000 := ⟨by omega, by omega⟩
    refine lv_istore (lv' := [(5, .int (iI k)), (0, .ref b), (1, .ref (a 100)), (2, .ref (a2 0)), (3, .ref o), (4, .int (iI i))]) hx hb dL_law_1115 hl (by decide) rfl (fun ls hl => ?_)
    refine lv_aload_n hx hb dL_law_1117 rfl (lv_at hl 3 rfl) ?_
    refine z_arg C hS dL_law_1118 dL_law_1119 dL_law_1121 dL_law_1122 dL_law_1123 (k := 1) (by decide) hi (lv_at hl 1 rfl) (lv_at hl 5 rfl) e_v ?_
    refine zl_virt (As := [.int (iI v)]) (rest := []) (pb_rf (cy := cy) (a := a') (a2 := a2) (o := o) (f := f') (P := P') (R := R)) ⟨hx, hb, hml, hown, hts⟩ (c_X7_missing l D cy H.size a2 R v hIr hrv) gL_law_X7_missing rfl ⟨rfl, rfl⟩ 1 rfl (by decide +kernel) ⟨Nat.le_of_ble_eq_true rfl, Nat.le_of_ble_eq_true rfl⟩ (GG_ok D cy) hGG hA hP hD hS (va_recv hKk (pb_rw hP) (ci := 6) (q0 := 0) rfl rfl) hl.1 rfl (Nat.le_of_ble_eq_true rfl) (rm_0 hroom9) dL_law_1124 (fun r9 R' H locs hq hP hD hS => ?_)
    have hq := hpost r9 R' hq
    rw [← ha] at hl
    exact z_tail C K dL_law_1127 dL_law_1129 dL_law_1130 dL_law_1133 dL_law_1135 dL_law_1140 dL_law_1142 dL_law_1145 dL_law_1146 dL_law_1147 dL_law_1148 dL_law_1150 dL_law_1151 dL_law_1152 dL_law_1157 (by decide) hq.1.1 hk3 hq.1.2 hq.2 hP hD hS hl hcs hroom9
  refine lv_aload_n hx hb dL_law_1104 rfl (lv_at hl 1 rfl) ?_
  refine z_arg C hS dL_law_1105 dL_law_1106 dL_law_1108 dL_law_1109 dL_law_1110 (k := 1) (by decide) hi (lv_at hl 0 rfl) (lv_at hl 4 rfl) e_v ?_
  refine lv_aload_n hx hb dL_law_1111 rfl (lv_at hl 3 rfl) ?_
  by_cases c1 : v < 0
  · skip
    refine zl_stat (As := [.ref (a 100), .int (iI v), .ref o]) (rest := []) (pb_tp (cy := cy) (a := a) (a2 := a2) (o := o) (f := fo) (P := P) (R := R)) ⟨hx, hb, hml, hown, hts⟩ (c_L_missing_t2 l hst H.size o D cy a P v hrv c1) gL_law_L_missing rfl ⟨rfl, rfl⟩ 3 rfl (by decide +kernel) ⟨Nat.le_of_ble_eq_true rfl, Nat.le_of_ble_eq_true rfl⟩ (GX_ok D cy) hGX hA hP hD hS hl.1 rfl (Nat.le_of_ble_eq_true rfl) (rm_1 hroom0) dL_law_1112 (fun r U9 H locs hpost hP hD hS => ?_)
    have hr0 : r = 1 := hpost
    rw [hr0]
    refine hmid 1 a fo P H locs _ _ (by decide) rfl (fun r9 R' hq => ?_) hP hD hS ⟨by omega, by omega⟩
    rcases hq with ⟨c9, e9, rfl⟩ | ⟨z0, z1, z2, c9, e9, rfl⟩
    · exact ⟨⟨(rq_t R _).2, fun h => absurd h (by decide)⟩, rl_q hR (rq_t R _).1 (objq_rfl hR)⟩
    · exfalso
      omega
  · have hi0 : 0 ≤ v ∧ v ≤ 2147483647 := ⟨by omega, by omega⟩
    refine zl_stat (As := [.ref (a 100), .int (iI v), .ref o]) (rest := []) (pb_lk (cy := cy) (a := a) (a2 := a2) (o := o) (f := fo) (P := P) (R := R)) ⟨hx, hb, hml, hown, hts⟩ (c_L_missing l H.size o fo D cy a P v hI hl0 hl1 hi0) gL_law_L_missing rfl ⟨rfl, rfl⟩ 3 rfl (by decide +kernel) ⟨Nat.le_of_ble_eq_true rfl, Nat.le_of_ble_eq_true rfl⟩ (GG_ok D cy) hGG hA hP hD hS hl.1 rfl (Nat.le_of_ble_eq_true rfl) (rm_0 hroom0) dL_law_1112 (fun r U9 H locs hpost hP hD hS => ?_)
    obtain ⟨hr0, v9, hv, zZ, hz, hv2, hu⟩ := hpost
    rw [hr0]
    have hu : U9.1 = lkU P zZ := hu
    have hoq : objq P (lkU P zZ) := oq_lkU hz
    refine hmid 0 a U9.2 (mixB inLk P U9.1) H locs _ _ (by decide) rfl (fun r9 R' hq => ?_) hP hD hS ⟨by omega, by omega⟩
    rw [hu, mx_lkU_inLk]
    rcases hq with ⟨c9, e9, rfl⟩ | ⟨z0, z1, z2, c9, e9, rfl⟩
    · exfalso
      omega
    · exact ⟨⟨(rq_l R _ _ _ _ _).2, fun _ => ev9 hv (hv2.trans (by rw [e9, misFA v hIr hag]))⟩, rl_q hR (rq_l R _ _ _ _ _).1 hoq⟩
set_option maxHeartbeats 4000000 in
set_option maxRecDepth 100000 in
theorem zc_setting {p : Program} {l : Launch} {e : Env} {s : State} {m : MethodId} {below : List Frame} {meth : Method} {c : Code} {b L : Nat} {xs : Nat → Int32} {D : va_G} {cy : Nat → ClassId} {Q : State → Prop} {H : Heap} {locs : List Loc} {cells slots : Nat} {ls : Array Slot} {a a2 : Nat → Nat} {o : Nat} {fo : Nat → Int64} {P R : Nat → Int → Int} (C : zC p l s m c b L xs D cy) {i : Int} (K : zK p l e s m below meth c b D cy Q i (cells + 1) (slots + 6)) (hi : 0 ≤ i ∧ i + 5 ≤ (L : Int)) (hroom : cells + 1 ≤ 600000 ∧ slots + 6 ≤ 7000000) (hR : Rl P R) (hP : va_P D vwCl (lawW cy a a2 o fo P R) H) (hD : va_D (fun q : Nat => s.heap.size ≤ q) (lawW cy a a2 o fo P R)) (hS : va_S (fun q : Nat => s.heap.size ≤ q) s.heap H locs) (hl : lv_has ls 7 [(0, .ref b), (1, .ref (a 100)), (2, .ref (a2 0)), (3, .ref o), (4, .int (iI i))]) : W p l e room_1 s m #[Value.ref b] below meth c H locs cells slots Q (F0 m 1160 ls []) := by
  obtain ⟨⟨hx, hb, hml, hown⟩, hts, ⟨hX, hbl, hL⟩, hGX, hst⟩ := id C
  have hGG := hGX.1.1
  have hKk := hGG.1
  have hA : ∀ q : Nat, s.heap.size ≤ q → (fun q : Nat => s.heap.size ≤ q) q := fun _ h => h
  have hI := hR.inv
  have hIr := hR.1.1
  have hag := hR.1.2
  obtain ⟨h12, h13⟩ := rl_12 hR
  have h8 : R 1 8 = P 8 8 := rl_st hR (by decide) (by decide)
  have hsc := hR.2.1.1.2
  have h50 := hR.2.1.1.1
  have hsv : 0 ≤ P 50 1 ∧ P 50 1 ≤ 4 := ⟨by omega, by omega⟩
  have hS0 := po_S hI
  have hl0 := hR.2.2.2.2.1
  have hl1 := hR.2.2.2.2.2
  have htl := hR.2.2.1.1.2
  have h10 := hR.2.2.1.1.1
  have hroom0 : cells ≤ 600000 ∧ slots ≤ 7000000 := ⟨by omega, by omega⟩
  obtain ⟨w, e_w, hrw⟩ : ∃ z : Int, xs (i + 1).toNat = iI z ∧ -2147483648 ≤ z ∧ z ≤ 2147483647 := ⟨_, iI_of _, iI_rng _⟩
  have hmid : ∀ (k : Int) (a' : Nat → Nat) (f' : Nat → Int64) (P' : Nat → Int → Int) (H : Heap) (locs : List Loc) (cells' slots' : Nat), (0 ≤ k ∧ k ≤ 3) → a' 100 = a 100 → (∀ (r9 : Int) (R' : Nat → Int → Int), (((¬ (0 ≤ w ∧ w ≤ 9)) ∧ r9 = 0 ∧ R' = (upr R 0 (ups (R 0) 6 1))) ∨ ((0 ≤ w ∧ w ≤ 9) ∧ r9 = R 1 w ∧ R' = (upr R 0 (ups (R 0) 6 0)))) → (R' 0 6 = k ∧ (k = 0 → f' 0 = (iI r9).toInt64)) ∧ Rl P' R') → va_P D vwCl (lawW cy a' a2 o f' P' R) H → va_D (fun q : Nat => s.heap.size ≤ q) (lawW cy a' a2 o f' P' R) → va_S (fun q : Nat => s.heap.size ≤ q) s.heap H locs → (cells' ≤ cells + 1 ∧ slots' ≤ slots + 6) → W p l e room_1 s m #[Value.ref b] below meth c H locs cells' slots' Q (F0 m 1171 ls [.int (iI k)]) := by
    intro k a' f' P' H locs cells' slots' hk3 ha hpost hP hD hS hcs
    have hroom9 : cells' ≤ 600000 ∧ slots' ≤ 7000000 := ⟨by omega, by omega⟩
    refine lv_istore (lv' := [(5, .int (iI k)), (0, .ref b), (1, .ref (a 100)), (2, .ref (a2 0)), (3, .ref o), (4, .int (iI i))]) hx hb dL_law_1171 hl (by decide) rfl (fun ls hl => ?_)
    refine lv_aload_n hx hb dL_law_1173 rfl (lv_at hl 3 rfl) ?_
    refine z_arg C hS dL_law_1174 dL_law_1175 dL_law_1177 dL_law_1178 dL_law_1179 (k := 1) (by decide) hi (lv_at hl 1 rfl) (lv_at hl 5 rfl) e_w ?_
    refine zl_virt (As := [.int (iI w)]) (rest := []) (pb_rf (cy := cy) (a := a') (a2 := a2) (o := o) (f := f') (P := P') (R := R)) ⟨hx, hb, hml, hown, hts⟩ (c_X7_setting l D cy H.size a2 R w hrw) gL_law_X7_setting rfl ⟨rfl, rfl⟩ 1 rfl (by decide +kernel) ⟨Nat.le_of_ble_eq_true rfl, Nat.le_of_ble_eq_true rfl⟩ (GG_ok D cy) hGG hA hP hD hS (va_recv hKk (pb_rw hP) (ci := 6) (q0 := 0) rfl rfl) hl.1 rfl (Nat.le_of_ble_eq_true rfl) (rm_0 hroom9) dL_law_1180 (fun r9 R' H locs hq hP hD hS => ?_)
    have hq := hpost r9 R' hq
    rw [← ha] at hl
    exact z_tail C K dL_law_1183 dL_law_1185 dL_law_1186 dL_law_1189 dL_law_1191 dL_law_1196 dL_law_1198 dL_law_1201 dL_law_1202 dL_law_1203 dL_law_1204 dL_law_1206 dL_law_1207 dL_law_1208 dL_law_1213 (by decide) hq.1.1 hk3 hq.1.2 hq.2 hP hD hS hl hcs hroom9
  refine lv_aload_n hx hb dL_law_1160 rfl (lv_at hl 1 rfl) ?_
  refine z_arg C hS dL_law_1161 dL_law_1162 dL_law_1164 dL_law_1165 dL_law_1166 (k := 1) (by decide) hi (lv_at hl 0 rfl) (lv_at hl 4 rfl) e_w ?_
  refine lv_aload_n hx hb dL_law_1167 rfl (lv_at hl 3 rfl) ?_
  by_cases hw : 0 ≤ w ∧ w ≤ 9
  · skip
    refine zl_stat (As := [.ref (a 100), .int (iI w), .ref o]) (rest := []) (pb_pl (cy := cy) (a := a) (a2 := a2) (o := o) (f := fo) (P := P) (R := R)) ⟨hx, hb, hml, hown, hts⟩ (c_L_setting l H.size o fo D cy a P w hw) gL_law_L_setting rfl ⟨rfl, rfl⟩ 3 rfl (by decide +kernel) ⟨Nat.le_of_ble_eq_true rfl, Nat.le_of_ble_eq_true rfl⟩ (GG_ok D cy) hGG hA hP hD hS hl.1 rfl (Nat.le_of_ble_eq_true rfl) (rm_0 hroom0) dL_law_1168 (fun r U9 H locs hpost hP hD hS => ?_)
    obtain ⟨hr0, v9, hv, hv2⟩ := hpost
    rw [hr0]
    refine hmid 0 a U9.2 P H locs _ _ (by decide) rfl (fun r9 R' hq => ?_) hP hD hS ⟨by omega, by omega⟩
    rcases hq with ⟨c9, e9, rfl⟩ | ⟨c9, e9, rfl⟩
    · exact absurd hw c9
    · exact ⟨⟨(rq_t R _).2, fun _ => ev9 hv (Eq.trans hv2 (by rw [e9, rl_st hR hw.1 (by omega)]))⟩, rl_q hR (rq_t R _).1 (objq_rfl hR)⟩
  · skip
    refine zl_stat (As := [.ref (a 100), .int (iI w), .ref o]) (rest := []) (pb_tp (cy := cy) (a := a) (a2 := a2) (o := o) (f := fo) (P := P) (R := R)) ⟨hx, hb, hml, hown, hts⟩ (c_L_setting_t2 l hst H.size o D cy a P w hrw hw) gL_law_L_setting rfl ⟨rfl, rfl⟩ 3 rfl (by decide +kernel) ⟨Nat.le_of_ble_eq_true rfl, Nat.le_of_ble_eq_true rfl⟩ (GX_ok D cy) hGX hA hP hD hS hl.1 rfl (Nat.le_of_ble_eq_true rfl) (rm_1 hroom0) dL_law_1168 (fun r U9 H locs hpost hP hD hS => ?_)
    have hr0 : r = 1 := hpost
    rw [hr0]
    refine hmid 1 a fo P H locs _ _ (by decide) rfl (fun r9 R' hq => ?_) hP hD hS ⟨by omega, by omega⟩
    rcases hq with ⟨c9, e9, rfl⟩ | ⟨c9, e9, rfl⟩
    · exact ⟨⟨(rq_t R _).2, fun h => absurd h (by decide)⟩, rl_q hR (rq_t R _).1 (objq_rfl hR)⟩
    · exact absurd c9 hw
set_option maxHeartbeats 4000000 in
set_option maxRecDepth 100000 in
theorem zc_whole {p : Program} {l : Launch} {e : Env} {s : State} {m : MethodId} {below : List Frame} {meth : Method} {c : Code} {b L : Nat} {xs : Nat → Int32} {D : va_G} {cy : Nat → ClassId} {Q : State → Prop} {H : Heap} {locs : List Loc} {cells slots : Nat} {ls : Array Slot} {a a2 : Nat → Nat} {o : Nat} {fo : Nat → Int64} {P R : Nat → Int → Int} (C : zC p l s m c b L xs D cy) {i : Int} (K : zK p l e s m below meth c b D cy Q i (cells + 1) (slots + 6)) (hi : 0 ≤ i ∧ i + 5 ≤ (L : Int)) (hroom : cells + 1 ≤ 600000 ∧ slots + 6 ≤ 7000000) (hR : Rl P R) (hP : va_P D vwCl (lawW cy a a2 o fo P R) H) (hD : va_D (fun q : Nat => s.heap.size ≤ q) (lawW cy a a2 o fo P R)) (hS : va_S (fun q : Nat => s.heap.size ≤ q) s.heap H locs) (hl : lv_has ls 7 [(0, .ref b), (1, .ref (a 100)), (2, .ref (a2 0)), (3, .ref o), (4, .int (iI i))]) : W p l e room_1 s m #[Value.ref b] below meth c H locs cells slots Q (F0 m 1216 ls []) := by
  obtain ⟨⟨hx, hb, hml, hown⟩, hts, ⟨hX, hbl, hL⟩, hGX, hst⟩ := id C
  have hGG := hGX.1.1
  have hKk := hGG.1
  have hA : ∀ q : Nat, s.heap.size ≤ q → (fun q : Nat => s.heap.size ≤ q) q := fun _ h => h
  have hI := hR.inv
  have hIr := hR.1.1
  have hag := hR.1.2
  obtain ⟨h12, h13⟩ := rl_12 hR
  have h8 : R 1 8 = P 8 8 := rl_st hR (by decide) (by decide)
  have hsc := hR.2.1.1.2
  have h50 := hR.2.1.1.1
  have hsv : 0 ≤ P 50 1 ∧ P 50 1 ≤ 4 := ⟨by omega, by omega⟩
  have hS0 := po_S hI
  have hl0 := hR.2.2.2.2.1
  have hl1 := hR.2.2.2.2.2
  have htl := hR.2.2.1.1.2
  have h10 := hR.2.2.1.1.1
  have hroom0 : cells ≤ 600000 ∧ slots ≤ 7000000 := ⟨by omega, by omega⟩
  obtain ⟨w, e_w, hrw⟩ : ∃ z : Int, xs (i + 1).toNat = iI z ∧ -2147483648 ≤ z ∧ z ≤ 2147483647 := ⟨_, iI_of _, iI_rng _⟩
  have hmid : ∀ (k : Int) (a' : Nat → Nat) (f' : Nat → Int64) (P' : Nat → Int → Int) (H : Heap) (locs : List Loc) (cells' slots' : Nat), (0 ≤ k ∧ k ≤ 3) → a' 100 = a 100 → (∀ (r9 : Int) (R' : Nat → Int → Int), (((¬ (0 ≤ w ∧ w ≤ 10)) ∧ r9 = 0 ∧ R' = (upr R 0 (ups (R 0) 6 1))) ∨ (∃ (zs : Int → Int) (zt : Int → Int) (zq : Int → Int), (0 ≤ w ∧ w ≤ 10) ∧ r9 = whW (R 1) w ∧ R' = (upr (upr (upr (upr R 0 (ups (ups (ups (R 0) 6 0) 13 (mat (R 1) (R 1 8)).2.2.1) 14 (mat (R 1) (R 1 8)).2.2.2)) 4 (zq)) 5 (zs)) 6 (zt)))) → (R' 0 6 = k ∧ (k = 0 → f' 0 = (iI r9).toInt64)) ∧ Rl P' R') → va_P D vwCl (lawW cy a' a2 o f' P' R) H → va_D (fun q : Nat => s.heap.size ≤ q) (lawW cy a' a2 o f' P' R) → va_S (fun q : Nat => s.heap.size ≤ q) s.heap H locs → (cells' ≤ cells + 1 ∧ slots' ≤ slots + 6) → W p l e room_1 s m #[Value.ref b] below meth c H locs cells' slots' Q (F0 m 1227 ls [.int (iI k)]) := by
    intro k a' f' P' H locs cells' slots' hk3 ha hpost hP hD hS hcs
    have hroom9 : cells' ≤ 600000 ∧ slots' ≤ 7000000 := ⟨by omega, by omega⟩
    refine lv_istore (lv' := [(5, .int (iI k)), (0, .ref b), (1, .ref (a 100)), (2, .ref (a2 0)), (3, .ref o), (4, .int (iI i))]) hx hb dL_law_1227 hl (by decide) rfl (fun ls hl => ?_)
    refine lv_aload_n hx hb dL_law_1229 rfl (lv_at hl 3 rfl) ?_
    refine z_arg C hS dL_law_1230 dL_law_1231 dL_law_1233 dL_law_1234 dL_law_1235 (k := 1) (by decide) hi (lv_at hl 1 rfl) (lv_at hl 5 rfl) e_w ?_
    refine zl_virt (As := [.int (iI w)]) (rest := []) (pb_rf (cy := cy) (a := a') (a2 := a2) (o := o) (f := f') (P := P') (R := R)) ⟨hx, hb, hml, hown, hts⟩ (c_X7_whole l D cy H.size a2 R w hIr hrw) gL_law_X7_whole rfl ⟨rfl, rfl⟩ 1 rfl (by decide +kernel) ⟨Nat.le_of_ble_eq_true rfl, Nat.le_of_ble_eq_true rfl⟩ (GG_ok D cy) hGG hA hP hD hS (va_recv hKk (pb_rw hP) (ci := 6) (q0 := 0) rfl rfl) hl.1 rfl (Nat.le_of_ble_eq_true rfl) (rm_0 hroom9) dL_law_1236 (fun r9 R' H locs hq hP hD hS => ?_)
    have hq := hpost r9 R' hq
    rw [← ha] at hl
    exact z_tail C K dL_law_1239 dL_law_1241 dL_law_1242 dL_law_1245 dL_law_1247 dL_law_1252 dL_law_1254 dL_law_1257 dL_law_1258 dL_law_1259 dL_law_1260 dL_law_1262 dL_law_1263 dL_law_1264 dL_law_1269 (by decide) hq.1.1 hk3 hq.1.2 hq.2 hP hD hS hl hcs hroom9
  refine lv_aload_n hx hb dL_law_1216 rfl (lv_at hl 1 rfl) ?_
  refine z_arg C hS dL_law_1217 dL_law_1218 dL_law_1220 dL_law_1221 dL_law_1222 (k := 1) (by decide) hi (lv_at hl 0 rfl) (lv_at hl 4 rfl) e_w ?_
  refine lv_aload_n hx hb dL_law_1223 rfl (lv_at hl 3 rfl) ?_
  by_cases hw : 0 ≤ w ∧ w ≤ 10
  · skip
    refine zl_stat (As := [.ref (a 100), .int (iI w), .ref o]) (rest := []) (pb_lk (cy := cy) (a := a) (a2 := a2) (o := o) (f := fo) (P := P) (R := R)) ⟨hx, hb, hml, hown, hts⟩ (c_L_whole l H.size o fo D cy a P w hI hl0 hl1 hw) gL_law_L_whole rfl ⟨rfl, rfl⟩ 3 rfl (by decide +kernel) ⟨Nat.le_of_ble_eq_true rfl, Nat.le_of_ble_eq_true rfl⟩ (GG_ok D cy) hGG hA hP hD hS hl.1 rfl (Nat.le_of_ble_eq_true rfl) (rm_0 hroom0) dL_law_1224 (fun r U9 H locs hpost hP hD hS => ?_)
    obtain ⟨hr0, v9, hv, zZ, hz, hv2, hu⟩ := hpost
    rw [hr0]
    have hu : U9.1 = lkU P zZ := hu
    have hoq : objq P (lkU P zZ) := oq_lkU hz
    refine hmid 0 a U9.2 (mixB inLk P U9.1) H locs _ _ (by decide) rfl (fun r9 R' hq => ?_) hP hD hS ⟨by omega, by omega⟩
    rw [hu, mx_lkU_inLk]
    rcases hq with ⟨c9, e9, rfl⟩ | ⟨z0, z1, z2, c9, e9, rfl⟩
    · exact absurd hw c9
    · exact ⟨⟨(rq_l R _ _ _ _ _).2, fun _ => ev9 hv (hv2.trans (by rw [e9, whA w hag]))⟩, rl_q hR (rq_l R _ _ _ _ _).1 hoq⟩
  · skip
    refine zl_stat (As := [.ref (a 100), .int (iI w), .ref o]) (rest := []) (pb_tp (cy := cy) (a := a) (a2 := a2) (o := o) (f := fo) (P := P) (R := R)) ⟨hx, hb, hml, hown, hts⟩ (c_L_whole_t2 l hst H.size o D cy a P w hrw hw) gL_law_L_whole rfl ⟨rfl, rfl⟩ 3 rfl (by decide +kernel) ⟨Nat.le_of_ble_eq_true rfl, Nat.le_of_ble_eq_true rfl⟩ (GX_ok D cy) hGX hA hP hD hS hl.1 rfl (Nat.le_of_ble_eq_true rfl) (rm_1 hroom0) dL_law_1224 (fun r U9 H locs hpost hP hD hS => ?_)
    have hr0 : r = 1 := hpost
    rw [hr0]
    refine hmid 1 a fo P H locs _ _ (by decide) rfl (fun r9 R' hq => ?_) hP hD hS ⟨by omega, by omega⟩
    rcases hq with ⟨c9, e9, rfl⟩ | ⟨z0, z1, z2, c9, e9, rfl⟩
    · exact ⟨⟨(rq_t R _).2, fun h => absurd h (by decide)⟩, rl_q hR (rq_t R _).1 (objq_rfl hR)⟩
    · exact absurd c9 hw
set_option maxHeartbeats 4000000 in
set_option maxRecDepth 100000 in
theorem zc_costAt {p : Program} {l : Launch} {e : Env} {s : State} {m : MethodId} {below : List Frame} {meth : Method} {c : Code} {b L : Nat} {xs : Nat → Int32} {D : va_G} {cy : Nat → ClassId} {Q : State → Prop} {H : Heap} {locs : List Loc} {cells slots : Nat} {ls : Array Slot} {a a2 : Nat → Nat} {o : Nat} {fo : Nat → Int64} {P R : Nat → Int → Int} (C : zC p l s m c b L xs D cy) {i : Int} (K : zK p l e s m below meth c b D cy Q i (cells + 1) (slots + 6)) (hi : 0 ≤ i ∧ i + 5 ≤ (L : Int)) (hroom : cells + 1 ≤ 600000 ∧ slots + 6 ≤ 7000000) (hR : Rl P R) (hP : va_P D vwCl (lawW cy a a2 o fo P R) H) (hD : va_D (fun q : Nat => s.heap.size ≤ q) (lawW cy a a2 o fo P R)) (hS : va_S (fun q : Nat => s.heap.size ≤ q) s.heap H locs) (hl : lv_has ls 7 [(0, .ref b), (1, .ref (a 100)), (2, .ref (a2 0)), (3, .ref o), (4, .int (iI i))]) : W p l e room_1 s m #[Value.ref b] below meth c H locs cells slots Q (F0 m 1272 ls []) := by
  obtain ⟨⟨hx, hb, hml, hown⟩, hts, ⟨hX, hbl, hL⟩, hGX, hst⟩ := id C
  have hGG := hGX.1.1
  have hKk := hGG.1
  have hA : ∀ q : Nat, s.heap.size ≤ q → (fun q : Nat => s.heap.size ≤ q) q := fun _ h => h
  have hI := hR.inv
  have hIr := hR.1.1
  have hag := hR.1.2
  obtain ⟨h12, h13⟩ := rl_12 hR
  have h8 : R 1 8 = P 8 8 := rl_st hR (by decide) (by decide)
  have hsc := hR.2.1.1.2
  have h50 := hR.2.1.1.1
  have hsv : 0 ≤ P 50 1 ∧ P 50 1 ≤ 4 := ⟨by omega, by omega⟩
  have hS0 := po_S hI
  have hl0 := hR.2.2.2.2.1
  have hl1 := hR.2.2.2.2.2
  have htl := hR.2.2.1.1.2
  have h10 := hR.2.2.1.1.1
  have hroom0 : cells ≤ 600000 ∧ slots ≤ 7000000 := ⟨by omega, by omega⟩
  obtain ⟨x, e_x, hrx⟩ : ∃ z : Int, xs (i + 1).toNat = iI z ∧ -2147483648 ≤ z ∧ z ≤ 2147483647 := ⟨_, iI_of _, iI_rng _⟩
  obtain ⟨y, e_y, hry⟩ : ∃ z : Int, xs (i + 2).toNat = iI z ∧ -2147483648 ≤ z ∧ z ≤ 2147483647 := ⟨_, iI_of _, iI_rng _⟩
  have hmid : ∀ (k : Int) (a' : Nat → Nat) (f' : Nat → Int64) (P' : Nat → Int → Int) (H : Heap) (locs : List Loc) (cells' slots' : Nat), (0 ≤ k ∧ k ≤ 3) → a' 100 = a 100 → (∀ (r9 : Int) (R' : Nat → Int → Int), (((¬ poleOK x y) ∧ r9 = 0 ∧ R' = (upr R 0 (ups (R 0) 6 1))) ∨ ((poleOK x y) ∧ r9 = pcost (tPo (R 1) x y) ∧ R' = (upr (upr R 0 (ups (R 0) 6 0)) 1 (R 1)))) → (R' 0 6 = k ∧ (k = 0 → f' 0 = (iI r9).toInt64)) ∧ Rl P' R') → va_P D vwCl (lawW cy a' a2 o f' P' R) H → va_D (fun q : Nat => s.heap.size ≤ q) (lawW cy a' a2 o f' P' R) → va_S (fun q : Nat => s.heap.size ≤ q) s.heap H locs → (cells' ≤ cells + 1 ∧ slots' ≤ slots + 6) → W p l e room_1 s m #[Value.ref b] below meth c H locs cells' slots' Q (F0 m 1289 ls [.int (iI k)]) := by
    intro k a' f' P' H locs cells' slots' hk3 ha hpost hP hD hS hcs
    have hroom9 : cells' ≤ 600000 ∧ slots' ≤ 7000000 := ⟨by omega, by omega⟩
    refine lv_istore (lv' := [(5, .int (iI k)), (0, .ref b), (1, .ref (a 100)), (2, .ref (a2 0)), (3, .ref o), (4, .int (iI i))]) hx hb dL_law_1289 hl (by decide) rfl (fun ls hl => ?_)
    refine lv_aload_n hx hb dL_law_1291 rfl (lv_at hl 3 rfl) ?_
    refine z_arg C hS dL_law_1292 dL_law_1293 dL_law_1295 dL_law_1296 dL_law_1297 (k := 1) (by decide) hi (lv_at hl 1 rfl) (lv_at hl 5 rfl) e_x ?_
    refine z_arg C hS dL_law_1298 dL_law_1299 dL_law_1301 dL_law_1302 dL_law_1303 (k := 2) (by decide) hi (lv_at hl 1 rfl) (lv_at hl 5 rfl) e_y ?_
    refine zl_virt (As := [.int (iI x), .int (iI y)]) (rest := []) (pb_rf (cy := cy) (a := a') (a2 := a2) (o := o) (f := f') (P := P') (R := R)) ⟨hx, hb, hml, hown, hts⟩ (c_X7_costAt l D cy H.size a2 R x y hIr hrx hry) gL_law_X7_costAt rfl ⟨rfl, rfl⟩ 2 rfl (by decide +kernel) ⟨Nat.le_of_ble_eq_true rfl, Nat.le_of_ble_eq_true rfl⟩ (GG_ok D cy) hGG hA hP hD hS (va_recv hKk (pb_rw hP) (ci := 6) (q0 := 0) rfl rfl) hl.1 rfl (Nat.le_of_ble_eq_true rfl) (rm_0 hroom9) dL_law_1304 (fun r9 R' H locs hq hP hD hS => ?_)
    have hq := hpost r9 R' hq
    rw [← ha] at hl
    exact z_tail C K dL_law_1307 dL_law_1309 dL_law_1310 dL_law_1313 dL_law_1315 dL_law_1320 dL_law_1322 dL_law_1325 dL_law_1326 dL_law_1327 dL_law_1328 dL_law_1330 dL_law_1331 dL_law_1332 dL_law_1337 (by decide) hq.1.1 hk3 hq.1.2 hq.2 hP hD hS hl hcs hroom9
  refine lv_aload_n hx hb dL_law_1272 rfl (lv_at hl 1 rfl) ?_
  refine z_arg C hS dL_law_1273 dL_law_1274 dL_law_1276 dL_law_1277 dL_law_1278 (k := 1) (by decide) hi (lv_at hl 0 rfl) (lv_at hl 4 rfl) e_x ?_
  refine z_arg C hS dL_law_1279 dL_law_1280 dL_law_1282 dL_law_1283 dL_law_1284 (k := 2) (by decide) hi (lv_at hl 0 rfl) (lv_at hl 4 rfl) e_y ?_
  refine lv_aload_n hx hb dL_law_1285 rfl (lv_at hl 3 rfl) ?_
  by_cases hpo : poleOK x y
  · skip
    refine zl_stat (As := [.ref (a 100), .int (iI x), .int (iI y), .ref o]) (rest := []) (pb_pl (cy := cy) (a := a) (a2 := a2) (o := o) (f := fo) (P := P) (R := R)) ⟨hx, hb, hml, hown, hts⟩ (c_L_costAt l H.size o fo D cy a P x y hI hpo hrx hry) gL_law_L_costAt rfl ⟨rfl, rfl⟩ 4 rfl (by decide +kernel) ⟨Nat.le_of_ble_eq_true rfl, Nat.le_of_ble_eq_true rfl⟩ (GG_ok D cy) hGG hA hP hD hS hl.1 rfl (Nat.le_of_ble_eq_true rfl) (rm_0 hroom0) dL_law_1286 (fun r U9 H locs hpost hP hD hS => ?_)
    obtain ⟨hr0, v9, hv, hv2⟩ := hpost
    rw [hr0]
    refine hmid 0 a U9.2 P H locs _ _ (by decide) rfl (fun r9 R' hq => ?_) hP hD hS ⟨by omega, by omega⟩
    rcases hq with ⟨c9, e9, rfl⟩ | ⟨c9, e9, rfl⟩
    · exact absurd hpo c9
    · exact ⟨⟨(rq_c R).2, fun _ => ev9 hv (Eq.trans hv2 (by rw [e9, pcA (po_ag x y hIr hag)]))⟩, rl_q hR (rq_c R).1 (objq_rfl hR)⟩
  · skip
    refine zl_stat (As := [.ref (a 100), .int (iI x), .int (iI y), .ref o]) (rest := []) (pb_tp (cy := cy) (a := a) (a2 := a2) (o := o) (f := fo) (P := P) (R := R)) ⟨hx, hb, hml, hown, hts⟩ (c_L_costAt_t2 l hst H.size o D cy a P x y hrx hry hpo) gL_law_L_costAt rfl ⟨rfl, rfl⟩ 4 rfl (by decide +kernel) ⟨Nat.le_of_ble_eq_true rfl, Nat.le_of_ble_eq_true rfl⟩ (GX_ok D cy) hGX hA hP hD hS hl.1 rfl (Nat.le_of_ble_eq_true rfl) (rm_1 hroom0) dL_law_1286 (fun r U9 H locs hpost hP hD hS => ?_)
    have hr0 : r = 1 := hpost
    rw [hr0]
    refine hmid 1 a fo P H locs _ _ (by decide) rfl (fun r9 R' hq => ?_) hP hD hS ⟨by omega, by omega⟩
    rcases hq with ⟨c9, e9, rfl⟩ | ⟨c9, e9, rfl⟩
    · exact ⟨⟨(rq_t R _).2, fun h => absurd h (by decide)⟩, rl_q hR (rq_t R _).1 (objq_rfl hR)⟩
    · exact absurd c9 hpo
set_option maxHeartbeats 4000000 in
set_option maxRecDepth 100000 in
theorem zc_bestDrift {p : Program} {l : Launch} {e : Env} {s : State} {m : MethodId} {below : List Frame} {meth : Method} {c : Code} {b L : Nat} {xs : Nat → Int32} {D : va_G} {cy : Nat → ClassId} {Q : State → Prop} {H : Heap} {locs : List Loc} {cells slots : Nat} {ls : Array Slot} {a a2 : Nat → Nat} {o : Nat} {fo : Nat → Int64} {P R : Nat → Int → Int} (C : zC p l s m c b L xs D cy) {i : Int} (K : zK p l e s m below meth c b D cy Q i (cells + 1) (slots + 6)) (hi : 0 ≤ i ∧ i + 5 ≤ (L : Int)) (hroom : cells + 1 ≤ 600000 ∧ slots + 6 ≤ 7000000) (hR : Rl P R) (hP : va_P D vwCl (lawW cy a a2 o fo P R) H) (hD : va_D (fun q : Nat => s.heap.size ≤ q) (lawW cy a a2 o fo P R)) (hS : va_S (fun q : Nat => s.heap.size ≤ q) s.heap H locs) (hl : lv_has ls 7 [(0, .ref b), (1, .ref (a 100)), (2, .ref (a2 0)), (3, .ref o), (4, .int (iI i))]) : W p l e room_1 s m #[Value.ref b] below meth c H locs cells slots Q (F0 m 1379 ls []) := by
  obtain ⟨⟨hx, hb, hml, hown⟩, hts, ⟨hX, hbl, hL⟩, hGX, hst⟩ := id C
  have hGG := hGX.1.1
  have hKk := hGG.1
  have hA : ∀ q : Nat, s.heap.size ≤ q → (fun q : Nat => s.heap.size ≤ q) q := fun _ h => h
  have hI := hR.inv
  have hIr := hR.1.1
  have hag := hR.1.2
  obtain ⟨h12, h13⟩ := rl_12 hR
  have h8 : R 1 8 = P 8 8 := rl_st hR (by decide) (by decide)
  have hsc := hR.2.1.1.2
  have h50 := hR.2.1.1.1
  have hsv : 0 ≤ P 50 1 ∧ P 50 1 ≤ 4 := ⟨by omega, by omega⟩
  have hS0 := po_S hI
  have hl0 := hR.2.2.2.2.1
  have hl1 := hR.2.2.2.2.2
  have htl := hR.2.2.1.1.2
  have h10 := hR.2.2.1.1.1
  have hroom0 : cells ≤ 600000 ∧ slots ≤ 7000000 := ⟨by omega, by omega⟩
  obtain ⟨q9, e_q9, hrq9⟩ : ∃ z : Int, xs (i + 1).toNat = iI z ∧ -2147483648 ≤ z ∧ z ≤ 2147483647 := ⟨_, iI_of _, iI_rng _⟩
  have hmid : ∀ (k : Int) (a' : Nat → Nat) (f' : Nat → Int64) (P' : Nat → Int → Int) (H : Heap) (locs : List Loc) (cells' slots' : Nat), (0 ≤ k ∧ k ≤ 3) → a' 100 = a 100 → (∀ (r9 : Int) (R' : Nat → Int → Int), (((¬ (0 ≤ q9 ∧ q9 ≤ 5)) ∧ r9 = 0 ∧ R' = (upr R 0 (ups (R 0) 6 1))) ∨ ((0 ≤ q9 ∧ q9 ≤ 5) ∧ r9 = bdF (R 1) q9 ∧ R' = (upr (upr R 0 (ups (R 0) 6 0)) 1 (R 1)))) → (R' 0 6 = k ∧ (k = 0 → f' 0 = (iI r9).toInt64)) ∧ Rl P' R') → va_P D vwCl (lawW cy a' a2 o f' P' R) H → va_D (fun q : Nat => s.heap.size ≤ q) (lawW cy a' a2 o f' P' R) → va_S (fun q : Nat => s.heap.size ≤ q) s.heap H locs → (cells' ≤ cells + 1 ∧ slots' ≤ slots + 6) → W p l e room_1 s m #[Value.ref b] below meth c H locs cells' slots' Q (F0 m 1390 ls [.int (iI k)]) := by
    intro k a' f' P' H locs cells' slots' hk3 ha hpost hP hD hS hcs
    have hroom9 : cells' ≤ 600000 ∧ slots' ≤ 7000000 := ⟨by omega, by omega⟩
    refine lv_istore (lv' := [(5, .int (iI k)), (0, .ref b), (1, .ref (a 100)), (2, .ref (a2 0)), (3, .ref o), (4, .int (iI i))]) hx hb dL_law_1390 hl (by decide) rfl (fun ls hl => ?_)
    refine lv_aload_n hx hb dL_law_1392 rfl (lv_at hl 3 rfl) ?_
    refine z_arg C hS dL_law_1393 dL_law_1394 dL_law_1396 dL_law_1397 dL_law_1398 (k := 1) (by decide) hi (lv_at hl 1 rfl) (lv_at hl 5 rfl) e_q9 ?_
    refine zl_virt (As := [.int (iI q9)]) (rest := []) (pb_rf (cy := cy) (a := a') (a2 := a2) (o := o) (f := f') (P := P') (R := R)) ⟨hx, hb, hml, hown, hts⟩ (c_X7_bestDrift l D cy H.size a2 R q9 hIr hrq9) gL_law_X7_bestDrift rfl ⟨rfl, rfl⟩ 1 rfl (by decide +kernel) ⟨Nat.le_of_ble_eq_true rfl, Nat.le_of_ble_eq_true rfl⟩ (GG_ok D cy) hGG hA hP hD hS (va_recv hKk (pb_rw hP) (ci := 6) (q0 := 0) rfl rfl) hl.1 rfl (Nat.le_of_ble_eq_true rfl) (rm_0 hroom9) dL_law_1399 (fun r9 R' H locs hq hP hD hS => ?_)
    have hq := hpost r9 R' hq
    rw [← ha] at hl
    exact z_tail C K dL_law_1402 dL_law_1404 dL_law_1405 dL_law_1408 dL_law_1410 dL_law_1415 dL_law_1417 dL_law_1420 dL_law_1421 dL_law_1422 dL_law_1423 dL_law_1425 dL_law_1426 dL_law_1427 dL_law_1432 (by decide) hq.1.1 hk3 hq.1.2 hq.2 hP hD hS hl hcs hroom9
  refine lv_aload_n hx hb dL_law_1379 rfl (lv_at hl 1 rfl) ?_
  refine z_arg C hS dL_law_1380 dL_law_1381 dL_law_1383 dL_law_1384 dL_law_1385 (k := 1) (by decide) hi (lv_at hl 0 rfl) (lv_at hl 4 rfl) e_q9 ?_
  refine lv_aload_n hx hb dL_law_1386 rfl (lv_at hl 3 rfl) ?_
  by_cases hm9 : 0 ≤ q9 ∧ q9 ≤ 5
  · skip
    refine zl_stat (As := [.ref (a 100), .int (iI q9), .ref o]) (rest := []) (pb_pl (cy := cy) (a := a) (a2 := a2) (o := o) (f := fo) (P := P) (R := R)) ⟨hx, hb, hml, hown, hts⟩ (c_L_bestDrift l H.size o fo D cy a P q9 hI hm9) gL_law_L_bestDrift rfl ⟨rfl, rfl⟩ 3 rfl (by decide +kernel) ⟨Nat.le_of_ble_eq_true rfl, Nat.le_of_ble_eq_true rfl⟩ (GG_ok D cy) hGG hA hP hD hS hl.1 rfl (Nat.le_of_ble_eq_true rfl) (rm_0 hroom0) dL_law_1387 (fun r U9 H locs hpost hP hD hS => ?_)
    obtain ⟨hr0, v9, hv, hv2⟩ := hpost
    rw [hr0]
    refine hmid 0 a U9.2 P H locs _ _ (by decide) rfl (fun r9 R' hq => ?_) hP hD hS ⟨by omega, by omega⟩
    rcases hq with ⟨c9, e9, rfl⟩ | ⟨c9, e9, rfl⟩
    · exact absurd hm9 c9
    · exact ⟨⟨(rq_c R).2, fun _ => ev9 hv (Eq.trans hv2 (by rw [e9, bdFA q9 hIr hag]))⟩, rl_q hR (rq_c R).1 (objq_rfl hR)⟩
  · skip
    refine zl_stat (As := [.ref (a 100), .int (iI q9), .ref o]) (rest := []) (pb_tp (cy := cy) (a := a) (a2 := a2) (o := o) (f := fo) (P := P) (R := R)) ⟨hx, hb, hml, hown, hts⟩ (c_L_bestDrift_t2 l hst H.size o D cy a P q9 hrq9 hm9) gL_law_L_bestDrift rfl ⟨rfl, rfl⟩ 3 rfl (by decide +kernel) ⟨Nat.le_of_ble_eq_true rfl, Nat.le_of_ble_eq_true rfl⟩ (GX_ok D cy) hGX hA hP hD hS hl.1 rfl (Nat.le_of_ble_eq_true rfl) (rm_1 hroom0) dL_law_1387 (fun r U9 H locs hpost hP hD hS => ?_)
    have hr0 : r = 1 := hpost
    rw [hr0]
    refine hmid 1 a fo P H locs _ _ (by decide) rfl (fun r9 R' hq => ?_) hP hD hS ⟨by omega, by omega⟩
    rcases hq with ⟨c9, e9, rfl⟩ | ⟨c9, e9, rfl⟩
    · exact ⟨⟨(rq_t R _).2, fun h => absurd h (by decide)⟩, rl_q hR (rq_t R _).1 (objq_rfl hR)⟩
    · exact absurd c9 hm9
