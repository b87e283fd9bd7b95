/-! the law's calls -/
set_option maxHeartbeats 4000000 in
set_option maxRecDepth 100000 in
theorem zc_addTrail {p : Program} {l : Launch} {e : Env} {s : State} {m : MethodId} {below : List Frame} {meth : Method} {c : Code} {b L : Nat} {xs : Nat → Int32} {D : va_G} {cy : Nat → ClassId} {Q : State → Prop} {H : Heap} {locs : List Loc} {cells slots : Nat} {ls : Array Slot} {a a2 : Nat → Nat} {o : Nat} {fo : Nat → Int64} {P R : Nat → Int → Int} (C : zC p l s m c b L xs D cy) {i : Int} (K : zK p l e s m below meth c b D cy Q i (cells + 1) (slots + 6)) (hi : 0 ≤ i ∧ i + 5 ≤ (L : Int)) (hroom : cells + 1 ≤ 600000 ∧ slots + 6 ≤ 7000000) (hR : Rl P R) (hP : va_P D vwCl (lawW cy a a2 o fo P R) H) (hD : va_D (fun q : Nat => s.heap.size ≤ q) (lawW cy a a2 o fo P R)) (hS : va_S (fun q : Nat => s.heap.size ≤ q) s.heap H locs) (hl : lv_has ls 7 [(0, .ref b), (1, .ref (a 100)), (2, .ref (a2 0)), (3, .ref o), (4, .int (iI i))]) : W p l e room_1 s m #[Value.ref b] below meth c H locs cells slots Q (F0 m 164 ls []) := by
  obtain ⟨⟨hx, hb, hml, hown⟩, hts, ⟨hX, hbl, hL⟩, hGX, hst⟩ := id C
  have hGG := hGX.1.1
  have hKk := hGG.1
  have hA : ∀ q : Nat, s.heap.size ≤ q → (fun q : Nat => s.heap.size ≤ q) q := fun _ h => h
  have hI := hR.inv
  have hIr := hR.1.1
  have hag := hR.1.2
  obtain ⟨h12, h13⟩ := rl_12 hR
  have h8 : R 1 8 = P 8 8 := rl_st hR (by decide) (by decide)
  have hsc := hR.2.1.1.2
  have h50 := hR.2.1.1.1
  have hsv : 0 ≤ P 50 1 ∧ P 50 1 ≤ 4 := ⟨by omega, by omega⟩
  have hS0 := po_S hI
  have hl0 := hR.2.2.2.2.1
  have hl1 := hR.2.2.2.2.2
  have htl := hR.2.2.1.1.2
  have h10 := hR.2.2.1.1.1
  have hroom0 : cells ≤ 600000 ∧ slots ≤ 7000000 := ⟨by omega, by omega⟩
  have hmid : ∀ (k : Int) (a' : Nat → Nat) (f' : Nat → Int64) (P' : Nat → Int → Int) (H : Heap) (locs : List Loc) (cells' slots' : Nat), (0 ≤ k ∧ k ≤ 3) → a' 100 = a 100 → (∀ (r9 : Int) (R' : Nat → Int → Int), (((R 1 12 = 12) ∧ r9 = 0 ∧ R' = (upr R 0 (ups (R 0) 6 1))) ∨ ((R 1 12 < 12) ∧ r9 = R 1 12 ∧ R' = (upr (upr (upr R 0 (ups (ups (R 0) 6 0) 2 (kpN (R 0 2)))) 1 (tAT (R 1))) 2 (kpS (R 2) (R 1) (R 0 2))))) → (R' 0 6 = k ∧ (k = 0 → f' 0 = (iI r9).toInt64)) ∧ Rl P' R') → va_P D vwCl (lawW cy a' a2 o f' P' R) H → va_D (fun q : Nat => s.heap.size ≤ q) (lawW cy a' a2 o f' P' R) → va_S (fun q : Nat => s.heap.size ≤ q) s.heap H locs → (cells' ≤ cells + 1 ∧ slots' ≤ slots + 6) → W p l e room_1 s m #[Value.ref b] below meth c H locs cells' slots' Q (F0 m 169 ls [.int (iI k)]) := by
    intro k a' f' P' H locs cells' slots' hk3 ha hpost hP hD hS hcs
    have hroom9 : cells' ≤ 600000 ∧ slots' ≤ 7000000 := ⟨by omega, by omega⟩
    refine lv_istore (lv' := [(5, .int (iI k)), (0, .ref b), (1, .ref (a 100)), (2, .ref (a2 0)), (3, .ref o), (4, .int (iI i))]) hx hb dL_law_169 hl (by decide) rfl (fun ls hl => ?_)
    refine lv_aload_n hx hb dL_law_171 rfl (lv_at hl 3 rfl) ?_
    refine zl_virt (As := []) (rest := []) (pb_rf (cy := cy) (a := a') (a2 := a2) (o := o) (f := f') (P := P') (R := R)) ⟨hx, hb, hml, hown, hts⟩ (c_X7_addTrail l D cy H.size a2 R  hIr hsc) gL_law_X7_addTrail rfl ⟨rfl, rfl⟩ 0 rfl (by decide +kernel) ⟨Nat.le_of_ble_eq_true rfl, Nat.le_of_ble_eq_true rfl⟩ (GG_ok D cy) hGG hA hP hD hS (va_recv hKk (pb_rw hP) (ci := 6) (q0 := 0) rfl rfl) hl.1 rfl (Nat.le_of_ble_eq_true rfl) (rm_0 hroom9) dL_law_172 (fun r9 R' H locs hq hP hD hS => ?_)
    have hq := hpost r9 R' hq
    rw [← ha] at hl
    exact z_tail C K dL_law_175 dL_law_177 dL_law_178 dL_law_181 dL_law_183 dL_law_188 dL_law_190 dL_law_193 dL_law_194 dL_law_195 dL_law_196 dL_law_198 dL_law_199 dL_law_200 dL_law_205 (by decide) hq.1.1 hk3 hq.1.2 hq.2 hP hD hS hl hcs hroom9
  refine lv_aload_n hx hb dL_law_164 rfl (lv_at hl 1 rfl) ?_
  refine lv_aload_n hx hb dL_law_165 rfl (lv_at hl 3 rfl) ?_
  by_cases hno : P 0 0 = 12
  · skip
    refine zl_stat (As := [.ref (a 100), .ref o]) (rest := []) (pb_tp (cy := cy) (a := a) (a2 := a2) (o := o) (f := fo) (P := P) (R := R)) ⟨hx, hb, hml, hown, hts⟩ (c_L_addTrail_t3 l hst H.size o D cy a P hI hno) gL_law_L_addTrail rfl ⟨rfl, rfl⟩ 2 rfl (by decide +kernel) ⟨Nat.le_of_ble_eq_true rfl, Nat.le_of_ble_eq_true rfl⟩ (GX_ok D cy) hGX hA hP hD hS hl.1 rfl (Nat.le_of_ble_eq_true rfl) (rm_1 hroom0) dL_law_166 (fun r U9 H locs hpost hP hD hS => ?_)
    have hr0 : r = 1 := hpost
    rw [hr0]
    refine hmid 1 a fo P H locs _ _ (by decide) rfl (fun r9 R' hq => ?_) hP hD hS ⟨by omega, by omega⟩
    rcases hq with ⟨c9, e9, rfl⟩ | ⟨c9, e9, rfl⟩
    · exact ⟨⟨(rq_t R _).2, fun h => absurd h (by decide)⟩, rl_q hR (rq_t R _).1 (objq_rfl hR)⟩
    · exfalso
      omega
  · have hok : P 0 0 < 12 := by omega
    refine zl_stat (As := [.ref (a 100), .ref o]) (rest := []) (pb_hs (cy := cy) (a := a) (a2 := a2) (o := o) (f := fo) (P := P) (R := R)) ⟨hx, hb, hml, hown, hts⟩ (c_L_addTrail l H.size o fo D cy a P hI hsv hok) gL_law_L_addTrail rfl ⟨rfl, rfl⟩ 2 rfl (by decide +kernel) ⟨Nat.le_of_ble_eq_true rfl, Nat.le_of_ble_eq_true rfl⟩ (GG_ok D cy) hGG hA hP hD hS hl.1 rfl (Nat.le_of_ble_eq_true rfl) (rm_0 hroom0) dL_law_166 (fun r U9 H locs hpost hP hD hS => ?_)
    obtain ⟨hr0, v9, hv, hv2, ho⟩ := hpost
    rw [hr0]
    refine hmid 0 (pgm a U9.1.1) U9.2 (mixB inHs P U9.1.2) H locs _ _ (by decide) rfl (fun r9 R' hq => ?_) hP hD hS ⟨by omega, by omega⟩
    rw [mx_hs ho.2.2.1]
    rcases hq with ⟨c9, e9, rfl⟩ | ⟨c9, e9, rfl⟩
    · exfalso
      omega
    · exact ⟨⟨(ro_t R _).2, fun _ => ev9 hv (by omega)⟩, rl_op hR ho (ro_t R _).1 (at_ag hIr hag c9) (at_inv hIr c9)⟩
set_option maxHeartbeats 4000000 in
set_option maxRecDepth 100000 in
theorem zc_removeTrail {p : Program} {l : Launch} {e : Env} {s : State} {m : MethodId} {below : List Frame} {meth : Method} {c : Code} {b L : Nat} {xs : Nat → Int32} {D : va_G} {cy : Nat → ClassId} {Q : State → Prop} {H : Heap} {locs : List Loc} {cells slots : Nat} {ls : Array Slot} {a a2 : Nat → Nat} {o : Nat} {fo : Nat → Int64} {P R : Nat → Int → Int} (C : zC p l s m c b L xs D cy) {i : Int} (K : zK p l e s m below meth c b D cy Q i (cells + 1) (slots + 6)) (hi : 0 ≤ i ∧ i + 5 ≤ (L : Int)) (hroom : cells + 1 ≤ 600000 ∧ slots + 6 ≤ 7000000) (hR : Rl P R) (hP : va_P D vwCl (lawW cy a a2 o fo P R) H) (hD : va_D (fun q : Nat => s.heap.size ≤ q) (lawW cy a a2 o fo P R)) (hS : va_S (fun q : Nat => s.heap.size ≤ q) s.heap H locs) (hl : lv_has ls 7 [(0, .ref b), (1, .ref (a 100)), (2, .ref (a2 0)), (3, .ref o), (4, .int (iI i))]) : W p l e room_1 s m #[Value.ref b] below meth c H locs cells slots Q (F0 m 208 ls []) := by
  obtain ⟨⟨hx, hb, hml, hown⟩, hts, ⟨hX, hbl, hL⟩, hGX, hst⟩ := id C
  have hGG := hGX.1.1
  have hKk := hGG.1
  have hA : ∀ q : Nat, s.heap.size ≤ q → (fun q : Nat => s.heap.size ≤ q) q := fun _ h => h
  have hI := hR.inv
  have hIr := hR.1.1
  have hag := hR.1.2
  obtain ⟨h12, h13⟩ := rl_12 hR
  have h8 : R 1 8 = P 8 8 := rl_st hR (by decide) (by decide)
  have hsc := hR.2.1.1.2
  have h50 := hR.2.1.1.1
  have hsv : 0 ≤ P 50 1 ∧ P 50 1 ≤ 4 := ⟨by omega, by omega⟩
  have hS0 := po_S hI
  have hl0 := hR.2.2.2.2.1
  have hl1 := hR.2.2.2.2.2
  have htl := hR.2.2.1.1.2
  have h10 := hR.2.2.1.1.1
  have hroom0 : cells ≤ 600000 ∧ slots ≤ 7000000 := ⟨by omega, by omega⟩
  obtain ⟨t, e_t, hrt⟩ : ∃ z : Int, xs (i + 1).toNat = iI z ∧ -2147483648 ≤ z ∧ z ≤ 2147483647 := ⟨_, iI_of _, iI_rng _⟩
  have hmid : ∀ (k : Int) (a' : Nat → Nat) (f' : Nat → Int64) (P' : Nat → Int → Int) (H : Heap) (locs : List Loc) (cells' slots' : Nat), (0 ≤ k ∧ k ≤ 3) → a' 100 = a 100 → (∀ (r9 : Int) (R' : Nat → Int → Int), (((¬ (0 ≤ t ∧ t < R 1 12)) ∧ r9 = 0 ∧ R' = (upr R 0 (ups (R 0) 6 1))) ∨ ((0 ≤ t ∧ t < R 1 12) ∧ r9 = R 1 12 - 1 ∧ R' = (upr (upr (upr R 0 (ups (ups (R 0) 6 0) 2 (kpN (R 0 2)))) 1 (tRT (R 1) t)) 2 (kpS (R 2) (R 1) (R 0 2))))) → (R' 0 6 = k ∧ (k = 0 → f' 0 = (iI r9).toInt64)) ∧ Rl P' R') → va_P D vwCl (lawW cy a' a2 o f' P' R) H → va_D (fun q : Nat => s.heap.size ≤ q) (lawW cy a' a2 o f' P' R) → va_S (fun q : Nat => s.heap.size ≤ q) s.heap H locs → (cells' ≤ cells + 1 ∧ slots' ≤ slots + 6) → W p l e room_1 s m #[Value.ref b] below meth c H locs cells' slots' Q (F0 m 219 ls [.int (iI k)]) := by
    intro k a' f' P' H locs cells' slots' hk3 ha hpost hP hD hS hcs
    have hroom9 : cells' ≤ 600000 ∧ slots' ≤ 7000000 := ⟨by omega, by omega⟩
    refine lv_istore (lv' := [(5, .int (iI k)), (0, .ref b), (1, .ref (a 100)), (2, .ref (a2 0)), (3, .ref o), (4, .int (iI i))]) hx hb dL_law_219 hl (by decide) rfl (fun ls hl => ?_)
    refine lv_aload_n hx hb dL_law_221 rfl (lv_at hl 3 rfl) ?_
    refine z_arg C hS dL_law_222 dL_law_223 dL_law_225 dL_law_226 dL_law_227 (k := 1) (by decide) hi (lv_at hl 1 rfl) (lv_at hl 5 rfl) e_t ?_
    refine zl_virt (As := [.int (iI t)]) (rest := []) (pb_rf (cy := cy) (a := a') (a2 := a2) (o := o) (f := f') (P := P') (R := R)) ⟨hx, hb, hml, hown, hts⟩ (c_X7_removeTrail l D cy H.size a2 R t hIr hsc hrt) gL_law_X7_removeTrail rfl ⟨rfl, rfl⟩ 1 rfl (by decide +kernel) ⟨Nat.le_of_ble_eq_true rfl, Nat.le_of_ble_eq_true rfl⟩ (GG_ok D cy) hGG hA hP hD hS (va_recv hKk (pb_rw hP) (ci := 6) (q0 := 0) rfl rfl) hl.1 rfl (Nat.le_of_ble_eq_true rfl) (rm_0 hroom9) dL_law_228 (fun r9 R' H locs hq hP hD hS => ?_)
    have hq := hpost r9 R' hq
    rw [← ha] at hl
    exact z_tail C K dL_law_231 dL_law_233 dL_law_234 dL_law_237 dL_law_239 dL_law_244 dL_law_246 dL_law_249 dL_law_250 dL_law_251 dL_law_252 dL_law_254 dL_law_255 dL_law_256 dL_law_261 (by decide) hq.1.1 hk3 hq.1.2 hq.2 hP hD hS hl hcs hroom9
  refine lv_aload_n hx hb dL_law_208 rfl (lv_at hl 1 rfl) ?_
  refine z_arg C hS dL_law_209 dL_law_210 dL_law_212 dL_law_213 dL_law_214 (k := 1) (by decide) hi (lv_at hl 0 rfl) (lv_at hl 4 rfl) e_t ?_
  refine lv_aload_n hx hb dL_law_215 rfl (lv_at hl 3 rfl) ?_
  by_cases c1 : 0 ≤ t ∧ t < P 0 0
  · obtain ⟨h0, h1⟩ := c1
    refine zl_stat (As := [.ref (a 100), .int (iI t), .ref o]) (rest := []) (pb_hs (cy := cy) (a := a) (a2 := a2) (o := o) (f := fo) (P := P) (R := R)) ⟨hx, hb, hml, hown, hts⟩ (c_L_removeTrail l H.size o fo D cy a P t hI hsv h0 h1) gL_law_L_removeTrail rfl ⟨rfl, rfl⟩ 3 rfl (by decide +kernel) ⟨Nat.le_of_ble_eq_true rfl, Nat.le_of_ble_eq_true rfl⟩ (GG_ok D cy) hGG hA hP hD hS hl.1 rfl (Nat.le_of_ble_eq_true rfl) (rm_0 hroom0) dL_law_216 (fun r U9 H locs hpost hP hD hS => ?_)
    obtain ⟨hr0, v9, hv, hv2, ho⟩ := hpost
    rw [hr0]
    refine hmid 0 (pgm a U9.1.1) U9.2 (mixB inHs P U9.1.2) H locs _ _ (by decide) rfl (fun r9 R' hq => ?_) hP hD hS ⟨by omega, by omega⟩
    rw [mx_hs ho.2.2.1]
    rcases hq with ⟨c9, e9, rfl⟩ | ⟨c9, e9, rfl⟩
    · exfalso
      omega
    · exact ⟨⟨(ro_t R _).2, fun _ => ev9 hv (by omega)⟩, rl_op hR ho (ro_t R _).1 (rt_ag hIr hag c9.1 c9.2) (rt_inv hIr c9.1 c9.2)⟩
  · skip
    refine zl_stat (As := [.ref (a 100), .int (iI t), .ref o]) (rest := []) (pb_tp (cy := cy) (a := a) (a2 := a2) (o := o) (f := fo) (P := P) (R := R)) ⟨hx, hb, hml, hown, hts⟩ (c_L_removeTrail_t1 l hst H.size o D cy a P t hI hrt c1) gL_law_L_removeTrail rfl ⟨rfl, rfl⟩ 3 rfl (by decide +kernel) ⟨Nat.le_of_ble_eq_true rfl, Nat.le_of_ble_eq_true rfl⟩ (GX_ok D cy) hGX hA hP hD hS hl.1 rfl (Nat.le_of_ble_eq_true rfl) (rm_1 hroom0) dL_law_216 (fun r U9 H locs hpost hP hD hS => ?_)
    have hr0 : r = 1 := hpost
    rw [hr0]
    refine hmid 1 a fo P H locs _ _ (by decide) rfl (fun r9 R' hq => ?_) hP hD hS ⟨by omega, by omega⟩
    rcases hq with ⟨c9, e9, rfl⟩ | ⟨c9, e9, rfl⟩
    · exact ⟨⟨(rq_t R _).2, fun h => absurd h (by decide)⟩, rl_q hR (rq_t R _).1 (objq_rfl hR)⟩
    · exfalso
      omega
set_option maxHeartbeats 4000000 in
set_option maxRecDepth 100000 in
theorem zc_addPoint {p : Program} {l : Launch} {e : Env} {s : State} {m : MethodId} {below : List Frame} {meth : Method} {c : Code} {b L : Nat} {xs : Nat → Int32} {D : va_G} {cy : Nat → ClassId} {Q : State → Prop} {H : Heap} {locs : List Loc} {cells slots : Nat} {ls : Array Slot} {a a2 : Nat → Nat} {o : Nat} {fo : Nat → Int64} {P R : Nat → Int → Int} (C : zC p l s m c b L xs D cy) {i : Int} (K : zK p l e s m below meth c b D cy Q i (cells + 1) (slots + 6)) (hi : 0 ≤ i ∧ i + 5 ≤ (L : Int)) (hroom : cells + 1 ≤ 600000 ∧ slots + 6 ≤ 7000000) (hR : Rl P R) (hP : va_P D vwCl (lawW cy a a2 o fo P R) H) (hD : va_D (fun q : Nat => s.heap.size ≤ q) (lawW cy a a2 o fo P R)) (hS : va_S (fun q : Nat => s.heap.size ≤ q) s.heap H locs) (hl : lv_has ls 7 [(0, .ref b), (1, .ref (a 100)), (2, .ref (a2 0)), (3, .ref o), (4, .int (iI i))]) : W p l e room_1 s m #[Value.ref b] below meth c H locs cells slots Q (F0 m 264 ls []) := by
  obtain ⟨⟨hx, hb, hml, hown⟩, hts, ⟨hX, hbl, hL⟩, hGX, hst⟩ := id C
  have hGG := hGX.1.1
  have hKk := hGG.1
  have hA : ∀ q : Nat, s.heap.size ≤ q → (fun q : Nat => s.heap.size ≤ q) q := fun _ h => h
  have hI := hR.inv
  have hIr := hR.1.1
  have hag := hR.1.2
  obtain ⟨h12, h13⟩ := rl_12 hR
  have h8 : R 1 8 = P 8 8 := rl_st hR (by decide) (by decide)
  have hsc := hR.2.1.1.2
  have h50 := hR.2.1.1.1
  have hsv : 0 ≤ P 50 1 ∧ P 50 1 ≤ 4 := ⟨by omega, by omega⟩
  have hS0 := po_S hI
  have hl0 := hR.2.2.2.2.1
  have hl1 := hR.2.2.2.2.2
  have htl := hR.2.2.1.1.2
  have h10 := hR.2.2.1.1.1
  have hroom0 : cells ≤ 600000 ∧ slots ≤ 7000000 := ⟨by omega, by omega⟩
  obtain ⟨t, e_t, hrt⟩ : ∃ z : Int, xs (i + 1).toNat = iI z ∧ -2147483648 ≤ z ∧ z ≤ 2147483647 := ⟨_, iI_of _, iI_rng _⟩
  obtain ⟨f, e_f, hrf⟩ : ∃ z : Int, xs (i + 2).toNat = iI z ∧ -2147483648 ≤ z ∧ z ≤ 2147483647 := ⟨_, iI_of _, iI_rng _⟩
  obtain ⟨x, e_x, hrx⟩ : ∃ z : Int, xs (i + 3).toNat = iI z ∧ -2147483648 ≤ z ∧ z ≤ 2147483647 := ⟨_, iI_of _, iI_rng _⟩
  obtain ⟨y, e_y, hry⟩ : ∃ z : Int, xs (i + 4).toNat = iI z ∧ -2147483648 ≤ z ∧ z ≤ 2147483647 := ⟨_, iI_of _, iI_rng _⟩
  have hmid : ∀ (k : Int) (a' : Nat → Nat) (f' : Nat → Int64) (P' : Nat → Int → Int) (H : Heap) (locs : List Loc) (cells' slots' : Nat), (0 ≤ k ∧ k ≤ 3) → a' 100 = a 100 → (∀ (r9 : Int) (R' : Nat → Int → Int), (((¬ (0 ≤ t ∧ t < R 1 12)) ∧ r9 = 0 ∧ R' = (upr R 0 (ups (R 0) 6 1))) ∨ (((0 ≤ t ∧ t < R 1 12) ∧ ¬ pointOK f x y) ∧ r9 = 0 ∧ R' = (upr R 0 (ups (R 0) 6 2))) ∨ ((((0 ≤ t ∧ t < R 1 12) ∧ pointOK f x y) ∧ (pts (R 1) t = 12 ∨ hasF (R 1) t f)) ∧ r9 = 0 ∧ R' = (upr R 0 (ups (R 0) 6 3))) ∨ ((((0 ≤ t ∧ t < R 1 12) ∧ pointOK f x y) ∧ (pts (R 1) t < 12 ∧ ¬ hasF (R 1) t f)) ∧ r9 = posF (R 1) t f ∧ R' = (upr (upr (upr R 0 (ups (ups (R 0) 6 0) 2 (kpN (R 0 2)))) 1 (tAP (R 1) t f x y)) 2 (kpS (R 2) (R 1) (R 0 2))))) → (R' 0 6 = k ∧ (k = 0 → f' 0 = (iI r9).toInt64)) ∧ Rl P' R') → va_P D vwCl (lawW cy a' a2 o f' P' R) H → va_D (fun q : Nat => s.heap.size ≤ q) (lawW cy a' a2 o f' P' R) → va_S (fun q : Nat => s.heap.size ≤ q) s.heap H locs → (cells' ≤ cells + 1 ∧ slots' ≤ slots + 6) → W p l e room_1 s m #[Value.ref b] below meth c H locs cells' slots' Q (F0 m 293 ls [.int (iI k)]) := by
    intro k a' f' P' H locs cells' slots' hk3 ha hpost hP hD hS hcs
    have hroom9 : cells' ≤ 600000 ∧ slots' ≤ 7000000 := ⟨by omega, by omega⟩
    refine lv_istore (lv' := [(5, .int (iI k)), (0, .ref b), (1, .ref (a 100)), (2, .ref (a2 0)), (3, .ref o), (4, .int (iI i))]) hx hb dL_law_293 hl (by decide) rfl (fun ls hl => ?_)
    refine lv_aload_n hx hb dL_law_295 rfl (lv_at hl 3 rfl) ?_
    refine z_arg C hS dL_law_296 dL_law_297 dL_law_299 dL_law_300 dL_law_301 (k := 1) (by decide) hi (lv_at hl 1 rfl) (lv_at hl 5 rfl) e_t ?_
    refine z_arg C hS dL_law_302 dL_law_303 dL_law_305 dL_law_306 dL_law_307 (k := 2) (by decide) hi (lv_at hl 1 rfl) (lv_at hl 5 rfl) e_f ?_
    refine z_arg C hS dL_law_308 dL_law_309 dL_law_311 dL_law_312 dL_law_313 (k := 3) (by decide) hi (lv_at hl 1 rfl) (lv_at hl 5 rfl) e_x ?_
    refine z_arg C hS dL_law_314 dL_law_315 dL_law_317 dL_law_318 dL_law_319 (k := 4) (by decide) hi (lv_at hl 1 rfl) (lv_at hl 5 rfl) e_y ?_
    refine zl_virt (As := [.int (iI t), .int (iI f), .int (iI x), .int (iI y)]) (rest := []) (pb_rf (cy := cy) (a := a') (a2 := a2) (o := o) (f := f') (P := P') (R := R)) ⟨hx, hb, hml, hown, hts⟩ (c_X7_addPoint l D cy H.size a2 R t f x y hIr hsc hrt hrf hrx hry) gL_law_X7_addPoint rfl ⟨rfl, rfl⟩ 4 rfl (by decide +kernel) ⟨Nat.le_of_ble_eq_true rfl, Nat.le_of_ble_eq_true rfl⟩ (GG_ok D cy) hGG hA hP hD hS (va_recv hKk (pb_rw hP) (ci := 6) (q0 := 0) rfl rfl) hl.1 rfl (Nat.le_of_ble_eq_true rfl) (rm_0 hroom9) dL_law_320 (fun r9 R' H locs hq hP hD hS => ?_)
    have hq := hpost r9 R' hq
    rw [← ha] at hl
    exact z_tail C K dL_law_323 dL_law_325 dL_law_326 dL_law_329 dL_law_331 dL_law_336 dL_law_338 dL_law_341 dL_law_342 dL_law_343 dL_law_344 dL_law_346 dL_law_347 dL_law_348 dL_law_353 (by decide) hq.1.1 hk3 hq.1.2 hq.2 hP hD hS hl hcs hroom9
  refine lv_aload_n hx hb dL_law_264 rfl (lv_at hl 1 rfl) ?_
  refine z_arg C hS dL_law_265 dL_law_266 dL_law_268 dL_law_269 dL_law_270 (k := 1) (by decide) hi (lv_at hl 0 rfl) (lv_at hl 4 rfl) e_t ?_
  refine z_arg C hS dL_law_271 dL_law_272 dL_law_274 dL_law_275 dL_law_276 (k := 2) (by decide) hi (lv_at hl 0 rfl) (lv_at hl 4 rfl) e_f ?_
  refine z_arg C hS dL_law_277 dL_law_278 dL_law_280 dL_law_281 dL_law_282 (k := 3) (by decide) hi (lv_at hl 0 rfl) (lv_at hl 4 rfl) e_x ?_
  refine z_arg C hS dL_law_283 dL_law_284 dL_law_286 dL_law_287 dL_law_288 (k := 4) (by decide) hi (lv_at hl 0 rfl) (lv_at hl 4 rfl) e_y ?_
  refine lv_aload_n hx hb dL_law_289 rfl (lv_at hl 3 rfl) ?_
  by_cases c1 : 0 ≤ t ∧ t < P 0 0
  · obtain ⟨h0, h1⟩ := c1
    have hpt := rl_pt hR h0 h1
    have hha := rl_has hR h0 h1 f
    have hp12 := po_pts hI h0 h1
    by_cases hpk : pointOK f x y
    · by_cases c3 : P 1 t = 12 ∨ hasF (mO P) t f
      · skip
        refine zl_stat (As := [.ref (a 100), .int (iI t), .int (iI f), .int (iI x), .int (iI y), .ref o]) (rest := []) (pb_tp (cy := cy) (a := a) (a2 := a2) (o := o) (f := fo) (P := P) (R := R)) ⟨hx, hb, hml, hown, hts⟩ (c_L_addPoint_t3 l hst H.size o D cy a P t f x y hI h0 h1 hrt hrf hrx hry hpk c3) gL_law_L_addPoint rfl ⟨rfl, rfl⟩ 6 rfl (by decide +kernel) ⟨Nat.le_of_ble_eq_true rfl, Nat.le_of_ble_eq_true rfl⟩ (GX_ok D cy) hGX hA hP hD hS hl.1 rfl (Nat.le_of_ble_eq_true rfl) (rm_1 hroom0) dL_law_290 (fun r U9 H locs hpost hP hD hS => ?_)
        have hr0 : r = 3 := hpost
        rw [hr0]
        refine hmid 3 a fo P H locs _ _ (by decide) rfl (fun r9 R' hq => ?_) hP hD hS ⟨by omega, by omega⟩
        rcases hq with ⟨c9, e9, rfl⟩ | ⟨c9, e9, rfl⟩ | ⟨c9, e9, rfl⟩ | ⟨c9, e9, rfl⟩
        · exfalso
          omega
        · exact absurd hpk c9.2
        · exact ⟨⟨(rq_t R _).2, fun h => absurd h (by decide)⟩, rl_q hR (rq_t R _).1 (objq_rfl hR)⟩
        · rcases c3 with c3 | c3
          · exfalso
            have := c9.2.1
            omega
          · exact absurd (hha.mpr c3) c9.2.2
      · have hp3 : P 1 t < 12 := by
          rcases Int.lt_or_le (P 1 t) 12 with h | h
          · exact h
          · exact absurd (Or.inl (by omega)) c3
        have hnf : ¬ hasF (mO P) t f := fun h => c3 (Or.inr h)
        refine zl_stat (As := [.ref (a 100), .int (iI t), .int (iI f), .int (iI x), .int (iI y), .ref o]) (rest := []) (pb_hs (cy := cy) (a := a) (a2 := a2) (o := o) (f := fo) (P := P) (R := R)) ⟨hx, hb, hml, hown, hts⟩ (c_L_addPoint l H.size o fo D cy a P t f x y hI hsv h0 h1 hrf hrx hry hpk hp3 hnf) gL_law_L_addPoint rfl ⟨rfl, rfl⟩ 6 rfl (by decide +kernel) ⟨Nat.le_of_ble_eq_true rfl, Nat.le_of_ble_eq_true rfl⟩ (GG_ok D cy) hGG hA hP hD hS hl.1 rfl (Nat.le_of_ble_eq_true rfl) (rm_0 hroom0) dL_law_290 (fun r U9 H locs hpost hP hD hS => ?_)
        obtain ⟨hr0, v9, hv, hv2, ho⟩ := hpost
        rw [hr0]
        refine hmid 0 (pgm a U9.1.1) U9.2 (mixB inHs P U9.1.2) H locs _ _ (by decide) rfl (fun r9 R' hq => ?_) hP hD hS ⟨by omega, by omega⟩
        rw [mx_hs ho.2.2.1]
        rcases hq with ⟨c9, e9, rfl⟩ | ⟨c9, e9, rfl⟩ | ⟨c9, e9, rfl⟩ | ⟨c9, e9, rfl⟩
        · exfalso
          omega
        · exact absurd hpk c9.2
        · rcases c9.2 with c4 | c4
          · exfalso
            omega
          · exact absurd (hha.mp c4) hnf
        · exact ⟨⟨(ro_t R _).2, fun _ => ev9 hv (hv2.trans (by rw [e9, posA hag h0 c9.1.1.2 (by omega) f]))⟩, rl_op hR ho (ro_t R _).1 (ap_ag hIr hag h0 c9.1.1.2 c9.2.1 c9.2.2) (ap_inv hIr h0 c9.1.1.2 c9.2.1 c9.2.2 hpk)⟩
    · skip
      refine zl_stat (As := [.ref (a 100), .int (iI t), .int (iI f), .int (iI x), .int (iI y), .ref o]) (rest := []) (pb_tp (cy := cy) (a := a) (a2 := a2) (o := o) (f := fo) (P := P) (R := R)) ⟨hx, hb, hml, hown, hts⟩ (c_L_addPoint_t2 l hst H.size o D cy a P t f x y hI h0 h1 hrt hrf hrx hry hpk) gL_law_L_addPoint rfl ⟨rfl, rfl⟩ 6 rfl (by decide +kernel) ⟨Nat.le_of_ble_eq_true rfl, Nat.le_of_ble_eq_true rfl⟩ (GX_ok D cy) hGX hA hP hD hS hl.1 rfl (Nat.le_of_ble_eq_true rfl) (rm_1 hroom0) dL_law_290 (fun r U9 H locs hpost hP hD hS => ?_)
      have hr0 : r = 2 := hpost
      rw [hr0]
      refine hmid 2 a fo P H locs _ _ (by decide) rfl (fun r9 R' hq => ?_) hP hD hS ⟨by omega, by omega⟩
      rcases hq with ⟨c9, e9, rfl⟩ | ⟨c9, e9, rfl⟩ | ⟨c9, e9, rfl⟩ | ⟨c9, e9, rfl⟩
      · exfalso
        omega
      · exact ⟨⟨(rq_t R _).2, fun h => absurd h (by decide)⟩, rl_q hR (rq_t R _).1 (objq_rfl hR)⟩
      · exact absurd c9.1.2 hpk
      · exact absurd c9.1.2 hpk
  · skip
    refine zl_stat (As := [.ref (a 100), .int (iI t), .int (iI f), .int (iI x), .int (iI y), .ref o]) (rest := []) (pb_tp (cy := cy) (a := a) (a2 := a2) (o := o) (f := fo) (P := P) (R := R)) ⟨hx, hb, hml, hown, hts⟩ (c_L_addPoint_t1 l hst H.size o D cy a P t f x y hI hrt hrf hrx hry c1) gL_law_L_addPoint rfl ⟨rfl, rfl⟩ 6 rfl (by decide +kernel) ⟨Nat.le_of_ble_eq_true rfl, Nat.le_of_ble_eq_true rfl⟩ (GX_ok D cy) hGX hA hP hD hS hl.1 rfl (Nat.le_of_ble_eq_true rfl) (rm_1 hroom0) dL_law_290 (fun r U9 H locs hpost hP hD hS => ?_)
    have hr0 : r = 1 := hpost
    rw [hr0]
    refine hmid 1 a fo P H locs _ _ (by decide) rfl (fun r9 R' hq => ?_) hP hD hS ⟨by omega, by omega⟩
    rcases hq with ⟨c9, e9, rfl⟩ | ⟨c9, e9, rfl⟩ | ⟨c9, e9, rfl⟩ | ⟨c9, e9, rfl⟩
    · exact ⟨⟨(rq_t R _).2, fun h => absurd h (by decide)⟩, rl_q hR (rq_t R _).1 (objq_rfl hR)⟩
    · exfalso
      omega
    · exfalso
      have := c9.1.1
      omega
    · exfalso
      have := c9.1.1
      omega
set_option maxHeartbeats 4000000 in
set_option maxRecDepth 100000 in
theorem zc_removePoint {p : Program} {l : Launch} {e : Env} {s : State} {m : MethodId} {below : List Frame} {meth : Method} {c : Code} {b L : Nat} {xs : Nat → Int32} {D : va_G} {cy : Nat → ClassId} {Q : State → Prop} {H : Heap} {locs : List Loc} {cells slots : Nat} {ls : Array Slot} {a a2 : Nat → Nat} {o : Nat} {fo : Nat → Int64} {P R : Nat → Int → Int} (C : zC p l s m c b L xs D cy) {i : Int} (K : zK p l e s m below meth c b D cy Q i (cells + 1) (slots + 6)) (hi : 0 ≤ i ∧ i + 5 ≤ (L : Int)) (hroom : cells + 1 ≤ 600000 ∧ slots + 6 ≤ 7000000) (hR : Rl P R) (hP : va_P D vwCl (lawW cy a a2 o fo P R) H) (hD : va_D (fun q : Nat => s.heap.size ≤ q) (lawW cy a a2 o fo P R)) (hS : va_S (fun q : Nat => s.heap.size ≤ q) s.heap H locs) (hl : lv_has ls 7 [(0, .ref b), (1, .ref (a 100)), (2, .ref (a2 0)), (3, .ref o), (4, .int (iI i))]) : W p l e room_1 s m #[Value.ref b] below meth c H locs cells slots Q (F0 m 356 ls []) := by
  obtain ⟨⟨hx, hb, hml, hown⟩, hts, ⟨hX, hbl, hL⟩, hGX, hst⟩ := id C
  have hGG := hGX.1.1
  have hKk := hGG.1
  have hA : ∀ q : Nat, s.heap.size ≤ q → (fun q : Nat => s.heap.size ≤ q) q := fun _ h => h
  have hI := hR.inv
  have hIr := hR.1.1
  have hag := hR.1.2
  obtain ⟨h12, h13⟩ := rl_12 hR
  have h8 : R 1 8 = P 8 8 := rl_st hR (by decide) (by decide)
  have hsc := hR.2.1.1.2
  have h50 := hR.2.1.1.1
  have hsv : 0 ≤ P 50 1 ∧ P 50 1 ≤ 4 := ⟨by omega, by omega⟩
  have hS0 := po_S hI
  have hl0 := hR.2.2.2.2.1
  have hl1 := hR.2.2.2.2.2
  have htl := hR.2.2.1.1.2
  have h10 := hR.2.2.1.1.1
  have hroom0 : cells ≤ 600000 ∧ slots ≤ 7000000 := ⟨by omega, by omega⟩
  obtain ⟨t, e_t, hrt⟩ : ∃ z : Int, xs (i + 1).toNat = iI z ∧ -2147483648 ≤ z ∧ z ≤ 2147483647 := ⟨_, iI_of _, iI_rng _⟩
  obtain ⟨q, e_q, hrq⟩ : ∃ z : Int, xs (i + 2).toNat = iI z ∧ -2147483648 ≤ z ∧ z ≤ 2147483647 := ⟨_, iI_of _, iI_rng _⟩
  have hmid : ∀ (k : Int) (a' : Nat → Nat) (f' : Nat → Int64) (P' : Nat → Int → Int) (H : Heap) (locs : List Loc) (cells' slots' : Nat), (0 ≤ k ∧ k ≤ 3) → a' 100 = a 100 → (∀ (r9 : Int) (R' : Nat → Int → Int), (((¬ ((0 ≤ t ∧ t < R 1 12) ∧ 0 ≤ q ∧ q < pts (R 1) t)) ∧ r9 = 0 ∧ R' = (upr R 0 (ups (R 0) 6 1))) ∨ (((0 ≤ t ∧ t < R 1 12) ∧ 0 ≤ q ∧ q < pts (R 1) t) ∧ r9 = pts (R 1) t - 1 ∧ R' = (upr (upr (upr R 0 (ups (ups (R 0) 6 0) 2 (kpN (R 0 2)))) 1 (tRP (R 1) t q)) 2 (kpS (R 2) (R 1) (R 0 2))))) → (R' 0 6 = k ∧ (k = 0 → f' 0 = (iI r9).toInt64)) ∧ Rl P' R') → va_P D vwCl (lawW cy a' a2 o f' P' R) H → va_D (fun q : Nat => s.heap.size ≤ q) (lawW cy a' a2 o f' P' R) → va_S (fun q : Nat => s.heap.size ≤ q) s.heap H locs → (cells' ≤ cells + 1 ∧ slots' ≤ slots + 6) → W p l e room_1 s m #[Value.ref b] below meth c H locs cells' slots' Q (F0 m 373 ls [.int (iI k)]) := by
    intro k a' f' P' H locs cells' slots' hk3 ha hpost hP hD hS hcs
    have hroom9 : cells' ≤ 600000 ∧ slots' ≤ 7000000 := ⟨by omega, by omega⟩
    refine lv_istore (lv' := [(5, .int (iI k)), (0, .ref b), (1, .ref (a 100)), (2, .ref (a2 0)), (3, .ref o), (4, .int (iI i))]) hx hb dL_law_373 hl (by decide) rfl (fun ls hl => ?_)
    refine lv_aload_n hx hb dL_law_375 rfl (lv_at hl 3 rfl) ?_
    refine z_arg C hS dL_law_376 dL_law_377 dL_law_379 dL_law_380 dL_law_381 (k := 1) (by decide) hi (lv_at hl 1 rfl) (lv_at hl 5 rfl) e_t ?_
    refine z_arg C hS dL_law_382 dL_law_383 dL_law_385 dL_law_386 dL_law_387 (k := 2) (by decide) hi (lv_at hl 1 rfl) (lv_at hl 5 rfl) e_q ?_
    refine zl_virt (As := [.int (iI t), .int (iI q)]) (rest := []) (pb_rf (cy := cy) (a := a') (a2 := a2) (o := o) (f := f') (P := P') (R := R)) ⟨hx, hb, hml, hown, hts⟩ (c_X7_removePoint l D cy H.size a2 R t q hIr hsc hrt hrq) gL_law_X7_removePoint rfl ⟨rfl, rfl⟩ 2 rfl (by decide +kernel) ⟨Nat.le_of_ble_eq_true rfl, Nat.le_of_ble_eq_true rfl⟩ (GG_ok D cy) hGG hA hP hD hS (va_recv hKk (pb_rw hP) (ci := 6) (q0 := 0) rfl rfl) hl.1 rfl (Nat.le_of_ble_eq_true rfl) (rm_0 hroom9) dL_law_388 (fun r9 R' H locs hq hP hD hS => ?_)
    have hq := hpost r9 R' hq
    rw [← ha] at hl
    exact z_tail C K dL_law_391 dL_law_393 dL_law_394 dL_law_397 dL_law_399 dL_law_404 dL_law_406 dL_law_409 dL_law_410 dL_law_411 dL_law_412 dL_law_414 dL_law_415 dL_law_416 dL_law_421 (by decide) hq.1.1 hk3 hq.1.2 hq.2 hP hD hS hl hcs hroom9
  refine lv_aload_n hx hb dL_law_356 rfl (lv_at hl 1 rfl) ?_
  refine z_arg C hS dL_law_357 dL_law_358 dL_law_360 dL_law_361 dL_law_362 (k := 1) (by decide) hi (lv_at hl 0 rfl) (lv_at hl 4 rfl) e_t ?_
  refine z_arg C hS dL_law_363 dL_law_364 dL_law_366 dL_law_367 dL_law_368 (k := 2) (by decide) hi (lv_at hl 0 rfl) (lv_at hl 4 rfl) e_q ?_
  refine lv_aload_n hx hb dL_law_369 rfl (lv_at hl 3 rfl) ?_
  by_cases c1 : (0 ≤ t ∧ t < P 0 0) ∧ 0 ≤ q ∧ q < P 1 t
  · obtain ⟨⟨h0, h1⟩, h2, h3⟩ := c1
    have hpt := rl_pt hR h0 h1
    refine zl_stat (As := [.ref (a 100), .int (iI t), .int (iI q), .ref o]) (rest := []) (pb_hs (cy := cy) (a := a) (a2 := a2) (o := o) (f := fo) (P := P) (R := R)) ⟨hx, hb, hml, hown, hts⟩ (c_L_removePoint l H.size o fo D cy a P t q hI hsv h0 h1 h2 h3) gL_law_L_removePoint rfl ⟨rfl, rfl⟩ 4 rfl (by decide +kernel) ⟨Nat.le_of_ble_eq_true rfl, Nat.le_of_ble_eq_true rfl⟩ (GG_ok D cy) hGG hA hP hD hS hl.1 rfl (Nat.le_of_ble_eq_true rfl) (rm_0 hroom0) dL_law_370 (fun r U9 H locs hpost hP hD hS => ?_)
    obtain ⟨hr0, v9, hv, hv2, ho⟩ := hpost
    rw [hr0]
    refine hmid 0 (pgm a U9.1.1) U9.2 (mixB inHs P U9.1.2) H locs _ _ (by decide) rfl (fun r9 R' hq => ?_) hP hD hS ⟨by omega, by omega⟩
    rw [mx_hs ho.2.2.1]
    rcases hq with ⟨c9, e9, rfl⟩ | ⟨c9, e9, rfl⟩
    · exfalso
      omega
    · exact ⟨⟨(ro_t R _).2, fun _ => ev9 hv (by omega)⟩, rl_op hR ho (ro_t R _).1 (rp_ag hIr hag h0 c9.1.2 h2 c9.2.2) (rp_inv hIr h0 c9.1.2 h2 c9.2.2)⟩
  · skip
    refine zl_stat (As := [.ref (a 100), .int (iI t), .int (iI q), .ref o]) (rest := []) (pb_tp (cy := cy) (a := a) (a2 := a2) (o := o) (f := fo) (P := P) (R := R)) ⟨hx, hb, hml, hown, hts⟩ (c_L_removePoint_t1 l hst H.size o D cy a P t q hI hrt hrq c1) gL_law_L_removePoint rfl ⟨rfl, rfl⟩ 4 rfl (by decide +kernel) ⟨Nat.le_of_ble_eq_true rfl, Nat.le_of_ble_eq_true rfl⟩ (GX_ok D cy) hGX hA hP hD hS hl.1 rfl (Nat.le_of_ble_eq_true rfl) (rm_1 hroom0) dL_law_370 (fun r U9 H locs hpost hP hD hS => ?_)
    have hr0 : r = 1 := hpost
    rw [hr0]
    refine hmid 1 a fo P H locs _ _ (by decide) rfl (fun r9 R' hq => ?_) hP hD hS ⟨by omega, by omega⟩
    rcases hq with ⟨c9, e9, rfl⟩ | ⟨c9, e9, rfl⟩
    · exact ⟨⟨(rq_t R _).2, fun h => absurd h (by decide)⟩, rl_q hR (rq_t R _).1 (objq_rfl hR)⟩
    · exfalso
      have hpt := rl_pt hR c9.1.1 (by omega)
      omega
