/-! the law's helpers, told of the object's state, more of them -/
set_option maxHeartbeats 4000000 in
set_option maxRecDepth 100000 in
theorem k_trail (l : Launch) (D : va_G) (cy : Nat → ClassId) (o : Nat) (M : Int → Int) (n : Int) (K : Nat → Int → Int) (t w : Int) (h0 : 0 ≤ t) (h1 : t < M 12) (hw : 0 ≤ w ∧ w ≤ 8) : CKs l D cy yL_trail wsL_trail { frames := 7, cells := 0, slots := 0, locals := 178 } o [.int (iI t), .int (iI w)] M n K (fun r M' n' K' => trV M (mat M (M 8)).1 t w = r ∧ M = M' ∧ n = n' ∧ (K) = K') 0 0 := by
  intro a P sz ha hAb
  subst ha
  have hI := hAb.inv
  have hIr := hAb.1.1
  have hag := hAb.1.2
  obtain ⟨h12, h13⟩ := ab_12 hAb
  have h8 : M 8 = P 8 8 := ab_st hAb (by decide) (by decide)
  have hs12 := inv_S12 hIr
  have h50 := hAb.2.1.1
  have hsv : 0 ≤ P 50 1 ∧ P 50 1 ≤ 4 := ⟨by omega, by omega⟩
  have hl0 := hAb.2.2.2.2.1
  have hl1 := hAb.2.2.2.2.2
  have h10 := hAb.2.2.1.1
  have h107 := hAb.2.2.2.1
  have g1 : t < P 0 0 := by omega
  have hp0 := inv_pts hIr h0 h1
  refine kMW_start (cc := cL_trail) (maxL := 4) (ret := (some .int)) (by decide) rfl (Nat.le_of_ble_eq_true rfl) ?_
  intro p e s m below meth c hx hb hr hlocks hml hts hown htab hA hG hP hD hS ls hl
  have hK := hG.1.1.1
  have hl : lv_has ls 4 [(0, .ref (a 100)), (1, .int (iI t)), (2, .int (iI w))] := hl
  have hbody : ∀ (H : Heap) (locs : List Loc) (hP : va_P D vwCl (ow cy a P) H) (hD : va_D (va_A (ow cy a P) sz) (ow cy a P)) (hS : va_S (va_A (ow cy a P) sz) s.heap H locs) (ls : Array Slot) (hl : lv_has ls 4 [(0, .ref (a 100)), (1, .int (iI t)), (2, .int (iI w))]), W p l e { frames := 7, cells := 0, slots := 0, locals := 178 } s m ([.ref (a 100), .int (iI t), .int (iI w)] : List Value).toArray below meth c H locs 0 0 (MQ below (kQi D (ow cy a P) sz (fun w9 : (Nat → Nat) × (Nat → Int → Int) => ow cy w9.1 w9.2) (fun r w9 => w9.1 100 = a 100 ∧ ∃ M' n' K', Ab w9.2 M' n' K' ∧ (fun r M' n' K' => trV M (mat M (M 8)).1 t w = r ∧ M = M' ∧ n = n' ∧ (K) = K') r M' n' K')) ([.ref (a 100), .int (iI t), .int (iI w)] : List Value).toArray s 0 0 (va_A (ow cy a P) sz)) (F0 m 0 ls []) := by
    intro H locs hP hD hS ls hl
    refine lv_aload_n hx hb dL_trail_0 rfl (lv_at hl 0 rfl) ?_
    refine lv_iload_n hx hb dL_trail_1 rfl (lv_at hl 1 rfl) ?_
    refine lv_iload_n hx hb dL_trail_2 rfl (lv_at hl 2 rfl) ?_
    refine zl_virt (As := [.int (iI t), .int (iI w)]) (rest := []) (pb_lk (cy := cy) (a := a) (P := P)) ⟨hx, hb, hml, hown, hts⟩ (c_X6_trail l D cy H.size a P t w hI hl0 hl1 h0 g1 hw) gL_trail_X6_trail rfl ⟨rfl, rfl⟩ 2 rfl (by decide +kernel) ⟨Nat.le_of_ble_eq_true rfl, Nat.le_of_ble_eq_true rfl⟩ (GG_ok D cy) hG.1.1 hA hP hD hS (va_recv hK hP (ci := 5) (q0 := 0) rfl rfl) hl.1 rfl (Nat.le_of_ble_eq_true rfl) ⟨Nat.le_of_ble_eq_true rfl, Nat.le_of_ble_eq_true rfl⟩ dL_trail_3 (fun r U9 H locs hpost hP hD hS => ?_)
    obtain ⟨zZ, hz, hv2, hu⟩ := hpost
    have hu : U9 = lkU P zZ := hu
    have hoq : objq P (lkU P zZ) := oq_lkU hz
    have hv : r = trV M (mat M (M 8)).1 t w := hv2.trans (by rw [trVA _ hag h0 h1 hp0.1, matA hag, h8])
    have hP : va_P D vwCl (ow cy a (mixB inLk P U9)) H := hP
    have hD : va_D (va_A (ow cy a P) sz) (ow cy a (mixB inLk P U9)) := hD
    rw [hu, mx_lkU_inLk] at hP hD
    have hAb2 := ab_q hAb hoq
    exact W.iret (v := iI r) hx hb hr (fun t9 ht _ => ⟨⟨iI r, (a, lkU P zZ), rfl, ⟨r, rfl, rfl, _, _, _, hAb2, hv.symm, rfl, rfl, rfl⟩, by rw [ht]; exact hP, hD⟩, hS.F ht⟩) hS.2.2 dL_trail_6 hlocks
  exact hbody s.heap [] hP hD hS ls hl
set_option maxHeartbeats 4000000 in
set_option maxRecDepth 100000 in
theorem k_trail_t (l : Launch) (hl9 : l.stackTraces = false) (D : va_G) (cy : Nat → ClassId) (o : Nat) (M : Int → Int) (n : Int) (K : Nat → Int → Int) (t w : Int) (hrt : -2147483648 ≤ t ∧ t ≤ 2147483647) (c9 : ¬ (0 ≤ t ∧ t < M 12)) : CKs l D cy yL_trail wsL_trail { frames := 8, cells := 1, slots := 6, locals := 140 } o [.int (iI t), .int (iI w)] M n K (fun r M' n' K' => (-9030000) = r ∧ M = M' ∧ n = n' ∧ (K) = K') 1 6 := by
  intro a P sz ha hAb
  subst ha
  have hI := hAb.inv
  have hIr := hAb.1.1
  have hag := hAb.1.2
  obtain ⟨h12, h13⟩ := ab_12 hAb
  have h8 : M 8 = P 8 8 := ab_st hAb (by decide) (by decide)
  have hs12 := inv_S12 hIr
  have h50 := hAb.2.1.1
  have hsv : 0 ≤ P 50 1 ∧ P 50 1 ≤ 4 := ⟨by omega, by omega⟩
  have hl0 := hAb.2.2.2.2.1
  have hl1 := hAb.2.2.2.2.2
  have h10 := hAb.2.2.1.1
  have h107 := hAb.2.2.2.1
  have hno : ¬ (0 ≤ t ∧ t < P 0 0) := by omega
  refine kMW_start (cc := cL_trail) (maxL := 4) (ret := (some .int)) (by decide) rfl (Nat.le_of_ble_eq_true rfl) ?_
  intro p e s m below meth c hx hb hr hlocks hml hts hown htab hA hG hP hD hS ls hl
  have hK := hG.1.1.1
  have hl : lv_has ls 4 [(0, .ref (a 100)), (1, .int (iI t)), (2, .int (iI w))] := hl
  have hbody : ∀ (H : Heap) (locs : List Loc) (hP : va_P D vwCl (ow cy a P) H) (hD : va_D (va_A (ow cy a P) sz) (ow cy a P)) (hS : va_S (va_A (ow cy a P) sz) s.heap H locs) (ls : Array Slot) (hl : lv_has ls 4 [(0, .ref (a 100)), (1, .int (iI t)), (2, .int (iI w))]), W p l e { frames := 8, cells := 1, slots := 6, locals := 140 } s m ([.ref (a 100), .int (iI t), .int (iI w)] : List Value).toArray below meth c H locs 0 0 (MQ below (kQi D (ow cy a P) sz (fun w9 : (Nat → Nat) × (Nat → Int → Int) => ow cy w9.1 w9.2) (fun r w9 => w9.1 100 = a 100 ∧ ∃ M' n' K', Ab w9.2 M' n' K' ∧ (fun r M' n' K' => (-9030000) = r ∧ M = M' ∧ n = n' ∧ (K) = K') r M' n' K')) ([.ref (a 100), .int (iI t), .int (iI w)] : List Value).toArray s 1 6 (va_A (ow cy a P) sz)) (F0 m 0 ls []) := by
    intro H locs hP hD hS ls hl
    refine lv_aload_n hx hb dL_trail_0 rfl (lv_at hl 0 rfl) ?_
    refine lv_iload_n hx hb dL_trail_1 rfl (lv_at hl 1 rfl) ?_
    refine lv_iload_n hx hb dL_trail_2 rfl (lv_at hl 2 rfl) ?_
    refine k_thV (As := [.int (iI t), .int (iI w)]) (rest := []) ⟨hx, hb, hml, hown, hts⟩ (c_X6_trail_t1 l hl9 D cy a P t w hI hrt hno) gL_trail_X6_trail rfl ⟨rfl, rfl⟩ 2 rfl (by decide +kernel) ⟨Nat.le_of_ble_eq_true rfl, Nat.le_of_ble_eq_true rfl⟩ (GX_ok D cy) ((GX_ok D cy).2.2.2 _ _ _ _ (fun _ h => h.elim) ((GX_ok D cy).1 _ _ _ _ hS.2.1 hG)) (hP.sub (ws' := obplW cy a P) [0, 39, 40, 41, 42, 43, 44, 45, 46, 47] rfl) (va_recv hK hP (ci := 5) (q0 := 0) rfl rfl) hl.1 rfl (Nat.le_of_ble_eq_true rfl) ⟨Nat.le_of_ble_eq_true rfl, Nat.le_of_ble_eq_true rfl⟩ dL_trail_3 (fun ce q9 H1 z1 o1 e1 v1 f1 => ?_)
    refine vx_catch (E := exN 0) (name := exN 0) hown (tableOf []) ⟨0, 6, 7, 22⟩ (tableOf [(0, 6, 11, 29)]) (by rw [htab]; rfl) (fun z h => by cases h) (by decide) (by decide) (hts (.classLink RL 22 (exN 0)) (by decide +kernel)) (va_Nw.use rfl (hG.2.1 0 (by decide)).2.1) e1 v1 f1 ?_
    have hP1 := P_grow hP o1
    have hS1 := S_grow hS z1 o1
    refine lv_astore_n (lv' := [(3, .ref q9), (0, .ref (a 100)), (1, .int (iI t)), (2, .int (iI w))]) hx hb dL_trail_7 rfl hl (by decide) rfl (fun ls hl => ?_)
    refine k_ldc (z := (-9030000)) hx hb hown (hts (.constant RL 24 (-9030000)) (by decide +kernel)) (by decide +kernel) dL_trail_8 ?_
    exact W.iret (v := iI (-9030000)) hx hb hr (fun t9 ht _ => ⟨⟨iI (-9030000), (a, P), rfl, ⟨(-9030000), rfl, rfl, M, n, K, hAb, rfl, rfl, rfl, rfl⟩, by rw [ht]; exact hP1, hD⟩, hS1.F ht⟩) hS1.2.2 dL_trail_10 hlocks
  exact hbody s.heap [] hP hD hS ls hl
set_option maxHeartbeats 4000000 in
set_option maxRecDepth 100000 in
theorem k_star (l : Launch) (D : va_G) (cy : Nat → ClassId) (o : Nat) (M : Int → Int) (n : Int) (K : Nat → Int → Int) (u w : Int) (h0 : 0 ≤ u) (h1 : u < M 13) (hw : 0 ≤ w ∧ w ≤ 6) : CKs l D cy yL_star wsL_star { frames := 7, cells := 0, slots := 0, locals := 178 } o [.int (iI u), .int (iI w)] M n K (fun r M' n' K' => stW M u w = r ∧ M = M' ∧ n = n' ∧ (K) = K') 0 0 := by
  intro a P sz ha hAb
  subst ha
  have hI := hAb.inv
  have hIr := hAb.1.1
  have hag := hAb.1.2
  obtain ⟨h12, h13⟩ := ab_12 hAb
  have h8 : M 8 = P 8 8 := ab_st hAb (by decide) (by decide)
  have hs12 := inv_S12 hIr
  have h50 := hAb.2.1.1
  have hsv : 0 ≤ P 50 1 ∧ P 50 1 ≤ 4 := ⟨by omega, by omega⟩
  have hl0 := hAb.2.2.2.2.1
  have hl1 := hAb.2.2.2.2.2
  have h10 := hAb.2.2.1.1
  have h107 := hAb.2.2.2.1
  have g1 : u < P 0 1 := by omega
  refine kMW_start (cc := cL_star) (maxL := 4) (ret := (some .int)) (by decide) rfl (Nat.le_of_ble_eq_true rfl) ?_
  intro p e s m below meth c hx hb hr hlocks hml hts hown htab hA hG hP hD hS ls hl
  have hK := hG.1.1.1
  have hl : lv_has ls 4 [(0, .ref (a 100)), (1, .int (iI u)), (2, .int (iI w))] := hl
  have hbody : ∀ (H : Heap) (locs : List Loc) (hP : va_P D vwCl (ow cy a P) H) (hD : va_D (va_A (ow cy a P) sz) (ow cy a P)) (hS : va_S (va_A (ow cy a P) sz) s.heap H locs) (ls : Array Slot) (hl : lv_has ls 4 [(0, .ref (a 100)), (1, .int (iI u)), (2, .int (iI w))]), W p l e { frames := 7, cells := 0, slots := 0, locals := 178 } s m ([.ref (a 100), .int (iI u), .int (iI w)] : List Value).toArray below meth c H locs 0 0 (MQ below (kQi D (ow cy a P) sz (fun w9 : (Nat → Nat) × (Nat → Int → Int) => ow cy w9.1 w9.2) (fun r w9 => w9.1 100 = a 100 ∧ ∃ M' n' K', Ab w9.2 M' n' K' ∧ (fun r M' n' K' => stW M u w = r ∧ M = M' ∧ n = n' ∧ (K) = K') r M' n' K')) ([.ref (a 100), .int (iI u), .int (iI w)] : List Value).toArray s 0 0 (va_A (ow cy a P) sz)) (F0 m 0 ls []) := by
    intro H locs hP hD hS ls hl
    refine lv_aload_n hx hb dL_star_0 rfl (lv_at hl 0 rfl) ?_
    refine lv_iload_n hx hb dL_star_1 rfl (lv_at hl 1 rfl) ?_
    refine lv_iload_n hx hb dL_star_2 rfl (lv_at hl 2 rfl) ?_
    refine zl_virt (As := [.int (iI u), .int (iI w)]) (rest := []) (pb_lk (cy := cy) (a := a) (P := P)) ⟨hx, hb, hml, hown, hts⟩ (c_X6_star l D cy H.size a P u w hI hl0 hl1 h0 g1 hw) gL_star_X6_star rfl ⟨rfl, rfl⟩ 2 rfl (by decide +kernel) ⟨Nat.le_of_ble_eq_true rfl, Nat.le_of_ble_eq_true rfl⟩ (GG_ok D cy) hG.1.1 hA hP hD hS (va_recv hK hP (ci := 5) (q0 := 0) rfl rfl) hl.1 rfl (Nat.le_of_ble_eq_true rfl) ⟨Nat.le_of_ble_eq_true rfl, Nat.le_of_ble_eq_true rfl⟩ dL_star_3 (fun r U9 H locs hpost hP hD hS => ?_)
    obtain ⟨zZ, hz, hv2, hu⟩ := hpost
    have hu : U9 = lkU P zZ := hu
    have hoq : objq P (lkU P zZ) := oq_lkU hz
    have hv : r = stW M u w := hv2.trans (by rw [stWA hag hIr h0 h1 hw])
    have hP : va_P D vwCl (ow cy a (mixB inLk P U9)) H := hP
    have hD : va_D (va_A (ow cy a P) sz) (ow cy a (mixB inLk P U9)) := hD
    rw [hu, mx_lkU_inLk] at hP hD
    have hAb2 := ab_q hAb hoq
    exact W.iret (v := iI r) hx hb hr (fun t9 ht _ => ⟨⟨iI r, (a, lkU P zZ), rfl, ⟨r, rfl, rfl, _, _, _, hAb2, hv.symm, rfl, rfl, rfl⟩, by rw [ht]; exact hP, hD⟩, hS.F ht⟩) hS.2.2 dL_star_6 hlocks
  exact hbody s.heap [] hP hD hS ls hl
set_option maxHeartbeats 4000000 in
set_option maxRecDepth 100000 in
theorem k_star_t (l : Launch) (hl9 : l.stackTraces = false) (D : va_G) (cy : Nat → ClassId) (o : Nat) (M : Int → Int) (n : Int) (K : Nat → Int → Int) (u w : Int) (hru : -2147483648 ≤ u ∧ u ≤ 2147483647) (c9 : ¬ (0 ≤ u ∧ u < M 13)) : CKs l D cy yL_star wsL_star { frames := 8, cells := 1, slots := 6, locals := 140 } o [.int (iI u), .int (iI w)] M n K (fun r M' n' K' => (-9030000) = r ∧ M = M' ∧ n = n' ∧ (K) = K') 1 6 := by
  intro a P sz ha hAb
  subst ha
  have hI := hAb.inv
  have hIr := hAb.1.1
  have hag := hAb.1.2
  obtain ⟨h12, h13⟩ := ab_12 hAb
  have h8 : M 8 = P 8 8 := ab_st hAb (by decide) (by decide)
  have hs12 := inv_S12 hIr
  have h50 := hAb.2.1.1
  have hsv : 0 ≤ P 50 1 ∧ P 50 1 ≤ 4 := ⟨by omega, by omega⟩
  have hl0 := hAb.2.2.2.2.1
  have hl1 := hAb.2.2.2.2.2
  have h10 := hAb.2.2.1.1
  have h107 := hAb.2.2.2.1
  have hno : ¬ (0 ≤ u ∧ u < P 0 1) := by omega
  refine kMW_start (cc := cL_star) (maxL := 4) (ret := (some .int)) (by decide) rfl (Nat.le_of_ble_eq_true rfl) ?_
  intro p e s m below meth c hx hb hr hlocks hml hts hown htab hA hG hP hD hS ls hl
  have hK := hG.1.1.1
  have hl : lv_has ls 4 [(0, .ref (a 100)), (1, .int (iI u)), (2, .int (iI w))] := hl
  have hbody : ∀ (H : Heap) (locs : List Loc) (hP : va_P D vwCl (ow cy a P) H) (hD : va_D (va_A (ow cy a P) sz) (ow cy a P)) (hS : va_S (va_A (ow cy a P) sz) s.heap H locs) (ls : Array Slot) (hl : lv_has ls 4 [(0, .ref (a 100)), (1, .int (iI u)), (2, .int (iI w))]), W p l e { frames := 8, cells := 1, slots := 6, locals := 140 } s m ([.ref (a 100), .int (iI u), .int (iI w)] : List Value).toArray below meth c H locs 0 0 (MQ below (kQi D (ow cy a P) sz (fun w9 : (Nat → Nat) × (Nat → Int → Int) => ow cy w9.1 w9.2) (fun r w9 => w9.1 100 = a 100 ∧ ∃ M' n' K', Ab w9.2 M' n' K' ∧ (fun r M' n' K' => (-9030000) = r ∧ M = M' ∧ n = n' ∧ (K) = K') r M' n' K')) ([.ref (a 100), .int (iI u), .int (iI w)] : List Value).toArray s 1 6 (va_A (ow cy a P) sz)) (F0 m 0 ls []) := by
    intro H locs hP hD hS ls hl
    refine lv_aload_n hx hb dL_star_0 rfl (lv_at hl 0 rfl) ?_
    refine lv_iload_n hx hb dL_star_1 rfl (lv_at hl 1 rfl) ?_
    refine lv_iload_n hx hb dL_star_2 rfl (lv_at hl 2 rfl) ?_
    refine k_thV (As := [.int (iI u), .int (iI w)]) (rest := []) ⟨hx, hb, hml, hown, hts⟩ (c_X6_star_t1 l hl9 D cy a P u w hI hru hno) gL_star_X6_star rfl ⟨rfl, rfl⟩ 2 rfl (by decide +kernel) ⟨Nat.le_of_ble_eq_true rfl, Nat.le_of_ble_eq_true rfl⟩ (GX_ok D cy) ((GX_ok D cy).2.2.2 _ _ _ _ (fun _ h => h.elim) ((GX_ok D cy).1 _ _ _ _ hS.2.1 hG)) (hP.sub (ws' := obplW cy a P) [0, 39, 40, 41, 42, 43, 44, 45, 46, 47] rfl) (va_recv hK hP (ci := 5) (q0 := 0) rfl rfl) hl.1 rfl (Nat.le_of_ble_eq_true rfl) ⟨Nat.le_of_ble_eq_true rfl, Nat.le_of_ble_eq_true rfl⟩ dL_star_3 (fun ce q9 H1 z1 o1 e1 v1 f1 => ?_)
    refine vx_catch (E := exN 0) (name := exN 0) hown (tableOf []) ⟨0, 6, 7, 22⟩ (tableOf [(0, 6, 11, 29)]) (by rw [htab]; rfl) (fun z h => by cases h) (by decide) (by decide) (hts (.classLink RL 22 (exN 0)) (by decide +kernel)) (va_Nw.use rfl (hG.2.1 0 (by decide)).2.1) e1 v1 f1 ?_
    have hP1 := P_grow hP o1
    have hS1 := S_grow hS z1 o1
    refine lv_astore_n (lv' := [(3, .ref q9), (0, .ref (a 100)), (1, .int (iI u)), (2, .int (iI w))]) hx hb dL_star_7 rfl hl (by decide) rfl (fun ls hl => ?_)
    refine k_ldc (z := (-9030000)) hx hb hown (hts (.constant RL 24 (-9030000)) (by decide +kernel)) (by decide +kernel) dL_star_8 ?_
    exact W.iret (v := iI (-9030000)) hx hb hr (fun t9 ht _ => ⟨⟨iI (-9030000), (a, P), rfl, ⟨(-9030000), rfl, rfl, M, n, K, hAb, rfl, rfl, rfl, rfl⟩, by rw [ht]; exact hP1, hD⟩, hS1.F ht⟩) hS1.2.2 dL_star_10 hlocks
  exact hbody s.heap [] hP hD hS ls hl
set_option maxHeartbeats 4000000 in
set_option maxRecDepth 100000 in
theorem k_starAngle (l : Launch) (D : va_G) (cy : Nat → ClassId) (o : Nat) (M : Int → Int) (n : Int) (K : Nat → Int → Int) (u f : Int) (h0 : 0 ≤ u) (h1 : u < M 13) (hf9 : 0 ≤ f ∧ f ≤ 1000) : CKs l D cy yL_starAngle wsL_starAngle { frames := 3, cells := 0, slots := 0, locals := 75 } o [.int (iI u), .int (iI f)] M n K (fun r M' n' K' => stAng M (M 8) u f = r ∧ M = M' ∧ n = n' ∧ (K) = K') 0 0 := by
  intro a P sz ha hAb
  subst ha
  have hI := hAb.inv
  have hIr := hAb.1.1
  have hag := hAb.1.2
  obtain ⟨h12, h13⟩ := ab_12 hAb
  have h8 : M 8 = P 8 8 := ab_st hAb (by decide) (by decide)
  have hs12 := inv_S12 hIr
  have h50 := hAb.2.1.1
  have hsv : 0 ≤ P 50 1 ∧ P 50 1 ≤ 4 := ⟨by omega, by omega⟩
  have hl0 := hAb.2.2.2.2.1
  have hl1 := hAb.2.2.2.2.2
  have h10 := hAb.2.2.1.1
  have h107 := hAb.2.2.2.1
  have g1 : u < P 0 1 := by omega
  refine kMW_start (cc := cL_starAngle) (maxL := 4) (ret := (some .int)) (by decide) rfl (Nat.le_of_ble_eq_true rfl) ?_
  intro p e s m below meth c hx hb hr hlocks hml hts hown htab hA hG hP hD hS ls hl
  have hK := hG.1.1.1
  have hl : lv_has ls 4 [(0, .ref (a 100)), (1, .int (iI u)), (2, .int (iI f))] := hl
  have hbody : ∀ (H : Heap) (locs : List Loc) (hP : va_P D vwCl (ow cy a P) H) (hD : va_D (va_A (ow cy a P) sz) (ow cy a P)) (hS : va_S (va_A (ow cy a P) sz) s.heap H locs) (ls : Array Slot) (hl : lv_has ls 4 [(0, .ref (a 100)), (1, .int (iI u)), (2, .int (iI f))]), W p l e { frames := 3, cells := 0, slots := 0, locals := 75 } s m ([.ref (a 100), .int (iI u), .int (iI f)] : List Value).toArray below meth c H locs 0 0 (MQ below (kQi D (ow cy a P) sz (fun w9 : (Nat → Nat) × (Nat → Int → Int) => ow cy w9.1 w9.2) (fun r w9 => w9.1 100 = a 100 ∧ ∃ M' n' K', Ab w9.2 M' n' K' ∧ (fun r M' n' K' => stAng M (M 8) u f = r ∧ M = M' ∧ n = n' ∧ (K) = K') r M' n' K')) ([.ref (a 100), .int (iI u), .int (iI f)] : List Value).toArray s 0 0 (va_A (ow cy a P) sz)) (F0 m 0 ls []) := by
    intro H locs hP hD hS ls hl
    refine lv_aload_n hx hb dL_starAngle_0 rfl (lv_at hl 0 rfl) ?_
    refine lv_iload_n hx hb dL_starAngle_1 rfl (lv_at hl 1 rfl) ?_
    refine lv_iload_n hx hb dL_starAngle_2 rfl (lv_at hl 2 rfl) ?_
    refine k_roV (As := [.int (iI u), .int (iI f)]) (rest := []) ⟨hx, hb, hml, hown, hts⟩ (c_X6_starAngle l D cy a P u f hI h0 g1 hf9) gL_starAngle_X6_starAngle rfl ⟨rfl, rfl⟩ 2 rfl (by decide +kernel) ⟨Nat.le_of_ble_eq_true rfl, Nat.le_of_ble_eq_true rfl⟩ (GG_ok D cy) ((GG_ok D cy).2.2.2 _ _ _ _ (fun _ h => h.elim) ((GG_ok D cy).1 _ _ _ _ hS.2.1 hG.1.1)) (hP.sub (ws' := obplW cy a P) [0, 39, 40, 41, 42, 43, 44, 45, 46, 47] rfl) (va_recv hK hP (ci := 5) (q0 := 0) rfl rfl) hl.1 rfl (Nat.le_of_ble_eq_true rfl) ⟨Nat.le_of_ble_eq_true rfl, Nat.le_of_ble_eq_true rfl⟩ dL_starAngle_3 (fun r hv2 => ?_)
    have hv : r = stAng M (M 8) u f := Eq.trans hv2 (by rw [staA hag (M 8) f h0 h1, h8])
    exact W.iret (v := iI r) hx hb hr (fun t9 ht _ => ⟨⟨iI r, (a, P), rfl, ⟨r, rfl, rfl, M, n, K, hAb, hv.symm, rfl, rfl, rfl⟩, by rw [ht]; exact hP, hD⟩, hS.F ht⟩) hS.2.2 dL_starAngle_6 hlocks
  exact hbody s.heap [] hP hD hS ls hl
set_option maxHeartbeats 4000000 in
set_option maxRecDepth 100000 in
theorem k_starAngle_t (l : Launch) (hl9 : l.stackTraces = false) (D : va_G) (cy : Nat → ClassId) (o : Nat) (M : Int → Int) (n : Int) (K : Nat → Int → Int) (u f : Int) (hru : -2147483648 ≤ u ∧ u ≤ 2147483647) (c9 : ¬ (0 ≤ u ∧ u < M 13)) : CKs l D cy yL_starAngle wsL_starAngle { frames := 8, cells := 1, slots := 6, locals := 140 } o [.int (iI u), .int (iI f)] M n K (fun r M' n' K' => (-9030000) = r ∧ M = M' ∧ n = n' ∧ (K) = K') 1 6 := by
  intro a P sz ha hAb
  subst ha
  have hI := hAb.inv
  have hIr := hAb.1.1
  have hag := hAb.1.2
  obtain ⟨h12, h13⟩ := ab_12 hAb
  have h8 : M 8 = P 8 8 := ab_st hAb (by decide) (by decide)
  have hs12 := inv_S12 hIr
  have h50 := hAb.2.1.1
  have hsv : 0 ≤ P 50 1 ∧ P 50 1 ≤ 4 := ⟨by omega, by omega⟩
  have hl0 := hAb.2.2.2.2.1
  have hl1 := hAb.2.2.2.2.2
  have h10 := hAb.2.2.1.1
  have h107 := hAb.2.2.2.1
  have hno : ¬ (0 ≤ u ∧ u < P 0 1) := by omega
  refine kMW_start (cc := cL_starAngle) (maxL := 4) (ret := (some .int)) (by decide) rfl (Nat.le_of_ble_eq_true rfl) ?_
  intro p e s m below meth c hx hb hr hlocks hml hts hown htab hA hG hP hD hS ls hl
  have hK := hG.1.1.1
  have hl : lv_has ls 4 [(0, .ref (a 100)), (1, .int (iI u)), (2, .int (iI f))] := hl
  have hbody : ∀ (H : Heap) (locs : List Loc) (hP : va_P D vwCl (ow cy a P) H) (hD : va_D (va_A (ow cy a P) sz) (ow cy a P)) (hS : va_S (va_A (ow cy a P) sz) s.heap H locs) (ls : Array Slot) (hl : lv_has ls 4 [(0, .ref (a 100)), (1, .int (iI u)), (2, .int (iI f))]), W p l e { frames := 8, cells := 1, slots := 6, locals := 140 } s m ([.ref (a 100), .int (iI u), .int (iI f)] : List Value).toArray below meth c H locs 0 0 (MQ below (kQi D (ow cy a P) sz (fun w9 : (Nat → Nat) × (Nat → Int → Int) => ow cy w9.1 w9.2) (fun r w9 => w9.1 100 = a 100 ∧ ∃ M' n' K', Ab w9.2 M' n' K' ∧ (fun r M' n' K' => (-9030000) = r ∧ M = M' ∧ n = n' ∧ (K) = K') r M' n' K')) ([.ref (a 100), .int (iI u), .int (iI f)] : List Value).toArray s 1 6 (va_A (ow cy a P) sz)) (F0 m 0 ls []) := by
    intro H locs hP hD hS ls hl
    refine lv_aload_n hx hb dL_starAngle_0 rfl (lv_at hl 0 rfl) ?_
    refine lv_iload_n hx hb dL_starAngle_1 rfl (lv_at hl 1 rfl) ?_
    refine lv_iload_n hx hb dL_starAngle_2 rfl (lv_at hl 2 rfl) ?_
    refine k_thV (As := [.int (iI u), .int (iI f)]) (rest := []) ⟨hx, hb, hml, hown, hts⟩ (c_X6_starAngle_t1 l hl9 D cy a P u f hI hru hno) gL_starAngle_X6_starAngle rfl ⟨rfl, rfl⟩ 2 rfl (by decide +kernel) ⟨Nat.le_of_ble_eq_true rfl, Nat.le_of_ble_eq_true rfl⟩ (GX_ok D cy) ((GX_ok D cy).2.2.2 _ _ _ _ (fun _ h => h.elim) ((GX_ok D cy).1 _ _ _ _ hS.2.1 hG)) (hP.sub (ws' := obplW cy a P) [0, 39, 40, 41, 42, 43, 44, 45, 46, 47] rfl) (va_recv hK hP (ci := 5) (q0 := 0) rfl rfl) hl.1 rfl (Nat.le_of_ble_eq_true rfl) ⟨Nat.le_of_ble_eq_true rfl, Nat.le_of_ble_eq_true rfl⟩ dL_starAngle_3 (fun ce q9 H1 z1 o1 e1 v1 f1 => ?_)
    refine vx_catch (E := exN 0) (name := exN 0) hown (tableOf []) ⟨0, 6, 7, 22⟩ (tableOf [(0, 6, 11, 29)]) (by rw [htab]; rfl) (fun z h => by cases h) (by decide) (by decide) (hts (.classLink RL 22 (exN 0)) (by decide +kernel)) (va_Nw.use rfl (hG.2.1 0 (by decide)).2.1) e1 v1 f1 ?_
    have hP1 := P_grow hP o1
    have hS1 := S_grow hS z1 o1
    refine lv_astore_n (lv' := [(3, .ref q9), (0, .ref (a 100)), (1, .int (iI u)), (2, .int (iI f))]) hx hb dL_starAngle_7 rfl hl (by decide) rfl (fun ls hl => ?_)
    refine k_ldc (z := (-9030000)) hx hb hown (hts (.constant RL 24 (-9030000)) (by decide +kernel)) (by decide +kernel) dL_starAngle_8 ?_
    exact W.iret (v := iI (-9030000)) hx hb hr (fun t9 ht _ => ⟨⟨iI (-9030000), (a, P), rfl, ⟨(-9030000), rfl, rfl, M, n, K, hAb, rfl, rfl, rfl, rfl⟩, by rw [ht]; exact hP1, hD⟩, hS1.F ht⟩) hS1.2.2 dL_starAngle_10 hlocks
  exact hbody s.heap [] hP hD hS ls hl
set_option maxHeartbeats 4000000 in
set_option maxRecDepth 100000 in
theorem k_cost (l : Launch) (D : va_G) (cy : Nat → ClassId) (o : Nat) (M : Int → Int) (n : Int) (K : Nat → Int → Int) (t u : Int) (h0 : 0 ≤ t) (h1 : t < M 12) (hp : 0 < pts M t) (g0 : 0 ≤ u) (g2 : u < M 13) : CKs l D cy yL_cost wsL_cost { frames := 7, cells := 0, slots := 0, locals := 178 } o [.int (iI t), .int (iI u)] M n K (fun r M' n' K' => cstZ M (M 8) t u = r ∧ M = M' ∧ n = n' ∧ (K) = K') 0 0 := by
  intro a P sz ha hAb
  subst ha
  have hI := hAb.inv
  have hIr := hAb.1.1
  have hag := hAb.1.2
  obtain ⟨h12, h13⟩ := ab_12 hAb
  have h8 : M 8 = P 8 8 := ab_st hAb (by decide) (by decide)
  have hs12 := inv_S12 hIr
  have h50 := hAb.2.1.1
  have hsv : 0 ≤ P 50 1 ∧ P 50 1 ≤ 4 := ⟨by omega, by omega⟩
  have hl0 := hAb.2.2.2.2.1
  have hl1 := hAb.2.2.2.2.2
  have h10 := hAb.2.2.1.1
  have h107 := hAb.2.2.2.1
  have g1 : t < P 0 0 := by omega
  have hpt := ab_pt hAb h0 g1
  have hp9 : 0 < P 1 t := by omega
  have g3 : u < P 0 1 := by omega
  refine kMW_start (cc := cL_cost) (maxL := 4) (ret := (some .int)) (by decide) rfl (Nat.le_of_ble_eq_true rfl) ?_
  intro p e s m below meth c hx hb hr hlocks hml hts hown htab hA hG hP hD hS ls hl
  have hK := hG.1.1.1
  have hl : lv_has ls 4 [(0, .ref (a 100)), (1, .int (iI t)), (2, .int (iI u))] := hl
  have hbody : ∀ (H : Heap) (locs : List Loc) (hP : va_P D vwCl (ow cy a P) H) (hD : va_D (va_A (ow cy a P) sz) (ow cy a P)) (hS : va_S (va_A (ow cy a P) sz) s.heap H locs) (ls : Array Slot) (hl : lv_has ls 4 [(0, .ref (a 100)), (1, .int (iI t)), (2, .int (iI u))]), W p l e { frames := 7, cells := 0, slots := 0, locals := 178 } s m ([.ref (a 100), .int (iI t), .int (iI u)] : List Value).toArray below meth c H locs 0 0 (MQ below (kQi D (ow cy a P) sz (fun w9 : (Nat → Nat) × (Nat → Int → Int) => ow cy w9.1 w9.2) (fun r w9 => w9.1 100 = a 100 ∧ ∃ M' n' K', Ab w9.2 M' n' K' ∧ (fun r M' n' K' => cstZ M (M 8) t u = r ∧ M = M' ∧ n = n' ∧ (K) = K') r M' n' K')) ([.ref (a 100), .int (iI t), .int (iI u)] : List Value).toArray s 0 0 (va_A (ow cy a P) sz)) (F0 m 0 ls []) := by
    intro H locs hP hD hS ls hl
    refine lv_aload_n hx hb dL_cost_0 rfl (lv_at hl 0 rfl) ?_
    refine lv_iload_n hx hb dL_cost_1 rfl (lv_at hl 1 rfl) ?_
    refine lv_iload_n hx hb dL_cost_2 rfl (lv_at hl 2 rfl) ?_
    refine zl_virt (As := [.int (iI t), .int (iI u)]) (rest := []) (pb_lk (cy := cy) (a := a) (P := P)) ⟨hx, hb, hml, hown, hts⟩ (c_X6_cost l D cy H.size a P t u hI hl0 hl1 h0 g1 hp9 g0 g3) gL_cost_X6_cost rfl ⟨rfl, rfl⟩ 2 rfl (by decide +kernel) ⟨Nat.le_of_ble_eq_true rfl, Nat.le_of_ble_eq_true rfl⟩ (GG_ok D cy) hG.1.1 hA hP hD hS (va_recv hK hP (ci := 5) (q0 := 0) rfl rfl) hl.1 rfl (Nat.le_of_ble_eq_true rfl) ⟨Nat.le_of_ble_eq_true rfl, Nat.le_of_ble_eq_true rfl⟩ dL_cost_3 (fun r U9 H locs hpost hP hD hS => ?_)
    obtain ⟨zZ, hz, hv2, hu⟩ := hpost
    have hu : U9 = lkU P zZ := hu
    have hoq : objq P (lkU P zZ) := oq_lkU hz
    have hv : r = cstZ M (M 8) t u := hv2.trans (by rw [cstA hag (M 8) h0 h1 hp g0 g2, h8])
    have hP : va_P D vwCl (ow cy a (mixB inLk P U9)) H := hP
    have hD : va_D (va_A (ow cy a P) sz) (ow cy a (mixB inLk P U9)) := hD
    rw [hu, mx_lkU_inLk] at hP hD
    have hAb2 := ab_q hAb hoq
    exact W.iret (v := iI r) hx hb hr (fun t9 ht _ => ⟨⟨iI r, (a, lkU P zZ), rfl, ⟨r, rfl, rfl, _, _, _, hAb2, hv.symm, rfl, rfl, rfl⟩, by rw [ht]; exact hP, hD⟩, hS.F ht⟩) hS.2.2 dL_cost_6 hlocks
  exact hbody s.heap [] hP hD hS ls hl
set_option maxHeartbeats 4000000 in
set_option maxRecDepth 100000 in
theorem k_cost_z (l : Launch) (D : va_G) (cy : Nat → ClassId) (o : Nat) (M : Int → Int) (n : Int) (K : Nat → Int → Int) (t u : Int) (h0 : 0 ≤ t) (h1 : t < M 12) (hp : pts M t = 0) (g0 : 0 ≤ u) (g2 : u < M 13) : CKs l D cy yL_cost wsL_cost { frames := 2, cells := 0, slots := 0, locals := 51 } o [.int (iI t), .int (iI u)] M n K (fun r M' n' K' => (-1000000000) = r ∧ M = M' ∧ n = n' ∧ (K) = K') 0 0 := by
  intro a P sz ha hAb
  subst ha
  have hI := hAb.inv
  have hIr := hAb.1.1
  have hag := hAb.1.2
  obtain ⟨h12, h13⟩ := ab_12 hAb
  have h8 : M 8 = P 8 8 := ab_st hAb (by decide) (by decide)
  have hs12 := inv_S12 hIr
  have h50 := hAb.2.1.1
  have hsv : 0 ≤ P 50 1 ∧ P 50 1 ≤ 4 := ⟨by omega, by omega⟩
  have hl0 := hAb.2.2.2.2.1
  have hl1 := hAb.2.2.2.2.2
  have h10 := hAb.2.2.1.1
  have h107 := hAb.2.2.2.1
  have g1 : t < P 0 0 := by omega
  have hpt := ab_pt hAb h0 g1
  have hp9 : P 1 t = 0 := by omega
  have g3 : u < P 0 1 := by omega
  refine kMW_start (cc := cL_cost) (maxL := 4) (ret := (some .int)) (by decide) rfl (Nat.le_of_ble_eq_true rfl) ?_
  intro p e s m below meth c hx hb hr hlocks hml hts hown htab hA hG hP hD hS ls hl
  have hK := hG.1.1.1
  have hl : lv_has ls 4 [(0, .ref (a 100)), (1, .int (iI t)), (2, .int (iI u))] := hl
  have hbody : ∀ (H : Heap) (locs : List Loc) (hP : va_P D vwCl (ow cy a P) H) (hD : va_D (va_A (ow cy a P) sz) (ow cy a P)) (hS : va_S (va_A (ow cy a P) sz) s.heap H locs) (ls : Array Slot) (hl : lv_has ls 4 [(0, .ref (a 100)), (1, .int (iI t)), (2, .int (iI u))]), W p l e { frames := 2, cells := 0, slots := 0, locals := 51 } s m ([.ref (a 100), .int (iI t), .int (iI u)] : List Value).toArray below meth c H locs 0 0 (MQ below (kQi D (ow cy a P) sz (fun w9 : (Nat → Nat) × (Nat → Int → Int) => ow cy w9.1 w9.2) (fun r w9 => w9.1 100 = a 100 ∧ ∃ M' n' K', Ab w9.2 M' n' K' ∧ (fun r M' n' K' => (-1000000000) = r ∧ M = M' ∧ n = n' ∧ (K) = K') r M' n' K')) ([.ref (a 100), .int (iI t), .int (iI u)] : List Value).toArray s 0 0 (va_A (ow cy a P) sz)) (F0 m 0 ls []) := by
    intro H locs hP hD hS ls hl
    refine lv_aload_n hx hb dL_cost_0 rfl (lv_at hl 0 rfl) ?_
    refine lv_iload_n hx hb dL_cost_1 rfl (lv_at hl 1 rfl) ?_
    refine lv_iload_n hx hb dL_cost_2 rfl (lv_at hl 2 rfl) ?_
    refine k_roV (As := [.int (iI t), .int (iI u)]) (rest := []) ⟨hx, hb, hml, hown, hts⟩ (c_X6_cost_z l D cy a P t u hI h0 g1 g0 g3 hp9) gL_cost_X6_cost rfl ⟨rfl, rfl⟩ 2 rfl (by decide +kernel) ⟨Nat.le_of_ble_eq_true rfl, Nat.le_of_ble_eq_true rfl⟩ (GG_ok D cy) ((GG_ok D cy).2.2.2 _ _ _ _ (fun _ h => h.elim) ((GG_ok D cy).1 _ _ _ _ hS.2.1 hG.1.1)) (hP.sub (ws' := obplW cy a P) [0, 39, 40, 41, 42, 43, 44, 45, 46, 47] rfl) (va_recv hK hP (ci := 5) (q0 := 0) rfl rfl) hl.1 rfl (Nat.le_of_ble_eq_true rfl) ⟨Nat.le_of_ble_eq_true rfl, Nat.le_of_ble_eq_true rfl⟩ dL_cost_3 (fun r hv2 => ?_)
    have hv : r = (-1000000000) := hv2
    exact W.iret (v := iI r) hx hb hr (fun t9 ht _ => ⟨⟨iI r, (a, P), rfl, ⟨r, rfl, rfl, M, n, K, hAb, hv.symm, rfl, rfl, rfl⟩, by rw [ht]; exact hP, hD⟩, hS.F ht⟩) hS.2.2 dL_cost_6 hlocks
  exact hbody s.heap [] hP hD hS ls hl
set_option maxHeartbeats 4000000 in
set_option maxRecDepth 100000 in
theorem k_cost_a (l : Launch) (D : va_G) (cy : Nat → ClassId) (o : Nat) (M : Int → Int) (n : Int) (K : Nat → Int → Int) (t u : Int) (h0 : 0 ≤ t) (h1 : t < M 12) (g0 : 0 ≤ u) (g2 : u < M 13) : CKs l D cy yL_cost wsL_cost { frames := 7, cells := 0, slots := 0, locals := 178 } o [.int (iI t), .int (iI u)] M n K (fun r M' n' K' => prF M t u = r ∧ M = M' ∧ n = n' ∧ (K) = K') 0 0 := by
  intro a P sz ha hAb
  subst ha
  have hI := hAb.inv
  have hIr := hAb.1.1
  have hag := hAb.1.2
  obtain ⟨h12, h13⟩ := ab_12 hAb
  have h8 : M 8 = P 8 8 := ab_st hAb (by decide) (by decide)
  have hs12 := inv_S12 hIr
  have h50 := hAb.2.1.1
  have hsv : 0 ≤ P 50 1 ∧ P 50 1 ≤ 4 := ⟨by omega, by omega⟩
  have hl0 := hAb.2.2.2.2.1
  have hl1 := hAb.2.2.2.2.2
  have h10 := hAb.2.2.1.1
  have h107 := hAb.2.2.2.1
  by_cases hk0 : pts M t = 0
  · skip
    have g1 : t < P 0 0 := by omega
    have hpt := ab_pt hAb h0 g1
    have hp9 : P 1 t = 0 := by omega
    have g3 : u < P 0 1 := by omega
    refine kMW_start (cc := cL_cost) (maxL := 4) (ret := (some .int)) (by decide) rfl (Nat.le_of_ble_eq_true rfl) ?_
    intro p e s m below meth c hx hb hr hlocks hml hts hown htab hA hG hP hD hS ls hl
    have hK := hG.1.1.1
    have hl : lv_has ls 4 [(0, .ref (a 100)), (1, .int (iI t)), (2, .int (iI u))] := hl
    have hbody : ∀ (H : Heap) (locs : List Loc) (hP : va_P D vwCl (ow cy a P) H) (hD : va_D (va_A (ow cy a P) sz) (ow cy a P)) (hS : va_S (va_A (ow cy a P) sz) s.heap H locs) (ls : Array Slot) (hl : lv_has ls 4 [(0, .ref (a 100)), (1, .int (iI t)), (2, .int (iI u))]), W p l e { frames := 7, cells := 0, slots := 0, locals := 178 } s m ([.ref (a 100), .int (iI t), .int (iI u)] : List Value).toArray below meth c H locs 0 0 (MQ below (kQi D (ow cy a P) sz (fun w9 : (Nat → Nat) × (Nat → Int → Int) => ow cy w9.1 w9.2) (fun r w9 => w9.1 100 = a 100 ∧ ∃ M' n' K', Ab w9.2 M' n' K' ∧ (fun r M' n' K' => prF M t u = r ∧ M = M' ∧ n = n' ∧ (K) = K') r M' n' K')) ([.ref (a 100), .int (iI t), .int (iI u)] : List Value).toArray s 0 0 (va_A (ow cy a P) sz)) (F0 m 0 ls []) := by
      intro H locs hP hD hS ls hl
      refine lv_aload_n hx hb dL_cost_0 rfl (lv_at hl 0 rfl) ?_
      refine lv_iload_n hx hb dL_cost_1 rfl (lv_at hl 1 rfl) ?_
      refine lv_iload_n hx hb dL_cost_2 rfl (lv_at hl 2 rfl) ?_
      refine k_roV (As := [.int (iI t), .int (iI u)]) (rest := []) ⟨hx, hb, hml, hown, hts⟩ (c_X6_cost_z l D cy a P t u hI h0 g1 g0 g3 hp9) gL_cost_X6_cost rfl ⟨rfl, rfl⟩ 2 rfl (by decide +kernel) ⟨Nat.le_of_ble_eq_true rfl, Nat.le_of_ble_eq_true rfl⟩ (GG_ok D cy) ((GG_ok D cy).2.2.2 _ _ _ _ (fun _ h => h.elim) ((GG_ok D cy).1 _ _ _ _ hS.2.1 hG.1.1)) (hP.sub (ws' := obplW cy a P) [0, 39, 40, 41, 42, 43, 44, 45, 46, 47] rfl) (va_recv hK hP (ci := 5) (q0 := 0) rfl rfl) hl.1 rfl (Nat.le_of_ble_eq_true rfl) ⟨Nat.le_of_ble_eq_true rfl, Nat.le_of_ble_eq_true rfl⟩ dL_cost_3 (fun r hv2 => ?_)
      have hv : r = prF M t u := Eq.trans hv2 (if_pos hk0).symm
      exact W.iret (v := iI r) hx hb hr (fun t9 ht _ => ⟨⟨iI r, (a, P), rfl, ⟨r, rfl, rfl, M, n, K, hAb, hv.symm, rfl, rfl, rfl⟩, by rw [ht]; exact hP, hD⟩, hS.F ht⟩) hS.2.2 dL_cost_6 hlocks
    exact hbody s.heap [] hP hD hS ls hl
  have g1 : t < P 0 0 := by omega
  have hpt := ab_pt hAb h0 g1
  have hp0 := inv_pts hIr h0 h1
  have hp : 0 < pts M t := by omega
  have hp9 : 0 < P 1 t := by omega
  have g3 : u < P 0 1 := by omega
  refine kMW_start (cc := cL_cost) (maxL := 4) (ret := (some .int)) (by decide) rfl (Nat.le_of_ble_eq_true rfl) ?_
  intro p e s m below meth c hx hb hr hlocks hml hts hown htab hA hG hP hD hS ls hl
  have hK := hG.1.1.1
  have hl : lv_has ls 4 [(0, .ref (a 100)), (1, .int (iI t)), (2, .int (iI u))] := hl
  have hbody : ∀ (H : Heap) (locs : List Loc) (hP : va_P D vwCl (ow cy a P) H) (hD : va_D (va_A (ow cy a P) sz) (ow cy a P)) (hS : va_S (va_A (ow cy a P) sz) s.heap H locs) (ls : Array Slot) (hl : lv_has ls 4 [(0, .ref (a 100)), (1, .int (iI t)), (2, .int (iI u))]), W p l e { frames := 7, cells := 0, slots := 0, locals := 178 } s m ([.ref (a 100), .int (iI t), .int (iI u)] : List Value).toArray below meth c H locs 0 0 (MQ below (kQi D (ow cy a P) sz (fun w9 : (Nat → Nat) × (Nat → Int → Int) => ow cy w9.1 w9.2) (fun r w9 => w9.1 100 = a 100 ∧ ∃ M' n' K', Ab w9.2 M' n' K' ∧ (fun r M' n' K' => prF M t u = r ∧ M = M' ∧ n = n' ∧ (K) = K') r M' n' K')) ([.ref (a 100), .int (iI t), .int (iI u)] : List Value).toArray s 0 0 (va_A (ow cy a P) sz)) (F0 m 0 ls []) := by
    intro H locs hP hD hS ls hl
    refine lv_aload_n hx hb dL_cost_0 rfl (lv_at hl 0 rfl) ?_
    refine lv_iload_n hx hb dL_cost_1 rfl (lv_at hl 1 rfl) ?_
    refine lv_iload_n hx hb dL_cost_2 rfl (lv_at hl 2 rfl) ?_
    refine zl_virt (As := [.int (iI t), .int (iI u)]) (rest := []) (pb_lk (cy := cy) (a := a) (P := P)) ⟨hx, hb, hml, hown, hts⟩ (c_X6_cost l D cy H.size a P t u hI hl0 hl1 h0 g1 hp9 g0 g3) gL_cost_X6_cost rfl ⟨rfl, rfl⟩ 2 rfl (by decide +kernel) ⟨Nat.le_of_ble_eq_true rfl, Nat.le_of_ble_eq_true rfl⟩ (GG_ok D cy) hG.1.1 hA hP hD hS (va_recv hK hP (ci := 5) (q0 := 0) rfl rfl) hl.1 rfl (Nat.le_of_ble_eq_true rfl) ⟨Nat.le_of_ble_eq_true rfl, Nat.le_of_ble_eq_true rfl⟩ dL_cost_3 (fun r U9 H locs hpost hP hD hS => ?_)
    obtain ⟨zZ, hz, hv2, hu⟩ := hpost
    have hu : U9 = lkU P zZ := hu
    have hoq : objq P (lkU P zZ) := oq_lkU hz
    have hv : r = prF M t u := (hv2.trans (by rw [cstA hag (M 8) h0 h1 hp g0 g2, h8])).trans (if_neg hk0).symm
    have hP : va_P D vwCl (ow cy a (mixB inLk P U9)) H := hP
    have hD : va_D (va_A (ow cy a P) sz) (ow cy a (mixB inLk P U9)) := hD
    rw [hu, mx_lkU_inLk] at hP hD
    have hAb2 := ab_q hAb hoq
    exact W.iret (v := iI r) hx hb hr (fun t9 ht _ => ⟨⟨iI r, (a, lkU P zZ), rfl, ⟨r, rfl, rfl, _, _, _, hAb2, hv.symm, rfl, rfl, rfl⟩, by rw [ht]; exact hP, hD⟩, hS.F ht⟩) hS.2.2 dL_cost_6 hlocks
  exact hbody s.heap [] hP hD hS ls hl
set_option maxHeartbeats 4000000 in
set_option maxRecDepth 100000 in
theorem k_cost_t (l : Launch) (hl9 : l.stackTraces = false) (D : va_G) (cy : Nat → ClassId) (o : Nat) (M : Int → Int) (n : Int) (K : Nat → Int → Int) (t u : Int) (hrt : -2147483648 ≤ t ∧ t ≤ 2147483647) (hru : -2147483648 ≤ u ∧ u ≤ 2147483647) (c9 : ¬ ((0 ≤ t ∧ t < M 12) ∧ 0 ≤ u ∧ u < M 13)) : CKs l D cy yL_cost wsL_cost { frames := 8, cells := 1, slots := 6, locals := 140 } o [.int (iI t), .int (iI u)] M n K (fun r M' n' K' => (-9030000) = r ∧ M = M' ∧ n = n' ∧ (K) = K') 1 6 := by
  intro a P sz ha hAb
  subst ha
  have hI := hAb.inv
  have hIr := hAb.1.1
  have hag := hAb.1.2
  obtain ⟨h12, h13⟩ := ab_12 hAb
  have h8 : M 8 = P 8 8 := ab_st hAb (by decide) (by decide)
  have hs12 := inv_S12 hIr
  have h50 := hAb.2.1.1
  have hsv : 0 ≤ P 50 1 ∧ P 50 1 ≤ 4 := ⟨by omega, by omega⟩
  have hl0 := hAb.2.2.2.2.1
  have hl1 := hAb.2.2.2.2.2
  have h10 := hAb.2.2.1.1
  have h107 := hAb.2.2.2.1
  have hno : ¬ ((0 ≤ t ∧ t < P 0 0) ∧ 0 ≤ u ∧ u < P 0 1) := by omega
  refine kMW_start (cc := cL_cost) (maxL := 4) (ret := (some .int)) (by decide) rfl (Nat.le_of_ble_eq_true rfl) ?_
  intro p e s m below meth c hx hb hr hlocks hml hts hown htab hA hG hP hD hS ls hl
  have hK := hG.1.1.1
  have hl : lv_has ls 4 [(0, .ref (a 100)), (1, .int (iI t)), (2, .int (iI u))] := hl
  have hbody : ∀ (H : Heap) (locs : List Loc) (hP : va_P D vwCl (ow cy a P) H) (hD : va_D (va_A (ow cy a P) sz) (ow cy a P)) (hS : va_S (va_A (ow cy a P) sz) s.heap H locs) (ls : Array Slot) (hl : lv_has ls 4 [(0, .ref (a 100)), (1, .int (iI t)), (2, .int (iI u))]), W p l e { frames := 8, cells := 1, slots := 6, locals := 140 } s m ([.ref (a 100), .int (iI t), .int (iI u)] : List Value).toArray below meth c H locs 0 0 (MQ below (kQi D (ow cy a P) sz (fun w9 : (Nat → Nat) × (Nat → Int → Int) => ow cy w9.1 w9.2) (fun r w9 => w9.1 100 = a 100 ∧ ∃ M' n' K', Ab w9.2 M' n' K' ∧ (fun r M' n' K' => (-9030000) = r ∧ M = M' ∧ n = n' ∧ (K) = K') r M' n' K')) ([.ref (a 100), .int (iI t), .int (iI u)] : List Value).toArray s 1 6 (va_A (ow cy a P) sz)) (F0 m 0 ls []) := by
    intro H locs hP hD hS ls hl
    refine lv_aload_n hx hb dL_cost_0 rfl (lv_at hl 0 rfl) ?_
    refine lv_iload_n hx hb dL_cost_1 rfl (lv_at hl 1 rfl) ?_
    refine lv_iload_n hx hb dL_cost_2 rfl (lv_at hl 2 rfl) ?_
    refine k_thV (As := [.int (iI t), .int (iI u)]) (rest := []) ⟨hx, hb, hml, hown, hts⟩ (c_X6_cost_t1 l hl9 D cy a P t u hI hrt hru hno) gL_cost_X6_cost rfl ⟨rfl, rfl⟩ 2 rfl (by decide +kernel) ⟨Nat.le_of_ble_eq_true rfl, Nat.le_of_ble_eq_true rfl⟩ (GX_ok D cy) ((GX_ok D cy).2.2.2 _ _ _ _ (fun _ h => h.elim) ((GX_ok D cy).1 _ _ _ _ hS.2.1 hG)) (hP.sub (ws' := obplW cy a P) [0, 39, 40, 41, 42, 43, 44, 45, 46, 47] rfl) (va_recv hK hP (ci := 5) (q0 := 0) rfl rfl) hl.1 rfl (Nat.le_of_ble_eq_true rfl) ⟨Nat.le_of_ble_eq_true rfl, Nat.le_of_ble_eq_true rfl⟩ dL_cost_3 (fun ce q9 H1 z1 o1 e1 v1 f1 => ?_)
    refine vx_catch (E := exN 0) (name := exN 0) hown (tableOf []) ⟨0, 6, 7, 22⟩ (tableOf []) (by rw [htab]; rfl) (fun z h => by cases h) (by decide) (by decide) (hts (.classLink RL 22 (exN 0)) (by decide +kernel)) (va_Nw.use rfl (hG.2.1 0 (by decide)).2.1) e1 v1 f1 ?_
    have hP1 := P_grow hP o1
    have hS1 := S_grow hS z1 o1
    refine lv_astore_n (lv' := [(3, .ref q9), (0, .ref (a 100)), (1, .int (iI t)), (2, .int (iI u))]) hx hb dL_cost_7 rfl hl (by decide) rfl (fun ls hl => ?_)
    refine k_ldc (z := (-9030000)) hx hb hown (hts (.constant RL 24 (-9030000)) (by decide +kernel)) (by decide +kernel) dL_cost_8 ?_
    exact W.iret (v := iI (-9030000)) hx hb hr (fun t9 ht _ => ⟨⟨iI (-9030000), (a, P), rfl, ⟨(-9030000), rfl, rfl, M, n, K, hAb, rfl, rfl, rfl, rfl⟩, by rw [ht]; exact hP1, hD⟩, hS1.F ht⟩) hS1.2.2 dL_cost_10 hlocks
  exact hbody s.heap [] hP hD hS ls hl
set_option maxHeartbeats 4000000 in
set_option maxRecDepth 100000 in
theorem k_missing (l : Launch) (D : va_G) (cy : Nat → ClassId) (o : Nat) (M : Int → Int) (n : Int) (K : Nat → Int → Int) (v : Int) (hv9 : 0 ≤ v ∧ v ≤ 2147483647) : CKs l D cy yL_missing wsL_missing { frames := 7, cells := 0, slots := 0, locals := 179 } o [.int (iI v)] M n K (fun r M' n' K' => misF M v = r ∧ M = M' ∧ n = n' ∧ (K) = K') 0 0 := by
  intro a P sz ha hAb
  subst ha
  have hI := hAb.inv
  have hIr := hAb.1.1
  have hag := hAb.1.2
  obtain ⟨h12, h13⟩ := ab_12 hAb
  have h8 : M 8 = P 8 8 := ab_st hAb (by decide) (by decide)
  have hs12 := inv_S12 hIr
  have h50 := hAb.2.1.1
  have hsv : 0 ≤ P 50 1 ∧ P 50 1 ≤ 4 := ⟨by omega, by omega⟩
  have hl0 := hAb.2.2.2.2.1
  have hl1 := hAb.2.2.2.2.2
  have h10 := hAb.2.2.1.1
  have h107 := hAb.2.2.2.1
  refine kMW_start (cc := cL_missing) (maxL := 3) (ret := (some .int)) (by decide) rfl (Nat.le_of_ble_eq_true rfl) ?_
  intro p e s m below meth c hx hb hr hlocks hml hts hown htab hA hG hP hD hS ls hl
  have hK := hG.1.1.1
  have hl : lv_has ls 3 [(0, .ref (a 100)), (1, .int (iI v))] := hl
  have hbody : ∀ (H : Heap) (locs : List Loc) (hP : va_P D vwCl (ow cy a P) H) (hD : va_D (va_A (ow cy a P) sz) (ow cy a P)) (hS : va_S (va_A (ow cy a P) sz) s.heap H locs) (ls : Array Slot) (hl : lv_has ls 3 [(0, .ref (a 100)), (1, .int (iI v))]), W p l e { frames := 7, cells := 0, slots := 0, locals := 179 } s m ([.ref (a 100), .int (iI v)] : List Value).toArray below meth c H locs 0 0 (MQ below (kQi D (ow cy a P) sz (fun w9 : (Nat → Nat) × (Nat → Int → Int) => ow cy w9.1 w9.2) (fun r w9 => w9.1 100 = a 100 ∧ ∃ M' n' K', Ab w9.2 M' n' K' ∧ (fun r M' n' K' => misF M v = r ∧ M = M' ∧ n = n' ∧ (K) = K') r M' n' K')) ([.ref (a 100), .int (iI v)] : List Value).toArray s 0 0 (va_A (ow cy a P) sz)) (F0 m 0 ls []) := by
    intro H locs hP hD hS ls hl
    refine lv_aload_n hx hb dL_missing_0 rfl (lv_at hl 0 rfl) ?_
    refine lv_iload_n hx hb dL_missing_1 rfl (lv_at hl 1 rfl) ?_
    refine zl_virt (As := [.int (iI v)]) (rest := []) (pb_lk (cy := cy) (a := a) (P := P)) ⟨hx, hb, hml, hown, hts⟩ (c_X6_missing l D cy H.size a P v hI hl0 hl1 hv9) gL_missing_X6_missing rfl ⟨rfl, rfl⟩ 1 rfl (by decide +kernel) ⟨Nat.le_of_ble_eq_true rfl, Nat.le_of_ble_eq_true rfl⟩ (GG_ok D cy) hG.1.1 hA hP hD hS (va_recv hK hP (ci := 5) (q0 := 0) rfl rfl) hl.1 rfl (Nat.le_of_ble_eq_true rfl) ⟨Nat.le_of_ble_eq_true rfl, Nat.le_of_ble_eq_true rfl⟩ dL_missing_2 (fun r U9 H locs hpost hP hD hS => ?_)
    obtain ⟨zZ, hz, hv2, hu⟩ := hpost
    have hu : U9 = lkU P zZ := hu
    have hoq : objq P (lkU P zZ) := oq_lkU hz
    have hv : r = misF M v := hv2.trans (by rw [misFA v hIr hag])
    have hP : va_P D vwCl (ow cy a (mixB inLk P U9)) H := hP
    have hD : va_D (va_A (ow cy a P) sz) (ow cy a (mixB inLk P U9)) := hD
    rw [hu, mx_lkU_inLk] at hP hD
    have hAb2 := ab_q hAb hoq
    exact W.iret (v := iI r) hx hb hr (fun t9 ht _ => ⟨⟨iI r, (a, lkU P zZ), rfl, ⟨r, rfl, rfl, _, _, _, hAb2, hv.symm, rfl, rfl, rfl⟩, by rw [ht]; exact hP, hD⟩, hS.F ht⟩) hS.2.2 dL_missing_5 hlocks
  exact hbody s.heap [] hP hD hS ls hl
set_option maxHeartbeats 4000000 in
set_option maxRecDepth 100000 in
theorem k_missing_t (l : Launch) (hl9 : l.stackTraces = false) (D : va_G) (cy : Nat → ClassId) (o : Nat) (M : Int → Int) (n : Int) (K : Nat → Int → Int) (v : Int) (hrv : -2147483648 ≤ v ∧ v ≤ 2147483647) (c9 : v < 0) : CKs l D cy yL_missing wsL_missing { frames := 8, cells := 1, slots := 6, locals := 141 } o [.int (iI v)] M n K (fun r M' n' K' => (-9010000) = r ∧ M = M' ∧ n = n' ∧ (K) = K') 1 6 := by
  intro a P sz ha hAb
  subst ha
  have hI := hAb.inv
  have hIr := hAb.1.1
  have hag := hAb.1.2
  obtain ⟨h12, h13⟩ := ab_12 hAb
  have h8 : M 8 = P 8 8 := ab_st hAb (by decide) (by decide)
  have hs12 := inv_S12 hIr
  have h50 := hAb.2.1.1
  have hsv : 0 ≤ P 50 1 ∧ P 50 1 ≤ 4 := ⟨by omega, by omega⟩
  have hl0 := hAb.2.2.2.2.1
  have hl1 := hAb.2.2.2.2.2
  have h10 := hAb.2.2.1.1
  have h107 := hAb.2.2.2.1
  refine kMW_start (cc := cL_missing) (maxL := 3) (ret := (some .int)) (by decide) rfl (Nat.le_of_ble_eq_true rfl) ?_
  intro p e s m below meth c hx hb hr hlocks hml hts hown htab hA hG hP hD hS ls hl
  have hK := hG.1.1.1
  have hl : lv_has ls 3 [(0, .ref (a 100)), (1, .int (iI v))] := hl
  have hbody : ∀ (H : Heap) (locs : List Loc) (hP : va_P D vwCl (ow cy a P) H) (hD : va_D (va_A (ow cy a P) sz) (ow cy a P)) (hS : va_S (va_A (ow cy a P) sz) s.heap H locs) (ls : Array Slot) (hl : lv_has ls 3 [(0, .ref (a 100)), (1, .int (iI v))]), W p l e { frames := 8, cells := 1, slots := 6, locals := 141 } s m ([.ref (a 100), .int (iI v)] : List Value).toArray below meth c H locs 0 0 (MQ below (kQi D (ow cy a P) sz (fun w9 : (Nat → Nat) × (Nat → Int → Int) => ow cy w9.1 w9.2) (fun r w9 => w9.1 100 = a 100 ∧ ∃ M' n' K', Ab w9.2 M' n' K' ∧ (fun r M' n' K' => (-9010000) = r ∧ M = M' ∧ n = n' ∧ (K) = K') r M' n' K')) ([.ref (a 100), .int (iI v)] : List Value).toArray s 1 6 (va_A (ow cy a P) sz)) (F0 m 0 ls []) := by
    intro H locs hP hD hS ls hl
    refine lv_aload_n hx hb dL_missing_0 rfl (lv_at hl 0 rfl) ?_
    refine lv_iload_n hx hb dL_missing_1 rfl (lv_at hl 1 rfl) ?_
    refine k_thV (As := [.int (iI v)]) (rest := []) ⟨hx, hb, hml, hown, hts⟩ (c_X6_missing_t2 l hl9 D cy a P v hrv c9) gL_missing_X6_missing rfl ⟨rfl, rfl⟩ 1 rfl (by decide +kernel) ⟨Nat.le_of_ble_eq_true rfl, Nat.le_of_ble_eq_true rfl⟩ (GX_ok D cy) ((GX_ok D cy).2.2.2 _ _ _ _ (fun _ h => h.elim) ((GX_ok D cy).1 _ _ _ _ hS.2.1 hG)) (hP.sub (ws' := obplW cy a P) [0, 39, 40, 41, 42, 43, 44, 45, 46, 47] rfl) (va_recv hK hP (ci := 5) (q0 := 0) rfl rfl) hl.1 rfl (Nat.le_of_ble_eq_true rfl) ⟨Nat.le_of_ble_eq_true rfl, Nat.le_of_ble_eq_true rfl⟩ dL_missing_2 (fun ce q9 H1 z1 o1 e1 v1 f1 => ?_)
    refine vx_catch (E := exN 1) (name := exN 1) hown (tableOf []) ⟨0, 5, 6, 29⟩ (tableOf []) (by rw [htab]; rfl) (fun z h => by cases h) (by decide) (by decide) (hts (.classLink RL 29 (exN 1)) (by decide +kernel)) (va_Nw.use rfl (hG.2.1 1 (by decide)).2.1) e1 v1 f1 ?_
    have hP1 := P_grow hP o1
    have hS1 := S_grow hS z1 o1
    refine lv_astore_n (lv' := [(2, .ref q9), (0, .ref (a 100)), (1, .int (iI v))]) hx hb dL_missing_6 rfl hl (by decide) rfl (fun ls hl => ?_)
    refine k_ldc (z := (-9010000)) hx hb hown (hts (.constant RL 31 (-9010000)) (by decide +kernel)) (by decide +kernel) dL_missing_7 ?_
    exact W.iret (v := iI (-9010000)) hx hb hr (fun t9 ht _ => ⟨⟨iI (-9010000), (a, P), rfl, ⟨(-9010000), rfl, rfl, M, n, K, hAb, rfl, rfl, rfl, rfl⟩, by rw [ht]; exact hP1, hD⟩, hS1.F ht⟩) hS1.2.2 dL_missing_9 hlocks
  exact hbody s.heap [] hP hD hS ls hl
set_option maxHeartbeats 4000000 in
set_option maxRecDepth 100000 in
theorem k_setting (l : Launch) (D : va_G) (cy : Nat → ClassId) (o : Nat) (M : Int → Int) (n : Int) (K : Nat → Int → Int) (w : Int) (hw : 0 ≤ w ∧ w ≤ 9) : CKs l D cy yL_setting wsL_setting { frames := 2, cells := 0, slots := 0, locals := 51 } o [.int (iI w)] M n K (fun r M' n' K' => M w = r ∧ M = M' ∧ n = n' ∧ (K) = K') 0 0 := by
  intro a P sz ha hAb
  subst ha
  have hI := hAb.inv
  have hIr := hAb.1.1
  have hag := hAb.1.2
  obtain ⟨h12, h13⟩ := ab_12 hAb
  have h8 : M 8 = P 8 8 := ab_st hAb (by decide) (by decide)
  have hs12 := inv_S12 hIr
  have h50 := hAb.2.1.1
  have hsv : 0 ≤ P 50 1 ∧ P 50 1 ≤ 4 := ⟨by omega, by omega⟩
  have hl0 := hAb.2.2.2.2.1
  have hl1 := hAb.2.2.2.2.2
  have h10 := hAb.2.2.1.1
  have h107 := hAb.2.2.2.1
  refine kMW_start (cc := cL_setting) (maxL := 3) (ret := (some .int)) (by decide) rfl (Nat.le_of_ble_eq_true rfl) ?_
  intro p e s m below meth c hx hb hr hlocks hml hts hown htab hA hG hP hD hS ls hl
  have hK := hG.1.1.1
  have hl : lv_has ls 3 [(0, .ref (a 100)), (1, .int (iI w))] := hl
  have hbody : ∀ (H : Heap) (locs : List Loc) (hP : va_P D vwCl (ow cy a P) H) (hD : va_D (va_A (ow cy a P) sz) (ow cy a P)) (hS : va_S (va_A (ow cy a P) sz) s.heap H locs) (ls : Array Slot) (hl : lv_has ls 3 [(0, .ref (a 100)), (1, .int (iI w))]), W p l e { frames := 2, cells := 0, slots := 0, locals := 51 } s m ([.ref (a 100), .int (iI w)] : List Value).toArray below meth c H locs 0 0 (MQ below (kQi D (ow cy a P) sz (fun w9 : (Nat → Nat) × (Nat → Int → Int) => ow cy w9.1 w9.2) (fun r w9 => w9.1 100 = a 100 ∧ ∃ M' n' K', Ab w9.2 M' n' K' ∧ (fun r M' n' K' => M w = r ∧ M = M' ∧ n = n' ∧ (K) = K') r M' n' K')) ([.ref (a 100), .int (iI w)] : List Value).toArray s 0 0 (va_A (ow cy a P) sz)) (F0 m 0 ls []) := by
    intro H locs hP hD hS ls hl
    refine lv_aload_n hx hb dL_setting_0 rfl (lv_at hl 0 rfl) ?_
    refine lv_iload_n hx hb dL_setting_1 rfl (lv_at hl 1 rfl) ?_
    refine k_roV (As := [.int (iI w)]) (rest := []) ⟨hx, hb, hml, hown, hts⟩ (c_X6_setting l D cy a P w hw) gL_setting_X6_setting rfl ⟨rfl, rfl⟩ 1 rfl (by decide +kernel) ⟨Nat.le_of_ble_eq_true rfl, Nat.le_of_ble_eq_true rfl⟩ (GG_ok D cy) ((GG_ok D cy).2.2.2 _ _ _ _ (fun _ h => h.elim) ((GG_ok D cy).1 _ _ _ _ hS.2.1 hG.1.1)) (hP.sub (ws' := obplW cy a P) [0, 39, 40, 41, 42, 43, 44, 45, 46, 47] rfl) (va_recv hK hP (ci := 5) (q0 := 0) rfl rfl) hl.1 rfl (Nat.le_of_ble_eq_true rfl) ⟨Nat.le_of_ble_eq_true rfl, Nat.le_of_ble_eq_true rfl⟩ dL_setting_2 (fun r hv2 => ?_)
    have hv : r = M w := Eq.trans hv2 (ab_st hAb hw.1 (by omega)).symm
    exact W.iret (v := iI r) hx hb hr (fun t9 ht _ => ⟨⟨iI r, (a, P), rfl, ⟨r, rfl, rfl, M, n, K, hAb, hv.symm, rfl, rfl, rfl⟩, by rw [ht]; exact hP, hD⟩, hS.F ht⟩) hS.2.2 dL_setting_5 hlocks
  exact hbody s.heap [] hP hD hS ls hl
set_option maxHeartbeats 4000000 in
set_option maxRecDepth 100000 in
theorem k_setting_t (l : Launch) (hl9 : l.stackTraces = false) (D : va_G) (cy : Nat → ClassId) (o : Nat) (M : Int → Int) (n : Int) (K : Nat → Int → Int) (w : Int) (hrw : -2147483648 ≤ w ∧ w ≤ 2147483647) (hno : ¬ (0 ≤ w ∧ w ≤ 9)) : CKs l D cy yL_setting wsL_setting { frames := 8, cells := 1, slots := 6, locals := 139 } o [.int (iI w)] M n K (fun r M' n' K' => (-9010000) = r ∧ M = M' ∧ n = n' ∧ (K) = K') 1 6 := by
  intro a P sz ha hAb
  subst ha
  have hI := hAb.inv
  have hIr := hAb.1.1
  have hag := hAb.1.2
  obtain ⟨h12, h13⟩ := ab_12 hAb
  have h8 : M 8 = P 8 8 := ab_st hAb (by decide) (by decide)
  have hs12 := inv_S12 hIr
  have h50 := hAb.2.1.1
  have hsv : 0 ≤ P 50 1 ∧ P 50 1 ≤ 4 := ⟨by omega, by omega⟩
  have hl0 := hAb.2.2.2.2.1
  have hl1 := hAb.2.2.2.2.2
  have h10 := hAb.2.2.1.1
  have h107 := hAb.2.2.2.1
  refine kMW_start (cc := cL_setting) (maxL := 3) (ret := (some .int)) (by decide) rfl (Nat.le_of_ble_eq_true rfl) ?_
  intro p e s m below meth c hx hb hr hlocks hml hts hown htab hA hG hP hD hS ls hl
  have hK := hG.1.1.1
  have hl : lv_has ls 3 [(0, .ref (a 100)), (1, .int (iI w))] := hl
  have hbody : ∀ (H : Heap) (locs : List Loc) (hP : va_P D vwCl (ow cy a P) H) (hD : va_D (va_A (ow cy a P) sz) (ow cy a P)) (hS : va_S (va_A (ow cy a P) sz) s.heap H locs) (ls : Array Slot) (hl : lv_has ls 3 [(0, .ref (a 100)), (1, .int (iI w))]), W p l e { frames := 8, cells := 1, slots := 6, locals := 139 } s m ([.ref (a 100), .int (iI w)] : List Value).toArray below meth c H locs 0 0 (MQ below (kQi D (ow cy a P) sz (fun w9 : (Nat → Nat) × (Nat → Int → Int) => ow cy w9.1 w9.2) (fun r w9 => w9.1 100 = a 100 ∧ ∃ M' n' K', Ab w9.2 M' n' K' ∧ (fun r M' n' K' => (-9010000) = r ∧ M = M' ∧ n = n' ∧ (K) = K') r M' n' K')) ([.ref (a 100), .int (iI w)] : List Value).toArray s 1 6 (va_A (ow cy a P) sz)) (F0 m 0 ls []) := by
    intro H locs hP hD hS ls hl
    refine lv_aload_n hx hb dL_setting_0 rfl (lv_at hl 0 rfl) ?_
    refine lv_iload_n hx hb dL_setting_1 rfl (lv_at hl 1 rfl) ?_
    refine k_thV (As := [.int (iI w)]) (rest := []) ⟨hx, hb, hml, hown, hts⟩ (c_X6_setting_t2 l hl9 D cy a P w hrw hno) gL_setting_X6_setting rfl ⟨rfl, rfl⟩ 1 rfl (by decide +kernel) ⟨Nat.le_of_ble_eq_true rfl, Nat.le_of_ble_eq_true rfl⟩ (GX_ok D cy) ((GX_ok D cy).2.2.2 _ _ _ _ (fun _ h => h.elim) ((GX_ok D cy).1 _ _ _ _ hS.2.1 hG)) (hP.sub (ws' := obplW cy a P) [0, 39, 40, 41, 42, 43, 44, 45, 46, 47] rfl) (va_recv hK hP (ci := 5) (q0 := 0) rfl rfl) hl.1 rfl (Nat.le_of_ble_eq_true rfl) ⟨Nat.le_of_ble_eq_true rfl, Nat.le_of_ble_eq_true rfl⟩ dL_setting_2 (fun ce q9 H1 z1 o1 e1 v1 f1 => ?_)
    refine vx_catch (E := exN 1) (name := exN 1) hown (tableOf []) ⟨0, 5, 6, 29⟩ (tableOf []) (by rw [htab]; rfl) (fun z h => by cases h) (by decide) (by decide) (hts (.classLink RL 29 (exN 1)) (by decide +kernel)) (va_Nw.use rfl (hG.2.1 1 (by decide)).2.1) e1 v1 f1 ?_
    have hP1 := P_grow hP o1
    have hS1 := S_grow hS z1 o1
    refine lv_astore_n (lv' := [(2, .ref q9), (0, .ref (a 100)), (1, .int (iI w))]) hx hb dL_setting_6 rfl hl (by decide) rfl (fun ls hl => ?_)
    refine k_ldc (z := (-9010000)) hx hb hown (hts (.constant RL 31 (-9010000)) (by decide +kernel)) (by decide +kernel) dL_setting_7 ?_
    exact W.iret (v := iI (-9010000)) hx hb hr (fun t9 ht _ => ⟨⟨iI (-9010000), (a, P), rfl, ⟨(-9010000), rfl, rfl, M, n, K, hAb, rfl, rfl, rfl, rfl⟩, by rw [ht]; exact hP1, hD⟩, hS1.F ht⟩) hS1.2.2 dL_setting_9 hlocks
  exact hbody s.heap [] hP hD hS ls hl
set_option maxHeartbeats 4000000 in
set_option maxRecDepth 100000 in
theorem k_whole (l : Launch) (D : va_G) (cy : Nat → ClassId) (o : Nat) (M : Int → Int) (n : Int) (K : Nat → Int → Int) (w : Int) (hw : 0 ≤ w ∧ w ≤ 10) : CKs l D cy yL_whole wsL_whole { frames := 7, cells := 0, slots := 0, locals := 177 } o [.int (iI w)] M n K (fun r M' n' K' => whW M w = r ∧ M = M' ∧ n = n' ∧ (K) = K') 0 0 := by
  intro a P sz ha hAb
  subst ha
  have hI := hAb.inv
  have hIr := hAb.1.1
  have hag := hAb.1.2
  obtain ⟨h12, h13⟩ := ab_12 hAb
  have h8 : M 8 = P 8 8 := ab_st hAb (by decide) (by decide)
  have hs12 := inv_S12 hIr
  have h50 := hAb.2.1.1
  have hsv : 0 ≤ P 50 1 ∧ P 50 1 ≤ 4 := ⟨by omega, by omega⟩
  have hl0 := hAb.2.2.2.2.1
  have hl1 := hAb.2.2.2.2.2
  have h10 := hAb.2.2.1.1
  have h107 := hAb.2.2.2.1
  refine kMW_start (cc := cL_whole) (maxL := 3) (ret := (some .int)) (by decide) rfl (Nat.le_of_ble_eq_true rfl) ?_
  intro p e s m below meth c hx hb hr hlocks hml hts hown htab hA hG hP hD hS ls hl
  have hK := hG.1.1.1
  have hl : lv_has ls 3 [(0, .ref (a 100)), (1, .int (iI w))] := hl
  have hbody : ∀ (H : Heap) (locs : List Loc) (hP : va_P D vwCl (ow cy a P) H) (hD : va_D (va_A (ow cy a P) sz) (ow cy a P)) (hS : va_S (va_A (ow cy a P) sz) s.heap H locs) (ls : Array Slot) (hl : lv_has ls 3 [(0, .ref (a 100)), (1, .int (iI w))]), W p l e { frames := 7, cells := 0, slots := 0, locals := 177 } s m ([.ref (a 100), .int (iI w)] : List Value).toArray below meth c H locs 0 0 (MQ below (kQi D (ow cy a P) sz (fun w9 : (Nat → Nat) × (Nat → Int → Int) => ow cy w9.1 w9.2) (fun r w9 => w9.1 100 = a 100 ∧ ∃ M' n' K', Ab w9.2 M' n' K' ∧ (fun r M' n' K' => whW M w = r ∧ M = M' ∧ n = n' ∧ (K) = K') r M' n' K')) ([.ref (a 100), .int (iI w)] : List Value).toArray s 0 0 (va_A (ow cy a P) sz)) (F0 m 0 ls []) := by
    intro H locs hP hD hS ls hl
    refine lv_aload_n hx hb dL_whole_0 rfl (lv_at hl 0 rfl) ?_
    refine lv_iload_n hx hb dL_whole_1 rfl (lv_at hl 1 rfl) ?_
    refine zl_virt (As := [.int (iI w)]) (rest := []) (pb_lk (cy := cy) (a := a) (P := P)) ⟨hx, hb, hml, hown, hts⟩ (c_X6_whole l D cy H.size a P w hI hl0 hl1 hw) gL_whole_X6_whole rfl ⟨rfl, rfl⟩ 1 rfl (by decide +kernel) ⟨Nat.le_of_ble_eq_true rfl, Nat.le_of_ble_eq_true rfl⟩ (GG_ok D cy) hG.1.1 hA hP hD hS (va_recv hK hP (ci := 5) (q0 := 0) rfl rfl) hl.1 rfl (Nat.le_of_ble_eq_true rfl) ⟨Nat.le_of_ble_eq_true rfl, Nat.le_of_ble_eq_true rfl⟩ dL_whole_2 (fun r U9 H locs hpost hP hD hS => ?_)
    obtain ⟨zZ, hz, hv2, hu⟩ := hpost
    have hu : U9 = lkU P zZ := hu
    have hoq : objq P (lkU P zZ) := oq_lkU hz
    have hv : r = whW M w := hv2.trans (by rw [whA w hag])
    have hP : va_P D vwCl (ow cy a (mixB inLk P U9)) H := hP
    have hD : va_D (va_A (ow cy a P) sz) (ow cy a (mixB inLk P U9)) := hD
    rw [hu, mx_lkU_inLk] at hP hD
    have hAb2 := ab_q hAb hoq
    exact W.iret (v := iI r) hx hb hr (fun t9 ht _ => ⟨⟨iI r, (a, lkU P zZ), rfl, ⟨r, rfl, rfl, _, _, _, hAb2, hv.symm, rfl, rfl, rfl⟩, by rw [ht]; exact hP, hD⟩, hS.F ht⟩) hS.2.2 dL_whole_5 hlocks
  exact hbody s.heap [] hP hD hS ls hl
set_option maxHeartbeats 4000000 in
set_option maxRecDepth 100000 in
theorem k_whole_t (l : Launch) (hl9 : l.stackTraces = false) (D : va_G) (cy : Nat → ClassId) (o : Nat) (M : Int → Int) (n : Int) (K : Nat → Int → Int) (w : Int) (hrw : -2147483648 ≤ w ∧ w ≤ 2147483647) (hno : ¬ (0 ≤ w ∧ w ≤ 10)) : CKs l D cy yL_whole wsL_whole { frames := 8, cells := 1, slots := 6, locals := 139 } o [.int (iI w)] M n K (fun r M' n' K' => (-9010000) = r ∧ M = M' ∧ n = n' ∧ (K) = K') 1 6 := by
  intro a P sz ha hAb
  subst ha
  have hI := hAb.inv
  have hIr := hAb.1.1
  have hag := hAb.1.2
  obtain ⟨h12, h13⟩ := ab_12 hAb
  have h8 : M 8 = P 8 8 := ab_st hAb (by decide) (by decide)
  have hs12 := inv_S12 hIr
  have h50 := hAb.2.1.1
  have hsv : 0 ≤ P 50 1 ∧ P 50 1 ≤ 4 := ⟨by omega, by omega⟩
  have hl0 := hAb.2.2.2.2.1
  have hl1 := hAb.2.2.2.2.2
  have h10 := hAb.2.2.1.1
  have h107 := hAb.2.2.2.1
  refine kMW_start (cc := cL_whole) (maxL := 3) (ret := (some .int)) (by decide) rfl (Nat.le_of_ble_eq_true rfl) ?_
  intro p e s m below meth c hx hb hr hlocks hml hts hown htab hA hG hP hD hS ls hl
  have hK := hG.1.1.1
  have hl : lv_has ls 3 [(0, .ref (a 100)), (1, .int (iI w))] := hl
  have hbody : ∀ (H : Heap) (locs : List Loc) (hP : va_P D vwCl (ow cy a P) H) (hD : va_D (va_A (ow cy a P) sz) (ow cy a P)) (hS : va_S (va_A (ow cy a P) sz) s.heap H locs) (ls : Array Slot) (hl : lv_has ls 3 [(0, .ref (a 100)), (1, .int (iI w))]), W p l e { frames := 8, cells := 1, slots := 6, locals := 139 } s m ([.ref (a 100), .int (iI w)] : List Value).toArray below meth c H locs 0 0 (MQ below (kQi D (ow cy a P) sz (fun w9 : (Nat → Nat) × (Nat → Int → Int) => ow cy w9.1 w9.2) (fun r w9 => w9.1 100 = a 100 ∧ ∃ M' n' K', Ab w9.2 M' n' K' ∧ (fun r M' n' K' => (-9010000) = r ∧ M = M' ∧ n = n' ∧ (K) = K') r M' n' K')) ([.ref (a 100), .int (iI w)] : List Value).toArray s 1 6 (va_A (ow cy a P) sz)) (F0 m 0 ls []) := by
    intro H locs hP hD hS ls hl
    refine lv_aload_n hx hb dL_whole_0 rfl (lv_at hl 0 rfl) ?_
    refine lv_iload_n hx hb dL_whole_1 rfl (lv_at hl 1 rfl) ?_
    refine k_thV (As := [.int (iI w)]) (rest := []) ⟨hx, hb, hml, hown, hts⟩ (c_X6_whole_t2 l hl9 D cy a P w hrw hno) gL_whole_X6_whole rfl ⟨rfl, rfl⟩ 1 rfl (by decide +kernel) ⟨Nat.le_of_ble_eq_true rfl, Nat.le_of_ble_eq_true rfl⟩ (GX_ok D cy) ((GX_ok D cy).2.2.2 _ _ _ _ (fun _ h => h.elim) ((GX_ok D cy).1 _ _ _ _ hS.2.1 hG)) (hP.sub (ws' := obplW cy a P) [0, 39, 40, 41, 42, 43, 44, 45, 46, 47] rfl) (va_recv hK hP (ci := 5) (q0 := 0) rfl rfl) hl.1 rfl (Nat.le_of_ble_eq_true rfl) ⟨Nat.le_of_ble_eq_true rfl, Nat.le_of_ble_eq_true rfl⟩ dL_whole_2 (fun ce q9 H1 z1 o1 e1 v1 f1 => ?_)
    refine vx_catch (E := exN 1) (name := exN 1) hown (tableOf []) ⟨0, 5, 6, 29⟩ (tableOf []) (by rw [htab]; rfl) (fun z h => by cases h) (by decide) (by decide) (hts (.classLink RL 29 (exN 1)) (by decide +kernel)) (va_Nw.use rfl (hG.2.1 1 (by decide)).2.1) e1 v1 f1 ?_
    have hP1 := P_grow hP o1
    have hS1 := S_grow hS z1 o1
    refine lv_astore_n (lv' := [(2, .ref q9), (0, .ref (a 100)), (1, .int (iI w))]) hx hb dL_whole_6 rfl hl (by decide) rfl (fun ls hl => ?_)
    refine k_ldc (z := (-9010000)) hx hb hown (hts (.constant RL 31 (-9010000)) (by decide +kernel)) (by decide +kernel) dL_whole_7 ?_
    exact W.iret (v := iI (-9010000)) hx hb hr (fun t9 ht _ => ⟨⟨iI (-9010000), (a, P), rfl, ⟨(-9010000), rfl, rfl, M, n, K, hAb, rfl, rfl, rfl, rfl⟩, by rw [ht]; exact hP1, hD⟩, hS1.F ht⟩) hS1.2.2 dL_whole_9 hlocks
  exact hbody s.heap [] hP hD hS ls hl
set_option maxHeartbeats 4000000 in
set_option maxRecDepth 100000 in
theorem k_costAt (l : Launch) (D : va_G) (cy : Nat → ClassId) (o : Nat) (M : Int → Int) (n : Int) (K : Nat → Int → Int) (x y : Int) (hpo : poleOK x y) : CKs l D cy yL_costAt wsL_costAt { frames := 6, cells := 0, slots := 0, locals := 154 } o [.int (iI x), .int (iI y)] M n K (fun r M' n' K' => pcost (tPo M x y) = r ∧ M = M' ∧ n = n' ∧ (K) = K') 0 0 := by
  intro a P sz ha hAb
  subst ha
  have hI := hAb.inv
  have hIr := hAb.1.1
  have hag := hAb.1.2
  obtain ⟨h12, h13⟩ := ab_12 hAb
  have h8 : M 8 = P 8 8 := ab_st hAb (by decide) (by decide)
  have hs12 := inv_S12 hIr
  have h50 := hAb.2.1.1
  have hsv : 0 ≤ P 50 1 ∧ P 50 1 ≤ 4 := ⟨by omega, by omega⟩
  have hl0 := hAb.2.2.2.2.1
  have hl1 := hAb.2.2.2.2.2
  have h10 := hAb.2.2.1.1
  have h107 := hAb.2.2.2.1
  have hq := hpo
  unfold poleOK at hq
  have hrx : -2147483648 ≤ x ∧ x ≤ 2147483647 := by omega
  have hry : -2147483648 ≤ y ∧ y ≤ 2147483647 := by omega
  refine kMW_start (cc := cL_costAt) (maxL := 4) (ret := (some .int)) (by decide) rfl (Nat.le_of_ble_eq_true rfl) ?_
  intro p e s m below meth c hx hb hr hlocks hml hts hown htab hA hG hP hD hS ls hl
  have hK := hG.1.1.1
  have hl : lv_has ls 4 [(0, .ref (a 100)), (1, .int (iI x)), (2, .int (iI y))] := hl
  have hbody : ∀ (H : Heap) (locs : List Loc) (hP : va_P D vwCl (ow cy a P) H) (hD : va_D (va_A (ow cy a P) sz) (ow cy a P)) (hS : va_S (va_A (ow cy a P) sz) s.heap H locs) (ls : Array Slot) (hl : lv_has ls 4 [(0, .ref (a 100)), (1, .int (iI x)), (2, .int (iI y))]), W p l e { frames := 6, cells := 0, slots := 0, locals := 154 } s m ([.ref (a 100), .int (iI x), .int (iI y)] : List Value).toArray below meth c H locs 0 0 (MQ below (kQi D (ow cy a P) sz (fun w9 : (Nat → Nat) × (Nat → Int → Int) => ow cy w9.1 w9.2) (fun r w9 => w9.1 100 = a 100 ∧ ∃ M' n' K', Ab w9.2 M' n' K' ∧ (fun r M' n' K' => pcost (tPo M x y) = r ∧ M = M' ∧ n = n' ∧ (K) = K') r M' n' K')) ([.ref (a 100), .int (iI x), .int (iI y)] : List Value).toArray s 0 0 (va_A (ow cy a P) sz)) (F0 m 0 ls []) := by
    intro H locs hP hD hS ls hl
    refine lv_aload_n hx hb dL_costAt_0 rfl (lv_at hl 0 rfl) ?_
    refine lv_iload_n hx hb dL_costAt_1 rfl (lv_at hl 1 rfl) ?_
    refine lv_iload_n hx hb dL_costAt_2 rfl (lv_at hl 2 rfl) ?_
    refine k_roV (As := [.int (iI x), .int (iI y)]) (rest := []) ⟨hx, hb, hml, hown, hts⟩ (c_X6_costAt l D cy a P x y hI hpo hrx hry) gL_costAt_X6_costAt rfl ⟨rfl, rfl⟩ 2 rfl (by decide +kernel) ⟨Nat.le_of_ble_eq_true rfl, Nat.le_of_ble_eq_true rfl⟩ (GG_ok D cy) ((GG_ok D cy).2.2.2 _ _ _ _ (fun _ h => h.elim) ((GG_ok D cy).1 _ _ _ _ hS.2.1 hG.1.1)) (hP.sub (ws' := obplW cy a P) [0, 39, 40, 41, 42, 43, 44, 45, 46, 47] rfl) (va_recv hK hP (ci := 5) (q0 := 0) rfl rfl) hl.1 rfl (Nat.le_of_ble_eq_true rfl) ⟨Nat.le_of_ble_eq_true rfl, Nat.le_of_ble_eq_true rfl⟩ dL_costAt_3 (fun r hv2 => ?_)
    have hv : r = pcost (tPo M x y) := Eq.trans hv2 (pcA (po_ag x y hIr hag)).symm
    exact W.iret (v := iI r) hx hb hr (fun t9 ht _ => ⟨⟨iI r, (a, P), rfl, ⟨r, rfl, rfl, M, n, K, hAb, hv.symm, rfl, rfl, rfl⟩, by rw [ht]; exact hP, hD⟩, hS.F ht⟩) hS.2.2 dL_costAt_6 hlocks
  exact hbody s.heap [] hP hD hS ls hl
set_option maxHeartbeats 4000000 in
set_option maxRecDepth 100000 in
theorem k_costAt_t (l : Launch) (hl9 : l.stackTraces = false) (D : va_G) (cy : Nat → ClassId) (o : Nat) (M : Int → Int) (n : Int) (K : Nat → Int → Int) (x y : Int) (hrx : -2147483648 ≤ x ∧ x ≤ 2147483647) (hry : -2147483648 ≤ y ∧ y ≤ 2147483647) (hno : ¬ poleOK x y) : CKs l D cy yL_costAt wsL_costAt { frames := 8, cells := 1, slots := 6, locals := 140 } o [.int (iI x), .int (iI y)] M n K (fun r M' n' K' => (-9010000) = r ∧ M = M' ∧ n = n' ∧ (K) = K') 1 6 := by
  intro a P sz ha hAb
  subst ha
  have hI := hAb.inv
  have hIr := hAb.1.1
  have hag := hAb.1.2
  obtain ⟨h12, h13⟩ := ab_12 hAb
  have h8 : M 8 = P 8 8 := ab_st hAb (by decide) (by decide)
  have hs12 := inv_S12 hIr
  have h50 := hAb.2.1.1
  have hsv : 0 ≤ P 50 1 ∧ P 50 1 ≤ 4 := ⟨by omega, by omega⟩
  have hl0 := hAb.2.2.2.2.1
  have hl1 := hAb.2.2.2.2.2
  have h10 := hAb.2.2.1.1
  have h107 := hAb.2.2.2.1
  refine kMW_start (cc := cL_costAt) (maxL := 4) (ret := (some .int)) (by decide) rfl (Nat.le_of_ble_eq_true rfl) ?_
  intro p e s m below meth c hx hb hr hlocks hml hts hown htab hA hG hP hD hS ls hl
  have hK := hG.1.1.1
  have hl : lv_has ls 4 [(0, .ref (a 100)), (1, .int (iI x)), (2, .int (iI y))] := hl
  have hbody : ∀ (H : Heap) (locs : List Loc) (hP : va_P D vwCl (ow cy a P) H) (hD : va_D (va_A (ow cy a P) sz) (ow cy a P)) (hS : va_S (va_A (ow cy a P) sz) s.heap H locs) (ls : Array Slot) (hl : lv_has ls 4 [(0, .ref (a 100)), (1, .int (iI x)), (2, .int (iI y))]), W p l e { frames := 8, cells := 1, slots := 6, locals := 140 } s m ([.ref (a 100), .int (iI x), .int (iI y)] : List Value).toArray below meth c H locs 0 0 (MQ below (kQi D (ow cy a P) sz (fun w9 : (Nat → Nat) × (Nat → Int → Int) => ow cy w9.1 w9.2) (fun r w9 => w9.1 100 = a 100 ∧ ∃ M' n' K', Ab w9.2 M' n' K' ∧ (fun r M' n' K' => (-9010000) = r ∧ M = M' ∧ n = n' ∧ (K) = K') r M' n' K')) ([.ref (a 100), .int (iI x), .int (iI y)] : List Value).toArray s 1 6 (va_A (ow cy a P) sz)) (F0 m 0 ls []) := by
    intro H locs hP hD hS ls hl
    refine lv_aload_n hx hb dL_costAt_0 rfl (lv_at hl 0 rfl) ?_
    refine lv_iload_n hx hb dL_costAt_1 rfl (lv_at hl 1 rfl) ?_
    refine lv_iload_n hx hb dL_costAt_2 rfl (lv_at hl 2 rfl) ?_
    refine k_thV (As := [.int (iI x), .int (iI y)]) (rest := []) ⟨hx, hb, hml, hown, hts⟩ (c_X6_costAt_t2 l hl9 D cy a P x y hrx hry hno) gL_costAt_X6_costAt rfl ⟨rfl, rfl⟩ 2 rfl (by decide +kernel) ⟨Nat.le_of_ble_eq_true rfl, Nat.le_of_ble_eq_true rfl⟩ (GX_ok D cy) ((GX_ok D cy).2.2.2 _ _ _ _ (fun _ h => h.elim) ((GX_ok D cy).1 _ _ _ _ hS.2.1 hG)) (hP.sub (ws' := obplW cy a P) [0, 39, 40, 41, 42, 43, 44, 45, 46, 47] rfl) (va_recv hK hP (ci := 5) (q0 := 0) rfl rfl) hl.1 rfl (Nat.le_of_ble_eq_true rfl) ⟨Nat.le_of_ble_eq_true rfl, Nat.le_of_ble_eq_true rfl⟩ dL_costAt_3 (fun ce q9 H1 z1 o1 e1 v1 f1 => ?_)
    refine vx_catch (E := exN 1) (name := exN 1) hown (tableOf []) ⟨0, 6, 7, 29⟩ (tableOf []) (by rw [htab]; rfl) (fun z h => by cases h) (by decide) (by decide) (hts (.classLink RL 29 (exN 1)) (by decide +kernel)) (va_Nw.use rfl (hG.2.1 1 (by decide)).2.1) e1 v1 f1 ?_
    have hP1 := P_grow hP o1
    have hS1 := S_grow hS z1 o1
    refine lv_astore_n (lv' := [(3, .ref q9), (0, .ref (a 100)), (1, .int (iI x)), (2, .int (iI y))]) hx hb dL_costAt_7 rfl hl (by decide) rfl (fun ls hl => ?_)
    refine k_ldc (z := (-9010000)) hx hb hown (hts (.constant RL 31 (-9010000)) (by decide +kernel)) (by decide +kernel) dL_costAt_8 ?_
    exact W.iret (v := iI (-9010000)) hx hb hr (fun t9 ht _ => ⟨⟨iI (-9010000), (a, P), rfl, ⟨(-9010000), rfl, rfl, M, n, K, hAb, rfl, rfl, rfl, rfl⟩, by rw [ht]; exact hP1, hD⟩, hS1.F ht⟩) hS1.2.2 dL_costAt_10 hlocks
  exact hbody s.heap [] hP hD hS ls hl
set_option maxHeartbeats 4000000 in
set_option maxRecDepth 100000 in
theorem k_bestDrift (l : Launch) (D : va_G) (cy : Nat → ClassId) (o : Nat) (M : Int → Int) (n : Int) (K : Nat → Int → Int) (m9 : Int) (hq9 : 0 ≤ m9 ∧ m9 ≤ 5) : CKs l D cy yL_bestDrift wsL_bestDrift { frames := 5, cells := 0, slots := 0, locals := 139 } o [.int (iI m9)] M n K (fun r M' n' K' => bdF M m9 = r ∧ M = M' ∧ n = n' ∧ (K) = K') 0 0 := by
  intro a P sz ha hAb
  subst ha
  have hI := hAb.inv
  have hIr := hAb.1.1
  have hag := hAb.1.2
  obtain ⟨h12, h13⟩ := ab_12 hAb
  have h8 : M 8 = P 8 8 := ab_st hAb (by decide) (by decide)
  have hs12 := inv_S12 hIr
  have h50 := hAb.2.1.1
  have hsv : 0 ≤ P 50 1 ∧ P 50 1 ≤ 4 := ⟨by omega, by omega⟩
  have hl0 := hAb.2.2.2.2.1
  have hl1 := hAb.2.2.2.2.2
  have h10 := hAb.2.2.1.1
  have h107 := hAb.2.2.2.1
  refine kMW_start (cc := cL_bestDrift) (maxL := 3) (ret := (some .int)) (by decide) rfl (Nat.le_of_ble_eq_true rfl) ?_
  intro p e s m below meth c hx hb hr hlocks hml hts hown htab hA hG hP hD hS ls hl
  have hK := hG.1.1.1
  have hl : lv_has ls 3 [(0, .ref (a 100)), (1, .int (iI m9))] := hl
  have hbody : ∀ (H : Heap) (locs : List Loc) (hP : va_P D vwCl (ow cy a P) H) (hD : va_D (va_A (ow cy a P) sz) (ow cy a P)) (hS : va_S (va_A (ow cy a P) sz) s.heap H locs) (ls : Array Slot) (hl : lv_has ls 3 [(0, .ref (a 100)), (1, .int (iI m9))]), W p l e { frames := 5, cells := 0, slots := 0, locals := 139 } s m ([.ref (a 100), .int (iI m9)] : List Value).toArray below meth c H locs 0 0 (MQ below (kQi D (ow cy a P) sz (fun w9 : (Nat → Nat) × (Nat → Int → Int) => ow cy w9.1 w9.2) (fun r w9 => w9.1 100 = a 100 ∧ ∃ M' n' K', Ab w9.2 M' n' K' ∧ (fun r M' n' K' => bdF M m9 = r ∧ M = M' ∧ n = n' ∧ (K) = K') r M' n' K')) ([.ref (a 100), .int (iI m9)] : List Value).toArray s 0 0 (va_A (ow cy a P) sz)) (F0 m 0 ls []) := by
    intro H locs hP hD hS ls hl
    refine lv_aload_n hx hb dL_bestDrift_0 rfl (lv_at hl 0 rfl) ?_
    refine lv_iload_n hx hb dL_bestDrift_1 rfl (lv_at hl 1 rfl) ?_
    refine k_roV (As := [.int (iI m9)]) (rest := []) ⟨hx, hb, hml, hown, hts⟩ (c_X6_bestDrift l D cy a P m9 hI hq9) gL_bestDrift_X6_bestDrift rfl ⟨rfl, rfl⟩ 1 rfl (by decide +kernel) ⟨Nat.le_of_ble_eq_true rfl, Nat.le_of_ble_eq_true rfl⟩ (GG_ok D cy) ((GG_ok D cy).2.2.2 _ _ _ _ (fun _ h => h.elim) ((GG_ok D cy).1 _ _ _ _ hS.2.1 hG.1.1)) (hP.sub (ws' := obplW cy a P) [0, 39, 40, 41, 42, 43, 44, 45, 46, 47] rfl) (va_recv hK hP (ci := 5) (q0 := 0) rfl rfl) hl.1 rfl (Nat.le_of_ble_eq_true rfl) ⟨Nat.le_of_ble_eq_true rfl, Nat.le_of_ble_eq_true rfl⟩ dL_bestDrift_2 (fun r hv2 => ?_)
    have hv : r = bdF M m9 := Eq.trans hv2 (bdFA m9 hIr hag).symm
    exact W.iret (v := iI r) hx hb hr (fun t9 ht _ => ⟨⟨iI r, (a, P), rfl, ⟨r, rfl, rfl, M, n, K, hAb, hv.symm, rfl, rfl, rfl⟩, by rw [ht]; exact hP, hD⟩, hS.F ht⟩) hS.2.2 dL_bestDrift_5 hlocks
  exact hbody s.heap [] hP hD hS ls hl
set_option maxHeartbeats 4000000 in
set_option maxRecDepth 100000 in
theorem k_bestDrift_t (l : Launch) (hl9 : l.stackTraces = false) (D : va_G) (cy : Nat → ClassId) (o : Nat) (M : Int → Int) (n : Int) (K : Nat → Int → Int) (m9 : Int) (hrm9 : -2147483648 ≤ m9 ∧ m9 ≤ 2147483647) (hno : ¬ (0 ≤ m9 ∧ m9 ≤ 5)) : CKs l D cy yL_bestDrift wsL_bestDrift { frames := 8, cells := 1, slots := 6, locals := 147 } o [.int (iI m9)] M n K (fun r M' n' K' => (-9010000) = r ∧ M = M' ∧ n = n' ∧ (K) = K') 1 6 := by
  intro a P sz ha hAb
  subst ha
  have hI := hAb.inv
  have hIr := hAb.1.1
  have hag := hAb.1.2
  obtain ⟨h12, h13⟩ := ab_12 hAb
  have h8 : M 8 = P 8 8 := ab_st hAb (by decide) (by decide)
  have hs12 := inv_S12 hIr
  have h50 := hAb.2.1.1
  have hsv : 0 ≤ P 50 1 ∧ P 50 1 ≤ 4 := ⟨by omega, by omega⟩
  have hl0 := hAb.2.2.2.2.1
  have hl1 := hAb.2.2.2.2.2
  have h10 := hAb.2.2.1.1
  have h107 := hAb.2.2.2.1
  refine kMW_start (cc := cL_bestDrift) (maxL := 3) (ret := (some .int)) (by decide) rfl (Nat.le_of_ble_eq_true rfl) ?_
  intro p e s m below meth c hx hb hr hlocks hml hts hown htab hA hG hP hD hS ls hl
  have hK := hG.1.1.1
  have hl : lv_has ls 3 [(0, .ref (a 100)), (1, .int (iI m9))] := hl
  have hbody : ∀ (H : Heap) (locs : List Loc) (hP : va_P D vwCl (ow cy a P) H) (hD : va_D (va_A (ow cy a P) sz) (ow cy a P)) (hS : va_S (va_A (ow cy a P) sz) s.heap H locs) (ls : Array Slot) (hl : lv_has ls 3 [(0, .ref (a 100)), (1, .int (iI m9))]), W p l e { frames := 8, cells := 1, slots := 6, locals := 147 } s m ([.ref (a 100), .int (iI m9)] : List Value).toArray below meth c H locs 0 0 (MQ below (kQi D (ow cy a P) sz (fun w9 : (Nat → Nat) × (Nat → Int → Int) => ow cy w9.1 w9.2) (fun r w9 => w9.1 100 = a 100 ∧ ∃ M' n' K', Ab w9.2 M' n' K' ∧ (fun r M' n' K' => (-9010000) = r ∧ M = M' ∧ n = n' ∧ (K) = K') r M' n' K')) ([.ref (a 100), .int (iI m9)] : List Value).toArray s 1 6 (va_A (ow cy a P) sz)) (F0 m 0 ls []) := by
    intro H locs hP hD hS ls hl
    refine lv_aload_n hx hb dL_bestDrift_0 rfl (lv_at hl 0 rfl) ?_
    refine lv_iload_n hx hb dL_bestDrift_1 rfl (lv_at hl 1 rfl) ?_
    refine k_thV (As := [.int (iI m9)]) (rest := []) ⟨hx, hb, hml, hown, hts⟩ (c_X6_bestDrift_t2 l hl9 D cy a P m9 hrm9 hno) gL_bestDrift_X6_bestDrift rfl ⟨rfl, rfl⟩ 1 rfl (by decide +kernel) ⟨Nat.le_of_ble_eq_true rfl, Nat.le_of_ble_eq_true rfl⟩ (GX_ok D cy) ((GX_ok D cy).2.2.2 _ _ _ _ (fun _ h => h.elim) ((GX_ok D cy).1 _ _ _ _ hS.2.1 hG)) (hP.sub (ws' := obplW cy a P) [0, 39, 40, 41, 42, 43, 44, 45, 46, 47] rfl) (va_recv hK hP (ci := 5) (q0 := 0) rfl rfl) hl.1 rfl (Nat.le_of_ble_eq_true rfl) ⟨Nat.le_of_ble_eq_true rfl, Nat.le_of_ble_eq_true rfl⟩ dL_bestDrift_2 (fun ce q9 H1 z1 o1 e1 v1 f1 => ?_)
    refine vx_catch (E := exN 1) (name := exN 1) hown (tableOf []) ⟨0, 5, 6, 29⟩ (tableOf []) (by rw [htab]; rfl) (fun z h => by cases h) (by decide) (by decide) (hts (.classLink RL 29 (exN 1)) (by decide +kernel)) (va_Nw.use rfl (hG.2.1 1 (by decide)).2.1) e1 v1 f1 ?_
    have hP1 := P_grow hP o1
    have hS1 := S_grow hS z1 o1
    refine lv_astore_n (lv' := [(2, .ref q9), (0, .ref (a 100)), (1, .int (iI m9))]) hx hb dL_bestDrift_6 rfl hl (by decide) rfl (fun ls hl => ?_)
    refine k_ldc (z := (-9010000)) hx hb hown (hts (.constant RL 31 (-9010000)) (by decide +kernel)) (by decide +kernel) dL_bestDrift_7 ?_
    exact W.iret (v := iI (-9010000)) hx hb hr (fun t9 ht _ => ⟨⟨iI (-9010000), (a, P), rfl, ⟨(-9010000), rfl, rfl, M, n, K, hAb, rfl, rfl, rfl, rfl⟩, by rw [ht]; exact hP1, hD⟩, hS1.F ht⟩) hS1.2.2 dL_bestDrift_9 hlocks
  exact hbody s.heap [] hP hD hS ls hl
set_option maxHeartbeats 4000000 in
set_option maxRecDepth 100000 in
theorem k_type_t (l : Launch) (hl9 : l.stackTraces = false) (D : va_G) (cy : Nat → ClassId) (o : Nat) (M : Int → Int) (n : Int) (K : Nat → Int → Int) (v : Int) (hrv : -2147483648 ≤ v ∧ v ≤ 2147483647) (hno : ¬ (0 ≤ v ∧ v ≤ 127)) : CKs l D cy yL_type wsL_type { frames := 8, cells := 1, slots := 6, locals := 139 } o [.int (iI v)] M n K (fun r M' n' K' => (-9010000) = r ∧ M = M' ∧ n = n' ∧ (K) = K') 1 6 := by
  intro a P sz ha hAb
  subst ha
  have hI := hAb.inv
  have hIr := hAb.1.1
  have hag := hAb.1.2
  obtain ⟨h12, h13⟩ := ab_12 hAb
  have h8 : M 8 = P 8 8 := ab_st hAb (by decide) (by decide)
  have hs12 := inv_S12 hIr
  have h50 := hAb.2.1.1
  have hsv : 0 ≤ P 50 1 ∧ P 50 1 ≤ 4 := ⟨by omega, by omega⟩
  have hl0 := hAb.2.2.2.2.1
  have hl1 := hAb.2.2.2.2.2
  have h10 := hAb.2.2.1.1
  have h107 := hAb.2.2.2.1
  refine kMW_start (cc := cL_type) (maxL := 3) (ret := (some .int)) (by decide) rfl (Nat.le_of_ble_eq_true rfl) ?_
  intro p e s m below meth c hx hb hr hlocks hml hts hown htab hA hG hP hD hS ls hl
  have hK := hG.1.1.1
  have hl : lv_has ls 3 [(0, .ref (a 100)), (1, .int (iI v))] := hl
  have hbody : ∀ (H : Heap) (locs : List Loc) (hP : va_P D vwCl (ow cy a P) H) (hD : va_D (va_A (ow cy a P) sz) (ow cy a P)) (hS : va_S (va_A (ow cy a P) sz) s.heap H locs) (ls : Array Slot) (hl : lv_has ls 3 [(0, .ref (a 100)), (1, .int (iI v))]), W p l e { frames := 8, cells := 1, slots := 6, locals := 139 } s m ([.ref (a 100), .int (iI v)] : List Value).toArray below meth c H locs 0 0 (MQ below (kQi D (ow cy a P) sz (fun w9 : (Nat → Nat) × (Nat → Int → Int) => ow cy w9.1 w9.2) (fun r w9 => w9.1 100 = a 100 ∧ ∃ M' n' K', Ab w9.2 M' n' K' ∧ (fun r M' n' K' => (-9010000) = r ∧ M = M' ∧ n = n' ∧ (K) = K') r M' n' K')) ([.ref (a 100), .int (iI v)] : List Value).toArray s 1 6 (va_A (ow cy a P) sz)) (F0 m 0 ls []) := by
    intro H locs hP hD hS ls hl
    refine lv_aload_n hx hb dL_type_0 rfl (lv_at hl 0 rfl) ?_
    refine lv_iload_n hx hb dL_type_1 rfl (lv_at hl 1 rfl) ?_
    refine k_thV (As := [.int (iI v)]) (rest := []) ⟨hx, hb, hml, hown, hts⟩ (c_X6_type_t2 l hl9 D cy a P v hrv hno) gL_type_X6_type rfl ⟨rfl, rfl⟩ 1 rfl (by decide +kernel) ⟨Nat.le_of_ble_eq_true rfl, Nat.le_of_ble_eq_true rfl⟩ (GX_ok D cy) ((GX_ok D cy).2.2.2 _ _ _ _ (fun _ h => h.elim) ((GX_ok D cy).1 _ _ _ _ hS.2.1 hG)) (hP.sub (ws' := obscW cy a P) [0, 48, 49, 50, 51] rfl) (va_recv hK hP (ci := 5) (q0 := 0) rfl rfl) hl.1 rfl (Nat.le_of_ble_eq_true rfl) ⟨Nat.le_of_ble_eq_true rfl, Nat.le_of_ble_eq_true rfl⟩ dL_type_2 (fun ce q9 H1 z1 o1 e1 v1 f1 => ?_)
    refine vx_catch (E := exN 1) (name := exN 1) hown (tableOf []) ⟨0, 5, 6, 29⟩ (tableOf [(0, 5, 10, 15)]) (by rw [htab]; rfl) (fun z h => by cases h) (by decide) (by decide) (hts (.classLink RL 29 (exN 1)) (by decide +kernel)) (va_Nw.use rfl (hG.2.1 1 (by decide)).2.1) e1 v1 f1 ?_
    have hP1 := P_grow hP o1
    have hS1 := S_grow hS z1 o1
    refine lv_astore_n (lv' := [(2, .ref q9), (0, .ref (a 100)), (1, .int (iI v))]) hx hb dL_type_6 rfl hl (by decide) rfl (fun ls hl => ?_)
    refine k_ldc (z := (-9010000)) hx hb hown (hts (.constant RL 31 (-9010000)) (by decide +kernel)) (by decide +kernel) dL_type_7 ?_
    exact W.iret (v := iI (-9010000)) hx hb hr (fun t9 ht _ => ⟨⟨iI (-9010000), (a, P), rfl, ⟨(-9010000), rfl, rfl, M, n, K, hAb, rfl, rfl, rfl, rfl⟩, by rw [ht]; exact hP1, hD⟩, hS1.F ht⟩) hS1.2.2 dL_type_9 hlocks
  exact hbody s.heap [] hP hD hS ls hl
set_option maxHeartbeats 4000000 in
set_option maxRecDepth 100000 in
theorem k_undo (l : Launch) (D : va_G) (cy : Nat → ClassId) (o : Nat) (M : Int → Int) (n : Int) (K : Nat → Int → Int) (hn9 : 0 < n) : CKs l D cy yL_undo wsL_undo { frames := 5, cells := 0, slots := 0, locals := 113 } o [] M n K (fun r M' n' K' => n - 1 = r ∧ K 0 = M' ∧ n - 1 = n' ∧ (fun j => K (j + 1)) = K') 0 0 := by
  intro a P sz ha hAb
  subst ha
  have hI := hAb.inv
  have hIr := hAb.1.1
  have hag := hAb.1.2
  obtain ⟨h12, h13⟩ := ab_12 hAb
  have h8 : M 8 = P 8 8 := ab_st hAb (by decide) (by decide)
  have hs12 := inv_S12 hIr
  have h50 := hAb.2.1.1
  have hsv : 0 ≤ P 50 1 ∧ P 50 1 ≤ 4 := ⟨by omega, by omega⟩
  have hl0 := hAb.2.2.2.2.1
  have hl1 := hAb.2.2.2.2.2
  have h10 := hAb.2.2.1.1
  have h107 := hAb.2.2.2.1
  by_cases hk0 : P 50 1 = 1
  · skip
    have hpg := hAb.2.1.2 0 0 (by omega)
    have hIp : Inv (mO (rpg 0 P)) := inv_A hpg.1 hpg.2
    refine kMW_start (cc := cL_undo) (maxL := 2) (ret := (some .int)) (by decide) rfl (Nat.le_of_ble_eq_true rfl) ?_
    intro p e s m below meth c hx hb hr hlocks hml hts hown htab hA hG hP hD hS ls hl
    have hK := hG.1.1.1
    have hl : lv_has ls 2 [(0, .ref (a 100))] := hl
    have hbody : ∀ (H : Heap) (locs : List Loc) (hP : va_P D vwCl (ow cy a P) H) (hD : va_D (va_A (ow cy a P) sz) (ow cy a P)) (hS : va_S (va_A (ow cy a P) sz) s.heap H locs) (ls : Array Slot) (hl : lv_has ls 2 [(0, .ref (a 100))]), W p l e { frames := 5, cells := 0, slots := 0, locals := 113 } s m ([.ref (a 100)] : List Value).toArray below meth c H locs 0 0 (MQ below (kQi D (ow cy a P) sz (fun w9 : (Nat → Nat) × (Nat → Int → Int) => ow cy w9.1 w9.2) (fun r w9 => w9.1 100 = a 100 ∧ ∃ M' n' K', Ab w9.2 M' n' K' ∧ (fun r M' n' K' => n - 1 = r ∧ K 0 = M' ∧ n - 1 = n' ∧ (fun j => K (j + 1)) = K') r M' n' K')) ([.ref (a 100)] : List Value).toArray s 0 0 (va_A (ow cy a P) sz)) (F0 m 0 ls []) := by
      intro H locs hP hD hS ls hl
      refine lv_aload_n hx hb dL_undo_0 rfl (lv_at hl 0 rfl) ?_
      refine zl_virt (As := []) (rest := []) (pb_hu (cy := cy) (a := a) (P := P)) ⟨hx, hb, hml, hown, hts⟩ (c_X6_undo_0 l D cy H.size a P hk0 hIp) gL_undo_X6_undo rfl ⟨rfl, rfl⟩ 0 rfl (by decide +kernel) ⟨Nat.le_of_ble_eq_true rfl, Nat.le_of_ble_eq_true rfl⟩ (GG_ok D cy) hG.1.1 hA hP hD hS (va_recv hK hP (ci := 5) (q0 := 0) rfl rfl) hl.1 rfl (Nat.le_of_ble_eq_true rfl) ⟨Nat.le_of_ble_eq_true rfl, Nat.le_of_ble_eq_true rfl⟩ dL_undo_1 (fun r U9 H locs hpost hP hD hS => ?_)
      obtain ⟨hv2, h100, hbk⟩ := hpost
      have hv : r = n - 1 := by omega
      have hP : va_P D vwCl (ow cy a (mixB inHs P U9)) H := hP
      have hD : va_D (va_A (ow cy a P) sz) (ow cy a (mixB inHs P U9)) := hD
      rw [mx_hs hbk.1] at hP hD
      have hAb2 : Ab U9 (K 0) (n - 1) (fun j => K (j + 1)) := ab_undo (m9 := 0) hAb (by omega) h100 hbk
      exact W.iret (v := iI r) hx hb hr (fun t9 ht _ => ⟨⟨iI r, (a, U9), rfl, ⟨r, rfl, rfl, _, _, _, hAb2, hv.symm, rfl, rfl, rfl⟩, by rw [ht]; exact hP, hD⟩, hS.F ht⟩) hS.2.2 dL_undo_4 hlocks
    exact hbody s.heap [] hP hD hS ls hl
  by_cases hk1 : P 50 1 = 2
  · skip
    have hpg := hAb.2.1.2 0 1 (by omega)
    have hIp : Inv (mO (rpg 1 P)) := inv_A hpg.1 hpg.2
    refine kMW_start (cc := cL_undo) (maxL := 2) (ret := (some .int)) (by decide) rfl (Nat.le_of_ble_eq_true rfl) ?_
    intro p e s m below meth c hx hb hr hlocks hml hts hown htab hA hG hP hD hS ls hl
    have hK := hG.1.1.1
    have hl : lv_has ls 2 [(0, .ref (a 100))] := hl
    have hbody : ∀ (H : Heap) (locs : List Loc) (hP : va_P D vwCl (ow cy a P) H) (hD : va_D (va_A (ow cy a P) sz) (ow cy a P)) (hS : va_S (va_A (ow cy a P) sz) s.heap H locs) (ls : Array Slot) (hl : lv_has ls 2 [(0, .ref (a 100))]), W p l e { frames := 5, cells := 0, slots := 0, locals := 113 } s m ([.ref (a 100)] : List Value).toArray below meth c H locs 0 0 (MQ below (kQi D (ow cy a P) sz (fun w9 : (Nat → Nat) × (Nat → Int → Int) => ow cy w9.1 w9.2) (fun r w9 => w9.1 100 = a 100 ∧ ∃ M' n' K', Ab w9.2 M' n' K' ∧ (fun r M' n' K' => n - 1 = r ∧ K 0 = M' ∧ n - 1 = n' ∧ (fun j => K (j + 1)) = K') r M' n' K')) ([.ref (a 100)] : List Value).toArray s 0 0 (va_A (ow cy a P) sz)) (F0 m 0 ls []) := by
      intro H locs hP hD hS ls hl
      refine lv_aload_n hx hb dL_undo_0 rfl (lv_at hl 0 rfl) ?_
      refine zl_virt (As := []) (rest := []) (pb_hu (cy := cy) (a := a) (P := P)) ⟨hx, hb, hml, hown, hts⟩ (c_X6_undo_1 l D cy H.size a P hk1 hIp) gL_undo_X6_undo rfl ⟨rfl, rfl⟩ 0 rfl (by decide +kernel) ⟨Nat.le_of_ble_eq_true rfl, Nat.le_of_ble_eq_true rfl⟩ (GG_ok D cy) hG.1.1 hA hP hD hS (va_recv hK hP (ci := 5) (q0 := 0) rfl rfl) hl.1 rfl (Nat.le_of_ble_eq_true rfl) ⟨Nat.le_of_ble_eq_true rfl, Nat.le_of_ble_eq_true rfl⟩ dL_undo_1 (fun r U9 H locs hpost hP hD hS => ?_)
      obtain ⟨hv2, h100, hbk⟩ := hpost
      have hv : r = n - 1 := by omega
      have hP : va_P D vwCl (ow cy a (mixB inHs P U9)) H := hP
      have hD : va_D (va_A (ow cy a P) sz) (ow cy a (mixB inHs P U9)) := hD
      rw [mx_hs hbk.1] at hP hD
      have hAb2 : Ab U9 (K 0) (n - 1) (fun j => K (j + 1)) := ab_undo (m9 := 1) hAb (by omega) h100 hbk
      exact W.iret (v := iI r) hx hb hr (fun t9 ht _ => ⟨⟨iI r, (a, U9), rfl, ⟨r, rfl, rfl, _, _, _, hAb2, hv.symm, rfl, rfl, rfl⟩, by rw [ht]; exact hP, hD⟩, hS.F ht⟩) hS.2.2 dL_undo_4 hlocks
    exact hbody s.heap [] hP hD hS ls hl
  by_cases hk2 : P 50 1 = 3
  · skip
    have hpg := hAb.2.1.2 0 2 (by omega)
    have hIp : Inv (mO (rpg 2 P)) := inv_A hpg.1 hpg.2
    refine kMW_start (cc := cL_undo) (maxL := 2) (ret := (some .int)) (by decide) rfl (Nat.le_of_ble_eq_true rfl) ?_
    intro p e s m below meth c hx hb hr hlocks hml hts hown htab hA hG hP hD hS ls hl
    have hK := hG.1.1.1
    have hl : lv_has ls 2 [(0, .ref (a 100))] := hl
    have hbody : ∀ (H : Heap) (locs : List Loc) (hP : va_P D vwCl (ow cy a P) H) (hD : va_D (va_A (ow cy a P) sz) (ow cy a P)) (hS : va_S (va_A (ow cy a P) sz) s.heap H locs) (ls : Array Slot) (hl : lv_has ls 2 [(0, .ref (a 100))]), W p l e { frames := 5, cells := 0, slots := 0, locals := 113 } s m ([.ref (a 100)] : List Value).toArray below meth c H locs 0 0 (MQ below (kQi D (ow cy a P) sz (fun w9 : (Nat → Nat) × (Nat → Int → Int) => ow cy w9.1 w9.2) (fun r w9 => w9.1 100 = a 100 ∧ ∃ M' n' K', Ab w9.2 M' n' K' ∧ (fun r M' n' K' => n - 1 = r ∧ K 0 = M' ∧ n - 1 = n' ∧ (fun j => K (j + 1)) = K') r M' n' K')) ([.ref (a 100)] : List Value).toArray s 0 0 (va_A (ow cy a P) sz)) (F0 m 0 ls []) := by
      intro H locs hP hD hS ls hl
      refine lv_aload_n hx hb dL_undo_0 rfl (lv_at hl 0 rfl) ?_
      refine zl_virt (As := []) (rest := []) (pb_hu (cy := cy) (a := a) (P := P)) ⟨hx, hb, hml, hown, hts⟩ (c_X6_undo_2 l D cy H.size a P hk2 hIp) gL_undo_X6_undo rfl ⟨rfl, rfl⟩ 0 rfl (by decide +kernel) ⟨Nat.le_of_ble_eq_true rfl, Nat.le_of_ble_eq_true rfl⟩ (GG_ok D cy) hG.1.1 hA hP hD hS (va_recv hK hP (ci := 5) (q0 := 0) rfl rfl) hl.1 rfl (Nat.le_of_ble_eq_true rfl) ⟨Nat.le_of_ble_eq_true rfl, Nat.le_of_ble_eq_true rfl⟩ dL_undo_1 (fun r U9 H locs hpost hP hD hS => ?_)
      obtain ⟨hv2, h100, hbk⟩ := hpost
      have hv : r = n - 1 := by omega
      have hP : va_P D vwCl (ow cy a (mixB inHs P U9)) H := hP
      have hD : va_D (va_A (ow cy a P) sz) (ow cy a (mixB inHs P U9)) := hD
      rw [mx_hs hbk.1] at hP hD
      have hAb2 : Ab U9 (K 0) (n - 1) (fun j => K (j + 1)) := ab_undo (m9 := 2) hAb (by omega) h100 hbk
      exact W.iret (v := iI r) hx hb hr (fun t9 ht _ => ⟨⟨iI r, (a, U9), rfl, ⟨r, rfl, rfl, _, _, _, hAb2, hv.symm, rfl, rfl, rfl⟩, by rw [ht]; exact hP, hD⟩, hS.F ht⟩) hS.2.2 dL_undo_4 hlocks
    exact hbody s.heap [] hP hD hS ls hl
  by_cases hk3 : P 50 1 = 4
  · skip
    have hpg := hAb.2.1.2 0 3 (by omega)
    have hIp : Inv (mO (rpg 3 P)) := inv_A hpg.1 hpg.2
    refine kMW_start (cc := cL_undo) (maxL := 2) (ret := (some .int)) (by decide) rfl (Nat.le_of_ble_eq_true rfl) ?_
    intro p e s m below meth c hx hb hr hlocks hml hts hown htab hA hG hP hD hS ls hl
    have hK := hG.1.1.1
    have hl : lv_has ls 2 [(0, .ref (a 100))] := hl
    have hbody : ∀ (H : Heap) (locs : List Loc) (hP : va_P D vwCl (ow cy a P) H) (hD : va_D (va_A (ow cy a P) sz) (ow cy a P)) (hS : va_S (va_A (ow cy a P) sz) s.heap H locs) (ls : Array Slot) (hl : lv_has ls 2 [(0, .ref (a 100))]), W p l e { frames := 5, cells := 0, slots := 0, locals := 113 } s m ([.ref (a 100)] : List Value).toArray below meth c H locs 0 0 (MQ below (kQi D (ow cy a P) sz (fun w9 : (Nat → Nat) × (Nat → Int → Int) => ow cy w9.1 w9.2) (fun r w9 => w9.1 100 = a 100 ∧ ∃ M' n' K', Ab w9.2 M' n' K' ∧ (fun r M' n' K' => n - 1 = r ∧ K 0 = M' ∧ n - 1 = n' ∧ (fun j => K (j + 1)) = K') r M' n' K')) ([.ref (a 100)] : List Value).toArray s 0 0 (va_A (ow cy a P) sz)) (F0 m 0 ls []) := by
      intro H locs hP hD hS ls hl
      refine lv_aload_n hx hb dL_undo_0 rfl (lv_at hl 0 rfl) ?_
      refine zl_virt (As := []) (rest := []) (pb_hu (cy := cy) (a := a) (P := P)) ⟨hx, hb, hml, hown, hts⟩ (c_X6_undo_3 l D cy H.size a P hk3 hIp) gL_undo_X6_undo rfl ⟨rfl, rfl⟩ 0 rfl (by decide +kernel) ⟨Nat.le_of_ble_eq_true rfl, Nat.le_of_ble_eq_true rfl⟩ (GG_ok D cy) hG.1.1 hA hP hD hS (va_recv hK hP (ci := 5) (q0 := 0) rfl rfl) hl.1 rfl (Nat.le_of_ble_eq_true rfl) ⟨Nat.le_of_ble_eq_true rfl, Nat.le_of_ble_eq_true rfl⟩ dL_undo_1 (fun r U9 H locs hpost hP hD hS => ?_)
      obtain ⟨hv2, h100, hbk⟩ := hpost
      have hv : r = n - 1 := by omega
      have hP : va_P D vwCl (ow cy a (mixB inHs P U9)) H := hP
      have hD : va_D (va_A (ow cy a P) sz) (ow cy a (mixB inHs P U9)) := hD
      rw [mx_hs hbk.1] at hP hD
      have hAb2 : Ab U9 (K 0) (n - 1) (fun j => K (j + 1)) := ab_undo (m9 := 3) hAb (by omega) h100 hbk
      exact W.iret (v := iI r) hx hb hr (fun t9 ht _ => ⟨⟨iI r, (a, U9), rfl, ⟨r, rfl, rfl, _, _, _, hAb2, hv.symm, rfl, rfl, rfl⟩, by rw [ht]; exact hP, hD⟩, hS.F ht⟩) hS.2.2 dL_undo_4 hlocks
    exact hbody s.heap [] hP hD hS ls hl
  exfalso
  omega
set_option maxHeartbeats 4000000 in
set_option maxRecDepth 100000 in
theorem k_undo_t (l : Launch) (hl9 : l.stackTraces = false) (D : va_G) (cy : Nat → ClassId) (o : Nat) (M : Int → Int) (n : Int) (K : Nat → Int → Int) (c9 : n = 0) : CKs l D cy yL_undo wsL_undo { frames := 8, cells := 1, slots := 6, locals := 138 } o [] M n K (fun r M' n' K' => (-9020000) = r ∧ M = M' ∧ n = n' ∧ (K) = K') 1 6 := by
  intro a P sz ha hAb
  subst ha
  have hI := hAb.inv
  have hIr := hAb.1.1
  have hag := hAb.1.2
  obtain ⟨h12, h13⟩ := ab_12 hAb
  have h8 : M 8 = P 8 8 := ab_st hAb (by decide) (by decide)
  have hs12 := inv_S12 hIr
  have h50 := hAb.2.1.1
  have hsv : 0 ≤ P 50 1 ∧ P 50 1 ≤ 4 := ⟨by omega, by omega⟩
  have hl0 := hAb.2.2.2.2.1
  have hl1 := hAb.2.2.2.2.2
  have h10 := hAb.2.2.1.1
  have h107 := hAb.2.2.2.1
  have hno : P 50 1 = 0 := by omega
  refine kMW_start (cc := cL_undo) (maxL := 2) (ret := (some .int)) (by decide) rfl (Nat.le_of_ble_eq_true rfl) ?_
  intro p e s m below meth c hx hb hr hlocks hml hts hown htab hA hG hP hD hS ls hl
  have hK := hG.1.1.1
  have hl : lv_has ls 2 [(0, .ref (a 100))] := hl
  have hbody : ∀ (H : Heap) (locs : List Loc) (hP : va_P D vwCl (ow cy a P) H) (hD : va_D (va_A (ow cy a P) sz) (ow cy a P)) (hS : va_S (va_A (ow cy a P) sz) s.heap H locs) (ls : Array Slot) (hl : lv_has ls 2 [(0, .ref (a 100))]), W p l e { frames := 8, cells := 1, slots := 6, locals := 138 } s m ([.ref (a 100)] : List Value).toArray below meth c H locs 0 0 (MQ below (kQi D (ow cy a P) sz (fun w9 : (Nat → Nat) × (Nat → Int → Int) => ow cy w9.1 w9.2) (fun r w9 => w9.1 100 = a 100 ∧ ∃ M' n' K', Ab w9.2 M' n' K' ∧ (fun r M' n' K' => (-9020000) = r ∧ M = M' ∧ n = n' ∧ (K) = K') r M' n' K')) ([.ref (a 100)] : List Value).toArray s 1 6 (va_A (ow cy a P) sz)) (F0 m 0 ls []) := by
    intro H locs hP hD hS ls hl
    refine lv_aload_n hx hb dL_undo_0 rfl (lv_at hl 0 rfl) ?_
    refine k_thV (As := []) (rest := []) ⟨hx, hb, hml, hown, hts⟩ (c_X6_undo_t3 l hl9 D cy a P hno) gL_undo_X6_undo rfl ⟨rfl, rfl⟩ 0 rfl (by decide +kernel) ⟨Nat.le_of_ble_eq_true rfl, Nat.le_of_ble_eq_true rfl⟩ (GX_ok D cy) ((GX_ok D cy).2.2.2 _ _ _ _ (fun _ h => h.elim) ((GX_ok D cy).1 _ _ _ _ hS.2.1 hG)) (hP.sub (ws' := obhsW cy a P) [0, 1, 2, 3, 4, 5, 6, 7, 8, 9, 10, 11, 12, 13, 14, 15, 16, 17, 18, 19, 20, 21, 22, 23, 24, 25, 26, 27, 28, 29, 30, 31, 32, 33, 34, 35, 36, 37, 38, 39, 40, 41, 42, 43, 44, 45, 46, 47] rfl) (va_recv hK hP (ci := 5) (q0 := 0) rfl rfl) hl.1 rfl (Nat.le_of_ble_eq_true rfl) ⟨Nat.le_of_ble_eq_true rfl, Nat.le_of_ble_eq_true rfl⟩ dL_undo_1 (fun ce q9 H1 z1 o1 e1 v1 f1 => ?_)
    refine vx_catch (E := exN 2) (name := exN 2) hown (tableOf []) ⟨0, 4, 5, 15⟩ (tableOf []) (by rw [htab]; rfl) (fun z h => by cases h) (by decide) (by decide) (hts (.classLink RL 15 (exN 2)) (by decide +kernel)) (va_Nw.use rfl (hG.2.1 2 (by decide)).2.1) e1 v1 f1 ?_
    have hP1 := P_grow hP o1
    have hS1 := S_grow hS z1 o1
    refine lv_astore_n (lv' := [(1, .ref q9), (0, .ref (a 100))]) hx hb dL_undo_5 rfl hl (by decide) rfl (fun ls hl => ?_)
    refine k_ldc (z := (-9020000)) hx hb hown (hts (.constant RL 17 (-9020000)) (by decide +kernel)) (by decide +kernel) dL_undo_6 ?_
    exact W.iret (v := iI (-9020000)) hx hb hr (fun t9 ht _ => ⟨⟨iI (-9020000), (a, P), rfl, ⟨(-9020000), rfl, rfl, M, n, K, hAb, rfl, rfl, rfl, rfl⟩, by rw [ht]; exact hP1, hD⟩, hS1.F ht⟩) hS1.2.2 dL_undo_8 hlocks
  exact hbody s.heap [] hP hD hS ls hl
