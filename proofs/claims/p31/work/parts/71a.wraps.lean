/-! the law's helpers, told of the object's state -/
set_option maxHeartbeats 4000000 in
set_option maxRecDepth 100000 in
theorem k_addTrail (l : Launch) (D : va_G) (cy : Nat → ClassId) (o : Nat) (M : Int → Int) (n : Int) (K : Nat → Int → Int) (c9 : M 12 < 12) : CKs l D cy yL_addTrail wsL_addTrail { frames := 6, cells := 0, slots := 0, locals := 133 } o [] M n K (fun r M' n' K' => M 12 = r ∧ tAT M = M' ∧ kpN n = n' ∧ (csF M K) = K') 0 0 := by
  intro a P sz ha hAb
  subst ha
  have hI := hAb.inv
  have hIr := hAb.1.1
  have hag := hAb.1.2
  obtain ⟨h12, h13⟩ := ab_12 hAb
  have h8 : M 8 = P 8 8 := ab_st hAb (by decide) (by decide)
  have hs12 := inv_S12 hIr
  have h50 := hAb.2.1.1
  have hsv : 0 ≤ P 50 1 ∧ P 50 1 ≤ 4 := ⟨by omega, by omega⟩
  have hl0 := hAb.2.2.2.2.1
  have hl1 := hAb.2.2.2.2.2
  have h10 := hAb.2.2.1.1
  have h107 := hAb.2.2.2.1
  have hok : P 0 0 < 12 := by omega
  refine kMW_start (cc := cL_addTrail) (maxL := 2) (ret := (some .int)) (by decide) rfl (Nat.le_of_ble_eq_true rfl) ?_
  intro p e s m below meth c hx hb hr hlocks hml hts hown htab hA hG hP hD hS ls hl
  have hK := hG.1.1.1
  have hl : lv_has ls 2 [(0, .ref (a 100))] := hl
  have hbody : ∀ (H : Heap) (locs : List Loc) (hP : va_P D vwCl (ow cy a P) H) (hD : va_D (va_A (ow cy a P) sz) (ow cy a P)) (hS : va_S (va_A (ow cy a P) sz) s.heap H locs) (ls : Array Slot) (hl : lv_has ls 2 [(0, .ref (a 100))]), W p l e { frames := 6, cells := 0, slots := 0, locals := 133 } s m ([.ref (a 100)] : List Value).toArray below meth c H locs 0 0 (MQ below (kQi D (ow cy a P) sz (fun w9 : (Nat → Nat) × (Nat → Int → Int) => ow cy w9.1 w9.2) (fun r w9 => w9.1 100 = a 100 ∧ ∃ M' n' K', Ab w9.2 M' n' K' ∧ (fun r M' n' K' => M 12 = r ∧ tAT M = M' ∧ kpN n = n' ∧ (csF M K) = K') r M' n' K')) ([.ref (a 100)] : List Value).toArray s 0 0 (va_A (ow cy a P) sz)) (F0 m 0 ls []) := by
    intro H locs hP hD hS ls hl
    refine lv_aload_n hx hb dL_addTrail_0 rfl (lv_at hl 0 rfl) ?_
    refine zl_virt (As := []) (rest := []) (pb_hs (cy := cy) (a := a) (P := P)) ⟨hx, hb, hml, hown, hts⟩ (c_X6_addTrail l D cy H.size a P hI hsv hok) gL_addTrail_X6_addTrail rfl ⟨rfl, rfl⟩ 0 rfl (by decide +kernel) ⟨Nat.le_of_ble_eq_true rfl, Nat.le_of_ble_eq_true rfl⟩ (GG_ok D cy) hG.1.1 hA hP hD hS (va_recv hK hP (ci := 5) (q0 := 0) rfl rfl) hl.1 rfl (Nat.le_of_ble_eq_true rfl) ⟨Nat.le_of_ble_eq_true rfl, Nat.le_of_ble_eq_true rfl⟩ dL_addTrail_1 (fun r U9 H locs hpost hP hD hS => ?_)
    obtain ⟨hv2, ho⟩ := hpost
    have hv : r = M 12 := by omega
    have hP : va_P D vwCl (ow cy (pgm a U9.1) (mixB inHs P U9.2)) H := hP
    have hD : va_D (va_A (ow cy a P) sz) (ow cy (pgm a U9.1) (mixB inHs P U9.2)) := hD
    rw [mx_hs ho.2.2.1] at hP hD
    have hAb2 : Ab U9.2 (tAT M) (kpN n) (csF M K) := ab_op hAb ho (at_ag hIr hag c9) (at_inv hIr c9)
    exact W.iret (v := iI r) hx hb hr (fun t9 ht _ => ⟨⟨iI r, (pgm a U9.1, U9.2), rfl, ⟨r, rfl, rfl, _, _, _, hAb2, hv.symm, rfl, rfl, rfl⟩, by rw [ht]; exact hP, hD⟩, hS.F ht⟩) hS.2.2 dL_addTrail_4 hlocks
  exact hbody s.heap [] hP hD hS ls hl
set_option maxHeartbeats 4000000 in
set_option maxRecDepth 100000 in
theorem k_addTrail_t (l : Launch) (hl9 : l.stackTraces = false) (D : va_G) (cy : Nat → ClassId) (o : Nat) (M : Int → Int) (n : Int) (K : Nat → Int → Int) (c9 : M 12 = 12) : CKs l D cy yL_addTrail wsL_addTrail { frames := 8, cells := 1, slots := 6, locals := 138 } o [] M n K (fun r M' n' K' => (-9020000) = r ∧ M = M' ∧ n = n' ∧ (K) = K') 1 6 := by
  intro a P sz ha hAb
  subst ha
  have hI := hAb.inv
  have hIr := hAb.1.1
  have hag := hAb.1.2
  obtain ⟨h12, h13⟩ := ab_12 hAb
  have h8 : M 8 = P 8 8 := ab_st hAb (by decide) (by decide)
  have hs12 := inv_S12 hIr
  have h50 := hAb.2.1.1
  have hsv : 0 ≤ P 50 1 ∧ P 50 1 ≤ 4 := ⟨by omega, by omega⟩
  have hl0 := hAb.2.2.2.2.1
  have hl1 := hAb.2.2.2.2.2
  have h10 := hAb.2.2.1.1
  have h107 := hAb.2.2.2.1
  have hno : P 0 0 = 12 := by omega
  refine kMW_start (cc := cL_addTrail) (maxL := 2) (ret := (some .int)) (by decide) rfl (Nat.le_of_ble_eq_true rfl) ?_
  intro p e s m below meth c hx hb hr hlocks hml hts hown htab hA hG hP hD hS ls hl
  have hK := hG.1.1.1
  have hl : lv_has ls 2 [(0, .ref (a 100))] := hl
  have hbody : ∀ (H : Heap) (locs : List Loc) (hP : va_P D vwCl (ow cy a P) H) (hD : va_D (va_A (ow cy a P) sz) (ow cy a P)) (hS : va_S (va_A (ow cy a P) sz) s.heap H locs) (ls : Array Slot) (hl : lv_has ls 2 [(0, .ref (a 100))]), W p l e { frames := 8, cells := 1, slots := 6, locals := 138 } s m ([.ref (a 100)] : List Value).toArray below meth c H locs 0 0 (MQ below (kQi D (ow cy a P) sz (fun w9 : (Nat → Nat) × (Nat → Int → Int) => ow cy w9.1 w9.2) (fun r w9 => w9.1 100 = a 100 ∧ ∃ M' n' K', Ab w9.2 M' n' K' ∧ (fun r M' n' K' => (-9020000) = r ∧ M = M' ∧ n = n' ∧ (K) = K') r M' n' K')) ([.ref (a 100)] : List Value).toArray s 1 6 (va_A (ow cy a P) sz)) (F0 m 0 ls []) := by
    intro H locs hP hD hS ls hl
    refine lv_aload_n hx hb dL_addTrail_0 rfl (lv_at hl 0 rfl) ?_
    refine k_thV (As := []) (rest := []) ⟨hx, hb, hml, hown, hts⟩ (c_X6_addTrail_t3 l hl9 D cy a P hI hno) gL_addTrail_X6_addTrail rfl ⟨rfl, rfl⟩ 0 rfl (by decide +kernel) ⟨Nat.le_of_ble_eq_true rfl, Nat.le_of_ble_eq_true rfl⟩ (GX_ok D cy) ((GX_ok D cy).2.2.2 _ _ _ _ (fun _ h => h.elim) ((GX_ok D cy).1 _ _ _ _ hS.2.1 hG)) (hP.sub (ws' := obplW cy a P) [0, 39, 40, 41, 42, 43, 44, 45, 46, 47] rfl) (va_recv hK hP (ci := 5) (q0 := 0) rfl rfl) hl.1 rfl (Nat.le_of_ble_eq_true rfl) ⟨Nat.le_of_ble_eq_true rfl, Nat.le_of_ble_eq_true rfl⟩ dL_addTrail_1 (fun ce q9 H1 z1 o1 e1 v1 f1 => ?_)
    refine vx_catch (E := exN 2) (name := exN 2) hown (tableOf []) ⟨0, 4, 5, 15⟩ (tableOf []) (by rw [htab]; rfl) (fun z h => by cases h) (by decide) (by decide) (hts (.classLink RL 15 (exN 2)) (by decide +kernel)) (va_Nw.use rfl (hG.2.1 2 (by decide)).2.1) e1 v1 f1 ?_
    have hP1 := P_grow hP o1
    have hS1 := S_grow hS z1 o1
    refine lv_astore_n (lv' := [(1, .ref q9), (0, .ref (a 100))]) hx hb dL_addTrail_5 rfl hl (by decide) rfl (fun ls hl => ?_)
    refine k_ldc (z := (-9020000)) hx hb hown (hts (.constant RL 17 (-9020000)) (by decide +kernel)) (by decide +kernel) dL_addTrail_6 ?_
    exact W.iret (v := iI (-9020000)) hx hb hr (fun t9 ht _ => ⟨⟨iI (-9020000), (a, P), rfl, ⟨(-9020000), rfl, rfl, M, n, K, hAb, rfl, rfl, rfl, rfl⟩, by rw [ht]; exact hP1, hD⟩, hS1.F ht⟩) hS1.2.2 dL_addTrail_8 hlocks
  exact hbody s.heap [] hP hD hS ls hl
set_option maxHeartbeats 4000000 in
set_option maxRecDepth 100000 in
theorem k_removeTrail (l : Launch) (D : va_G) (cy : Nat → ClassId) (o : Nat) (M : Int → Int) (n : Int) (K : Nat → Int → Int) (t : Int) (h0 : 0 ≤ t) (h1 : t < M 12) : CKs l D cy yL_removeTrail wsL_removeTrail { frames := 6, cells := 0, slots := 0, locals := 134 } o [.int (iI t)] M n K (fun r M' n' K' => M 12 - 1 = r ∧ tRT M t = M' ∧ kpN n = n' ∧ (csF M K) = K') 0 0 := by
  intro a P sz ha hAb
  subst ha
  have hI := hAb.inv
  have hIr := hAb.1.1
  have hag := hAb.1.2
  obtain ⟨h12, h13⟩ := ab_12 hAb
  have h8 : M 8 = P 8 8 := ab_st hAb (by decide) (by decide)
  have hs12 := inv_S12 hIr
  have h50 := hAb.2.1.1
  have hsv : 0 ≤ P 50 1 ∧ P 50 1 ≤ 4 := ⟨by omega, by omega⟩
  have hl0 := hAb.2.2.2.2.1
  have hl1 := hAb.2.2.2.2.2
  have h10 := hAb.2.2.1.1
  have h107 := hAb.2.2.2.1
  have g1 : t < P 0 0 := by omega
  refine kMW_start (cc := cL_removeTrail) (maxL := 3) (ret := (some .int)) (by decide) rfl (Nat.le_of_ble_eq_true rfl) ?_
  intro p e s m below meth c hx hb hr hlocks hml hts hown htab hA hG hP hD hS ls hl
  have hK := hG.1.1.1
  have hl : lv_has ls 3 [(0, .ref (a 100)), (1, .int (iI t))] := hl
  have hbody : ∀ (H : Heap) (locs : List Loc) (hP : va_P D vwCl (ow cy a P) H) (hD : va_D (va_A (ow cy a P) sz) (ow cy a P)) (hS : va_S (va_A (ow cy a P) sz) s.heap H locs) (ls : Array Slot) (hl : lv_has ls 3 [(0, .ref (a 100)), (1, .int (iI t))]), W p l e { frames := 6, cells := 0, slots := 0, locals := 134 } s m ([.ref (a 100), .int (iI t)] : List Value).toArray below meth c H locs 0 0 (MQ below (kQi D (ow cy a P) sz (fun w9 : (Nat → Nat) × (Nat → Int → Int) => ow cy w9.1 w9.2) (fun r w9 => w9.1 100 = a 100 ∧ ∃ M' n' K', Ab w9.2 M' n' K' ∧ (fun r M' n' K' => M 12 - 1 = r ∧ tRT M t = M' ∧ kpN n = n' ∧ (csF M K) = K') r M' n' K')) ([.ref (a 100), .int (iI t)] : List Value).toArray s 0 0 (va_A (ow cy a P) sz)) (F0 m 0 ls []) := by
    intro H locs hP hD hS ls hl
    refine lv_aload_n hx hb dL_removeTrail_0 rfl (lv_at hl 0 rfl) ?_
    refine lv_iload_n hx hb dL_removeTrail_1 rfl (lv_at hl 1 rfl) ?_
    refine zl_virt (As := [.int (iI t)]) (rest := []) (pb_hs (cy := cy) (a := a) (P := P)) ⟨hx, hb, hml, hown, hts⟩ (c_X6_removeTrail l D cy H.size a P t hI hsv h0 g1) gL_removeTrail_X6_removeTrail rfl ⟨rfl, rfl⟩ 1 rfl (by decide +kernel) ⟨Nat.le_of_ble_eq_true rfl, Nat.le_of_ble_eq_true rfl⟩ (GG_ok D cy) hG.1.1 hA hP hD hS (va_recv hK hP (ci := 5) (q0 := 0) rfl rfl) hl.1 rfl (Nat.le_of_ble_eq_true rfl) ⟨Nat.le_of_ble_eq_true rfl, Nat.le_of_ble_eq_true rfl⟩ dL_removeTrail_2 (fun r U9 H locs hpost hP hD hS => ?_)
    obtain ⟨hv2, ho⟩ := hpost
    have hv : r = M 12 - 1 := by omega
    have hP : va_P D vwCl (ow cy (pgm a U9.1) (mixB inHs P U9.2)) H := hP
    have hD : va_D (va_A (ow cy a P) sz) (ow cy (pgm a U9.1) (mixB inHs P U9.2)) := hD
    rw [mx_hs ho.2.2.1] at hP hD
    have hAb2 : Ab U9.2 (tRT M t) (kpN n) (csF M K) := ab_op hAb ho (rt_ag hIr hag h0 h1) (rt_inv hIr h0 h1)
    exact W.iret (v := iI r) hx hb hr (fun t9 ht _ => ⟨⟨iI r, (pgm a U9.1, U9.2), rfl, ⟨r, rfl, rfl, _, _, _, hAb2, hv.symm, rfl, rfl, rfl⟩, by rw [ht]; exact hP, hD⟩, hS.F ht⟩) hS.2.2 dL_removeTrail_5 hlocks
  exact hbody s.heap [] hP hD hS ls hl
set_option maxHeartbeats 4000000 in
set_option maxRecDepth 100000 in
theorem k_removeTrail_t (l : Launch) (hl9 : l.stackTraces = false) (D : va_G) (cy : Nat → ClassId) (o : Nat) (M : Int → Int) (n : Int) (K : Nat → Int → Int) (t : Int) (hrt : -2147483648 ≤ t ∧ t ≤ 2147483647) (c9 : ¬ (0 ≤ t ∧ t < M 12)) : CKs l D cy yL_removeTrail wsL_removeTrail { frames := 8, cells := 1, slots := 6, locals := 139 } o [.int (iI t)] M n K (fun r M' n' K' => (-9030000) = r ∧ M = M' ∧ n = n' ∧ (K) = K') 1 6 := by
  intro a P sz ha hAb
  subst ha
  have hI := hAb.inv
  have hIr := hAb.1.1
  have hag := hAb.1.2
  obtain ⟨h12, h13⟩ := ab_12 hAb
  have h8 : M 8 = P 8 8 := ab_st hAb (by decide) (by decide)
  have hs12 := inv_S12 hIr
  have h50 := hAb.2.1.1
  have hsv : 0 ≤ P 50 1 ∧ P 50 1 ≤ 4 := ⟨by omega, by omega⟩
  have hl0 := hAb.2.2.2.2.1
  have hl1 := hAb.2.2.2.2.2
  have h10 := hAb.2.2.1.1
  have h107 := hAb.2.2.2.1
  have hno : ¬ (0 ≤ t ∧ t < P 0 0) := by omega
  refine kMW_start (cc := cL_removeTrail) (maxL := 3) (ret := (some .int)) (by decide) rfl (Nat.le_of_ble_eq_true rfl) ?_
  intro p e s m below meth c hx hb hr hlocks hml hts hown htab hA hG hP hD hS ls hl
  have hK := hG.1.1.1
  have hl : lv_has ls 3 [(0, .ref (a 100)), (1, .int (iI t))] := hl
  have hbody : ∀ (H : Heap) (locs : List Loc) (hP : va_P D vwCl (ow cy a P) H) (hD : va_D (va_A (ow cy a P) sz) (ow cy a P)) (hS : va_S (va_A (ow cy a P) sz) s.heap H locs) (ls : Array Slot) (hl : lv_has ls 3 [(0, .ref (a 100)), (1, .int (iI t))]), W p l e { frames := 8, cells := 1, slots := 6, locals := 139 } s m ([.ref (a 100), .int (iI t)] : List Value).toArray below meth c H locs 0 0 (MQ below (kQi D (ow cy a P) sz (fun w9 : (Nat → Nat) × (Nat → Int → Int) => ow cy w9.1 w9.2) (fun r w9 => w9.1 100 = a 100 ∧ ∃ M' n' K', Ab w9.2 M' n' K' ∧ (fun r M' n' K' => (-9030000) = r ∧ M = M' ∧ n = n' ∧ (K) = K') r M' n' K')) ([.ref (a 100), .int (iI t)] : List Value).toArray s 1 6 (va_A (ow cy a P) sz)) (F0 m 0 ls []) := by
    intro H locs hP hD hS ls hl
    refine lv_aload_n hx hb dL_removeTrail_0 rfl (lv_at hl 0 rfl) ?_
    refine lv_iload_n hx hb dL_removeTrail_1 rfl (lv_at hl 1 rfl) ?_
    refine k_thV (As := [.int (iI t)]) (rest := []) ⟨hx, hb, hml, hown, hts⟩ (c_X6_removeTrail_t1 l hl9 D cy a P t hI hrt hno) gL_removeTrail_X6_removeTrail rfl ⟨rfl, rfl⟩ 1 rfl (by decide +kernel) ⟨Nat.le_of_ble_eq_true rfl, Nat.le_of_ble_eq_true rfl⟩ (GX_ok D cy) ((GX_ok D cy).2.2.2 _ _ _ _ (fun _ h => h.elim) ((GX_ok D cy).1 _ _ _ _ hS.2.1 hG)) (hP.sub (ws' := obplW cy a P) [0, 39, 40, 41, 42, 43, 44, 45, 46, 47] rfl) (va_recv hK hP (ci := 5) (q0 := 0) rfl rfl) hl.1 rfl (Nat.le_of_ble_eq_true rfl) ⟨Nat.le_of_ble_eq_true rfl, Nat.le_of_ble_eq_true rfl⟩ dL_removeTrail_2 (fun ce q9 H1 z1 o1 e1 v1 f1 => ?_)
    refine vx_catch (E := exN 0) (name := exN 0) hown (tableOf []) ⟨0, 5, 6, 22⟩ (tableOf []) (by rw [htab]; rfl) (fun z h => by cases h) (by decide) (by decide) (hts (.classLink RL 22 (exN 0)) (by decide +kernel)) (va_Nw.use rfl (hG.2.1 0 (by decide)).2.1) e1 v1 f1 ?_
    have hP1 := P_grow hP o1
    have hS1 := S_grow hS z1 o1
    refine lv_astore_n (lv' := [(2, .ref q9), (0, .ref (a 100)), (1, .int (iI t))]) hx hb dL_removeTrail_6 rfl hl (by decide) rfl (fun ls hl => ?_)
    refine k_ldc (z := (-9030000)) hx hb hown (hts (.constant RL 24 (-9030000)) (by decide +kernel)) (by decide +kernel) dL_removeTrail_7 ?_
    exact W.iret (v := iI (-9030000)) hx hb hr (fun t9 ht _ => ⟨⟨iI (-9030000), (a, P), rfl, ⟨(-9030000), rfl, rfl, M, n, K, hAb, rfl, rfl, rfl, rfl⟩, by rw [ht]; exact hP1, hD⟩, hS1.F ht⟩) hS1.2.2 dL_removeTrail_9 hlocks
  exact hbody s.heap [] hP hD hS ls hl
set_option maxHeartbeats 4000000 in
set_option maxRecDepth 100000 in
theorem k_addPoint (l : Launch) (D : va_G) (cy : Nat → ClassId) (o : Nat) (M : Int → Int) (n : Int) (K : Nat → Int → Int) (t f x y : Int) (h0 : 0 ≤ t) (h1 : t < M 12) (hpk : pointOK f x y) (h3 : pts M t < 12) (hnf : ¬ hasF M t f) : CKs l D cy yL_addPoint wsL_addPoint { frames := 6, cells := 0, slots := 0, locals := 137 } o [.int (iI t), .int (iI f), .int (iI x), .int (iI y)] M n K (fun r M' n' K' => posF M t f = r ∧ tAP M t f x y = M' ∧ kpN n = n' ∧ (csF M K) = K') 0 0 := by
  intro a P sz ha hAb
  subst ha
  have hI := hAb.inv
  have hIr := hAb.1.1
  have hag := hAb.1.2
  obtain ⟨h12, h13⟩ := ab_12 hAb
  have h8 : M 8 = P 8 8 := ab_st hAb (by decide) (by decide)
  have hs12 := inv_S12 hIr
  have h50 := hAb.2.1.1
  have hsv : 0 ≤ P 50 1 ∧ P 50 1 ≤ 4 := ⟨by omega, by omega⟩
  have hl0 := hAb.2.2.2.2.1
  have hl1 := hAb.2.2.2.2.2
  have h10 := hAb.2.2.1.1
  have h107 := hAb.2.2.2.1
  have g1 : t < P 0 0 := by omega
  have hpt := ab_pt hAb h0 g1
  have hq := hpk
  unfold pointOK at hq
  have hrf : -2147483648 ≤ f ∧ f ≤ 2147483647 := by omega
  have hrx : -2147483648 ≤ x ∧ x ≤ 2147483647 := by omega
  have hry : -2147483648 ≤ y ∧ y ≤ 2147483647 := by omega
  have hp3 : P 1 t < 12 := by omega
  have hnf9 : ¬ hasF (mO P) t f := fun h => hnf ((ab_has hAb h0 g1 f).mpr h)
  have hp0 := inv_pts hIr h0 h1
  refine kMW_start (cc := cL_addPoint) (maxL := 6) (ret := (some .int)) (by decide) rfl (Nat.le_of_ble_eq_true rfl) ?_
  intro p e s m below meth c hx hb hr hlocks hml hts hown htab hA hG hP hD hS ls hl
  have hK := hG.1.1.1
  have hl : lv_has ls 6 [(0, .ref (a 100)), (1, .int (iI t)), (2, .int (iI f)), (3, .int (iI x)), (4, .int (iI y))] := hl
  have hbody : ∀ (H : Heap) (locs : List Loc) (hP : va_P D vwCl (ow cy a P) H) (hD : va_D (va_A (ow cy a P) sz) (ow cy a P)) (hS : va_S (va_A (ow cy a P) sz) s.heap H locs) (ls : Array Slot) (hl : lv_has ls 6 [(0, .ref (a 100)), (1, .int (iI t)), (2, .int (iI f)), (3, .int (iI x)), (4, .int (iI y))]), W p l e { frames := 6, cells := 0, slots := 0, locals := 137 } s m ([.ref (a 100), .int (iI t), .int (iI f), .int (iI x), .int (iI y)] : List Value).toArray below meth c H locs 0 0 (MQ below (kQi D (ow cy a P) sz (fun w9 : (Nat → Nat) × (Nat → Int → Int) => ow cy w9.1 w9.2) (fun r w9 => w9.1 100 = a 100 ∧ ∃ M' n' K', Ab w9.2 M' n' K' ∧ (fun r M' n' K' => posF M t f = r ∧ tAP M t f x y = M' ∧ kpN n = n' ∧ (csF M K) = K') r M' n' K')) ([.ref (a 100), .int (iI t), .int (iI f), .int (iI x), .int (iI y)] : List Value).toArray s 0 0 (va_A (ow cy a P) sz)) (F0 m 0 ls []) := by
    intro H locs hP hD hS ls hl
    refine lv_aload_n hx hb dL_addPoint_0 rfl (lv_at hl 0 rfl) ?_
    refine lv_iload_n hx hb dL_addPoint_1 rfl (lv_at hl 1 rfl) ?_
    refine lv_iload_n hx hb dL_addPoint_2 rfl (lv_at hl 2 rfl) ?_
    refine lv_iload_n hx hb dL_addPoint_3 rfl (lv_at hl 3 rfl) ?_
    refine lv_iload hx hb dL_addPoint_4 (lv_at hl 4 rfl) ?_
    refine zl_virt (As := [.int (iI t), .int (iI f), .int (iI x), .int (iI y)]) (rest := []) (pb_hs (cy := cy) (a := a) (P := P)) ⟨hx, hb, hml, hown, hts⟩ (c_X6_addPoint l D cy H.size a P t f x y hI hsv h0 g1 hrf hrx hry hpk hp3 hnf9) gL_addPoint_X6_addPoint rfl ⟨rfl, rfl⟩ 4 rfl (by decide +kernel) ⟨Nat.le_of_ble_eq_true rfl, Nat.le_of_ble_eq_true rfl⟩ (GG_ok D cy) hG.1.1 hA hP hD hS (va_recv hK hP (ci := 5) (q0 := 0) rfl rfl) hl.1 rfl (Nat.le_of_ble_eq_true rfl) ⟨Nat.le_of_ble_eq_true rfl, Nat.le_of_ble_eq_true rfl⟩ dL_addPoint_6 (fun r U9 H locs hpost hP hD hS => ?_)
    obtain ⟨hv2, ho⟩ := hpost
    have hv : r = posF M t f := hv2.trans (posA hag h0 h1 hp0.1 f).symm
    have hP : va_P D vwCl (ow cy (pgm a U9.1) (mixB inHs P U9.2)) H := hP
    have hD : va_D (va_A (ow cy a P) sz) (ow cy (pgm a U9.1) (mixB inHs P U9.2)) := hD
    rw [mx_hs ho.2.2.1] at hP hD
    have hAb2 : Ab U9.2 (tAP M t f x y) (kpN n) (csF M K) := ab_op hAb ho (ap_ag hIr hag h0 h1 h3 hnf) (ap_inv hIr h0 h1 h3 hnf hpk)
    exact W.iret (v := iI r) hx hb hr (fun t9 ht _ => ⟨⟨iI r, (pgm a U9.1, U9.2), rfl, ⟨r, rfl, rfl, _, _, _, hAb2, hv.symm, rfl, rfl, rfl⟩, by rw [ht]; exact hP, hD⟩, hS.F ht⟩) hS.2.2 dL_addPoint_9 hlocks
  exact hbody s.heap [] hP hD hS ls hl
set_option maxHeartbeats 4000000 in
set_option maxRecDepth 100000 in
theorem k_addPoint_t1 (l : Launch) (hl9 : l.stackTraces = false) (D : va_G) (cy : Nat → ClassId) (o : Nat) (M : Int → Int) (n : Int) (K : Nat → Int → Int) (t f x y : Int) (hrt : -2147483648 ≤ t ∧ t ≤ 2147483647) (hrf : -2147483648 ≤ f ∧ f ≤ 2147483647) (hrx : -2147483648 ≤ x ∧ x ≤ 2147483647) (hry : -2147483648 ≤ y ∧ y ≤ 2147483647) (c9 : ¬ (0 ≤ t ∧ t < M 12)) : CKs l D cy yL_addPoint wsL_addPoint { frames := 8, cells := 1, slots := 6, locals := 142 } o [.int (iI t), .int (iI f), .int (iI x), .int (iI y)] M n K (fun r M' n' K' => (-9030000) = r ∧ M = M' ∧ n = n' ∧ (K) = K') 1 6 := by
  intro a P sz ha hAb
  subst ha
  have hI := hAb.inv
  have hIr := hAb.1.1
  have hag := hAb.1.2
  obtain ⟨h12, h13⟩ := ab_12 hAb
  have h8 : M 8 = P 8 8 := ab_st hAb (by decide) (by decide)
  have hs12 := inv_S12 hIr
  have h50 := hAb.2.1.1
  have hsv : 0 ≤ P 50 1 ∧ P 50 1 ≤ 4 := ⟨by omega, by omega⟩
  have hl0 := hAb.2.2.2.2.1
  have hl1 := hAb.2.2.2.2.2
  have h10 := hAb.2.2.1.1
  have h107 := hAb.2.2.2.1
  have hno : ¬ (0 ≤ t ∧ t < P 0 0) := by omega
  refine kMW_start (cc := cL_addPoint) (maxL := 6) (ret := (some .int)) (by decide) rfl (Nat.le_of_ble_eq_true rfl) ?_
  intro p e s m below meth c hx hb hr hlocks hml hts hown htab hA hG hP hD hS ls hl
  have hK := hG.1.1.1
  have hl : lv_has ls 6 [(0, .ref (a 100)), (1, .int (iI t)), (2, .int (iI f)), (3, .int (iI x)), (4, .int (iI y))] := hl
  have hbody : ∀ (H : Heap) (locs : List Loc) (hP : va_P D vwCl (ow cy a P) H) (hD : va_D (va_A (ow cy a P) sz) (ow cy a P)) (hS : va_S (va_A (ow cy a P) sz) s.heap H locs) (ls : Array Slot) (hl : lv_has ls 6 [(0, .ref (a 100)), (1, .int (iI t)), (2, .int (iI f)), (3, .int (iI x)), (4, .int (iI y))]), W p l e { frames := 8, cells := 1, slots := 6, locals := 142 } s m ([.ref (a 100), .int (iI t), .int (iI f), .int (iI x), .int (iI y)] : List Value).toArray below meth c H locs 0 0 (MQ below (kQi D (ow cy a P) sz (fun w9 : (Nat → Nat) × (Nat → Int → Int) => ow cy w9.1 w9.2) (fun r w9 => w9.1 100 = a 100 ∧ ∃ M' n' K', Ab w9.2 M' n' K' ∧ (fun r M' n' K' => (-9030000) = r ∧ M = M' ∧ n = n' ∧ (K) = K') r M' n' K')) ([.ref (a 100), .int (iI t), .int (iI f), .int (iI x), .int (iI y)] : List Value).toArray s 1 6 (va_A (ow cy a P) sz)) (F0 m 0 ls []) := by
    intro H locs hP hD hS ls hl
    refine lv_aload_n hx hb dL_addPoint_0 rfl (lv_at hl 0 rfl) ?_
    refine lv_iload_n hx hb dL_addPoint_1 rfl (lv_at hl 1 rfl) ?_
    refine lv_iload_n hx hb dL_addPoint_2 rfl (lv_at hl 2 rfl) ?_
    refine lv_iload_n hx hb dL_addPoint_3 rfl (lv_at hl 3 rfl) ?_
    refine lv_iload hx hb dL_addPoint_4 (lv_at hl 4 rfl) ?_
    refine k_thV (As := [.int (iI t), .int (iI f), .int (iI x), .int (iI y)]) (rest := []) ⟨hx, hb, hml, hown, hts⟩ (c_X6_addPoint_t1 l hl9 D cy a P t f x y hI hrt hrf hrx hry hno) gL_addPoint_X6_addPoint rfl ⟨rfl, rfl⟩ 4 rfl (by decide +kernel) ⟨Nat.le_of_ble_eq_true rfl, Nat.le_of_ble_eq_true rfl⟩ (GX_ok D cy) ((GX_ok D cy).2.2.2 _ _ _ _ (fun _ h => h.elim) ((GX_ok D cy).1 _ _ _ _ hS.2.1 hG)) (hP.sub (ws' := obplW cy a P) [0, 39, 40, 41, 42, 43, 44, 45, 46, 47] rfl) (va_recv hK hP (ci := 5) (q0 := 0) rfl rfl) hl.1 rfl (Nat.le_of_ble_eq_true rfl) ⟨Nat.le_of_ble_eq_true rfl, Nat.le_of_ble_eq_true rfl⟩ dL_addPoint_6 (fun ce q9 H1 z1 o1 e1 v1 f1 => ?_)
    refine vx_catch (E := exN 0) (name := exN 0) hown (tableOf []) ⟨0, 9, 10, 22⟩ (tableOf [(0, 9, 15, 29), (0, 9, 20, 15)]) (by rw [htab]; rfl) (fun z h => by cases h) (by decide) (by decide) (hts (.classLink RL 22 (exN 0)) (by decide +kernel)) (va_Nw.use rfl (hG.2.1 0 (by decide)).2.1) e1 v1 f1 ?_
    have hP1 := P_grow hP o1
    have hS1 := S_grow hS z1 o1
    refine lv_astore (lv' := [(5, .ref q9), (0, .ref (a 100)), (1, .int (iI t)), (2, .int (iI f)), (3, .int (iI x)), (4, .int (iI y))]) hx hb dL_addPoint_10 hl (by decide) rfl (fun ls hl => ?_)
    refine k_ldc (z := (-9030000)) hx hb hown (hts (.constant RL 24 (-9030000)) (by decide +kernel)) (by decide +kernel) dL_addPoint_12 ?_
    exact W.iret (v := iI (-9030000)) hx hb hr (fun t9 ht _ => ⟨⟨iI (-9030000), (a, P), rfl, ⟨(-9030000), rfl, rfl, M, n, K, hAb, rfl, rfl, rfl, rfl⟩, by rw [ht]; exact hP1, hD⟩, hS1.F ht⟩) hS1.2.2 dL_addPoint_14 hlocks
  exact hbody s.heap [] hP hD hS ls hl
set_option maxHeartbeats 4000000 in
set_option maxRecDepth 100000 in
theorem k_addPoint_t3 (l : Launch) (hl9 : l.stackTraces = false) (D : va_G) (cy : Nat → ClassId) (o : Nat) (M : Int → Int) (n : Int) (K : Nat → Int → Int) (t f x y : Int) (h0 : 0 ≤ t) (h1 : t < M 12) (hpk : pointOK f x y) (c9 : pts M t = 12 ∨ hasF M t f) : CKs l D cy yL_addPoint wsL_addPoint { frames := 8, cells := 1, slots := 6, locals := 142 } o [.int (iI t), .int (iI f), .int (iI x), .int (iI y)] M n K (fun r M' n' K' => (-9020000) = r ∧ M = M' ∧ n = n' ∧ (K) = K') 1 6 := by
  intro a P sz ha hAb
  subst ha
  have hI := hAb.inv
  have hIr := hAb.1.1
  have hag := hAb.1.2
  obtain ⟨h12, h13⟩ := ab_12 hAb
  have h8 : M 8 = P 8 8 := ab_st hAb (by decide) (by decide)
  have hs12 := inv_S12 hIr
  have h50 := hAb.2.1.1
  have hsv : 0 ≤ P 50 1 ∧ P 50 1 ≤ 4 := ⟨by omega, by omega⟩
  have hl0 := hAb.2.2.2.2.1
  have hl1 := hAb.2.2.2.2.2
  have h10 := hAb.2.2.1.1
  have h107 := hAb.2.2.2.1
  have g1 : t < P 0 0 := by omega
  have hpt := ab_pt hAb h0 g1
  have hq := hpk
  unfold pointOK at hq
  have hrt : -2147483648 ≤ t ∧ t ≤ 2147483647 := by omega
  have hrf : -2147483648 ≤ f ∧ f ≤ 2147483647 := by omega
  have hrx : -2147483648 ≤ x ∧ x ≤ 2147483647 := by omega
  have hry : -2147483648 ≤ y ∧ y ≤ 2147483647 := by omega
  have hno : P 1 t = 12 ∨ hasF (mO P) t f := c9.elim (fun h => Or.inl (by omega)) (fun h => Or.inr ((ab_has hAb h0 g1 f).mp h))
  refine kMW_start (cc := cL_addPoint) (maxL := 6) (ret := (some .int)) (by decide) rfl (Nat.le_of_ble_eq_true rfl) ?_
  intro p e s m below meth c hx hb hr hlocks hml hts hown htab hA hG hP hD hS ls hl
  have hK := hG.1.1.1
  have hl : lv_has ls 6 [(0, .ref (a 100)), (1, .int (iI t)), (2, .int (iI f)), (3, .int (iI x)), (4, .int (iI y))] := hl
  have hbody : ∀ (H : Heap) (locs : List Loc) (hP : va_P D vwCl (ow cy a P) H) (hD : va_D (va_A (ow cy a P) sz) (ow cy a P)) (hS : va_S (va_A (ow cy a P) sz) s.heap H locs) (ls : Array Slot) (hl : lv_has ls 6 [(0, .ref (a 100)), (1, .int (iI t)), (2, .int (iI f)), (3, .int (iI x)), (4, .int (iI y))]), W p l e { frames := 8, cells := 1, slots := 6, locals := 142 } s m ([.ref (a 100), .int (iI t), .int (iI f), .int (iI x), .int (iI y)] : List Value).toArray below meth c H locs 0 0 (MQ below (kQi D (ow cy a P) sz (fun w9 : (Nat → Nat) × (Nat → Int → Int) => ow cy w9.1 w9.2) (fun r w9 => w9.1 100 = a 100 ∧ ∃ M' n' K', Ab w9.2 M' n' K' ∧ (fun r M' n' K' => (-9020000) = r ∧ M = M' ∧ n = n' ∧ (K) = K') r M' n' K')) ([.ref (a 100), .int (iI t), .int (iI f), .int (iI x), .int (iI y)] : List Value).toArray s 1 6 (va_A (ow cy a P) sz)) (F0 m 0 ls []) := by
    intro H locs hP hD hS ls hl
    refine lv_aload_n hx hb dL_addPoint_0 rfl (lv_at hl 0 rfl) ?_
    refine lv_iload_n hx hb dL_addPoint_1 rfl (lv_at hl 1 rfl) ?_
    refine lv_iload_n hx hb dL_addPoint_2 rfl (lv_at hl 2 rfl) ?_
    refine lv_iload_n hx hb dL_addPoint_3 rfl (lv_at hl 3 rfl) ?_
    refine lv_iload hx hb dL_addPoint_4 (lv_at hl 4 rfl) ?_
    refine k_thV (As := [.int (iI t), .int (iI f), .int (iI x), .int (iI y)]) (rest := []) ⟨hx, hb, hml, hown, hts⟩ (c_X6_addPoint_t3 l hl9 D cy a P t f x y hI h0 g1 hrt hrf hrx hry hpk hno) gL_addPoint_X6_addPoint rfl ⟨rfl, rfl⟩ 4 rfl (by decide +kernel) ⟨Nat.le_of_ble_eq_true rfl, Nat.le_of_ble_eq_true rfl⟩ (GX_ok D cy) ((GX_ok D cy).2.2.2 _ _ _ _ (fun _ h => h.elim) ((GX_ok D cy).1 _ _ _ _ hS.2.1 hG)) (hP.sub (ws' := obplW cy a P) [0, 39, 40, 41, 42, 43, 44, 45, 46, 47] rfl) (va_recv hK hP (ci := 5) (q0 := 0) rfl rfl) hl.1 rfl (Nat.le_of_ble_eq_true rfl) ⟨Nat.le_of_ble_eq_true rfl, Nat.le_of_ble_eq_true rfl⟩ dL_addPoint_6 (fun ce q9 H1 z1 o1 e1 v1 f1 => ?_)
    refine vx_catch (E := exN 2) (name := exN 2) hown (tableOf [(0, 9, 10, 22), (0, 9, 15, 29)]) ⟨0, 9, 20, 15⟩ (tableOf []) (by rw [htab]; rfl) (fun z h => by
        rcases List.mem_cons.mp h with rfl | h
        · exact Or.inr ⟨by decide, exN 0, hts (.classLink RL 22 (exN 0)) (by decide +kernel), (hG.2.1 2 (by decide)).2.2 0 (by decide) (by decide)⟩
        rcases List.mem_cons.mp h with rfl | h
        · exact Or.inr ⟨by decide, exN 1, hts (.classLink RL 29 (exN 1)) (by decide +kernel), (hG.2.1 2 (by decide)).2.2 1 (by decide) (by decide)⟩
        cases h) (by decide) (by decide) (hts (.classLink RL 15 (exN 2)) (by decide +kernel)) (va_Nw.use rfl (hG.2.1 2 (by decide)).2.1) e1 v1 f1 ?_
    have hP1 := P_grow hP o1
    have hS1 := S_grow hS z1 o1
    refine lv_astore (lv' := [(5, .ref q9), (0, .ref (a 100)), (1, .int (iI t)), (2, .int (iI f)), (3, .int (iI x)), (4, .int (iI y))]) hx hb dL_addPoint_20 hl (by decide) rfl (fun ls hl => ?_)
    refine k_ldc (z := (-9020000)) hx hb hown (hts (.constant RL 17 (-9020000)) (by decide +kernel)) (by decide +kernel) dL_addPoint_22 ?_
    exact W.iret (v := iI (-9020000)) hx hb hr (fun t9 ht _ => ⟨⟨iI (-9020000), (a, P), rfl, ⟨(-9020000), rfl, rfl, M, n, K, hAb, rfl, rfl, rfl, rfl⟩, by rw [ht]; exact hP1, hD⟩, hS1.F ht⟩) hS1.2.2 dL_addPoint_24 hlocks
  exact hbody s.heap [] hP hD hS ls hl
set_option maxHeartbeats 4000000 in
set_option maxRecDepth 100000 in
theorem k_removePoint (l : Launch) (D : va_G) (cy : Nat → ClassId) (o : Nat) (M : Int → Int) (n : Int) (K : Nat → Int → Int) (t q : Int) (h0 : 0 ≤ t) (h1 : t < M 12) (h2 : 0 ≤ q) (h3 : q < pts M t) : CKs l D cy yL_removePoint wsL_removePoint { frames := 6, cells := 0, slots := 0, locals := 135 } o [.int (iI t), .int (iI q)] M n K (fun r M' n' K' => pts M t - 1 = r ∧ tRP M t q = M' ∧ kpN n = n' ∧ (csF M K) = K') 0 0 := by
  intro a P sz ha hAb
  subst ha
  have hI := hAb.inv
  have hIr := hAb.1.1
  have hag := hAb.1.2
  obtain ⟨h12, h13⟩ := ab_12 hAb
  have h8 : M 8 = P 8 8 := ab_st hAb (by decide) (by decide)
  have hs12 := inv_S12 hIr
  have h50 := hAb.2.1.1
  have hsv : 0 ≤ P 50 1 ∧ P 50 1 ≤ 4 := ⟨by omega, by omega⟩
  have hl0 := hAb.2.2.2.2.1
  have hl1 := hAb.2.2.2.2.2
  have h10 := hAb.2.2.1.1
  have h107 := hAb.2.2.2.1
  have g1 : t < P 0 0 := by omega
  have hpt := ab_pt hAb h0 g1
  have g3 : q < P 1 t := by omega
  refine kMW_start (cc := cL_removePoint) (maxL := 4) (ret := (some .int)) (by decide) rfl (Nat.le_of_ble_eq_true rfl) ?_
  intro p e s m below meth c hx hb hr hlocks hml hts hown htab hA hG hP hD hS ls hl
  have hK := hG.1.1.1
  have hl : lv_has ls 4 [(0, .ref (a 100)), (1, .int (iI t)), (2, .int (iI q))] := hl
  have hbody : ∀ (H : Heap) (locs : List Loc) (hP : va_P D vwCl (ow cy a P) H) (hD : va_D (va_A (ow cy a P) sz) (ow cy a P)) (hS : va_S (va_A (ow cy a P) sz) s.heap H locs) (ls : Array Slot) (hl : lv_has ls 4 [(0, .ref (a 100)), (1, .int (iI t)), (2, .int (iI q))]), W p l e { frames := 6, cells := 0, slots := 0, locals := 135 } s m ([.ref (a 100), .int (iI t), .int (iI q)] : List Value).toArray below meth c H locs 0 0 (MQ below (kQi D (ow cy a P) sz (fun w9 : (Nat → Nat) × (Nat → Int → Int) => ow cy w9.1 w9.2) (fun r w9 => w9.1 100 = a 100 ∧ ∃ M' n' K', Ab w9.2 M' n' K' ∧ (fun r M' n' K' => pts M t - 1 = r ∧ tRP M t q = M' ∧ kpN n = n' ∧ (csF M K) = K') r M' n' K')) ([.ref (a 100), .int (iI t), .int (iI q)] : List Value).toArray s 0 0 (va_A (ow cy a P) sz)) (F0 m 0 ls []) := by
    intro H locs hP hD hS ls hl
    refine lv_aload_n hx hb dL_removePoint_0 rfl (lv_at hl 0 rfl) ?_
    refine lv_iload_n hx hb dL_removePoint_1 rfl (lv_at hl 1 rfl) ?_
    refine lv_iload_n hx hb dL_removePoint_2 rfl (lv_at hl 2 rfl) ?_
    refine zl_virt (As := [.int (iI t), .int (iI q)]) (rest := []) (pb_hs (cy := cy) (a := a) (P := P)) ⟨hx, hb, hml, hown, hts⟩ (c_X6_removePoint l D cy H.size a P t q hI hsv h0 g1 h2 g3) gL_removePoint_X6_removePoint rfl ⟨rfl, rfl⟩ 2 rfl (by decide +kernel) ⟨Nat.le_of_ble_eq_true rfl, Nat.le_of_ble_eq_true rfl⟩ (GG_ok D cy) hG.1.1 hA hP hD hS (va_recv hK hP (ci := 5) (q0 := 0) rfl rfl) hl.1 rfl (Nat.le_of_ble_eq_true rfl) ⟨Nat.le_of_ble_eq_true rfl, Nat.le_of_ble_eq_true rfl⟩ dL_removePoint_3 (fun r U9 H locs hpost hP hD hS => ?_)
    obtain ⟨hv2, ho⟩ := hpost
    have hv : r = pts M t - 1 := by omega
    have hP : va_P D vwCl (ow cy (pgm a U9.1) (mixB inHs P U9.2)) H := hP
    have hD : va_D (va_A (ow cy a P) sz) (ow cy (pgm a U9.1) (mixB inHs P U9.2)) := hD
    rw [mx_hs ho.2.2.1] at hP hD
    have hAb2 : Ab U9.2 (tRP M t q) (kpN n) (csF M K) := ab_op hAb ho (rp_ag hIr hag h0 h1 h2 h3) (rp_inv hIr h0 h1 h2 h3)
    exact W.iret (v := iI r) hx hb hr (fun t9 ht _ => ⟨⟨iI r, (pgm a U9.1, U9.2), rfl, ⟨r, rfl, rfl, _, _, _, hAb2, hv.symm, rfl, rfl, rfl⟩, by rw [ht]; exact hP, hD⟩, hS.F ht⟩) hS.2.2 dL_removePoint_6 hlocks
  exact hbody s.heap [] hP hD hS ls hl
set_option maxHeartbeats 4000000 in
set_option maxRecDepth 100000 in
theorem k_removePoint_t (l : Launch) (hl9 : l.stackTraces = false) (D : va_G) (cy : Nat → ClassId) (o : Nat) (M : Int → Int) (n : Int) (K : Nat → Int → Int) (t q : Int) (hrt : -2147483648 ≤ t ∧ t ≤ 2147483647) (hrq : -2147483648 ≤ q ∧ q ≤ 2147483647) (c9 : ¬ ((0 ≤ t ∧ t < M 12) ∧ 0 ≤ q ∧ q < pts M t)) : CKs l D cy yL_removePoint wsL_removePoint { frames := 8, cells := 1, slots := 6, locals := 140 } o [.int (iI t), .int (iI q)] M n K (fun r M' n' K' => (-9030000) = r ∧ M = M' ∧ n = n' ∧ (K) = K') 1 6 := by
  intro a P sz ha hAb
  subst ha
  have hI := hAb.inv
  have hIr := hAb.1.1
  have hag := hAb.1.2
  obtain ⟨h12, h13⟩ := ab_12 hAb
  have h8 : M 8 = P 8 8 := ab_st hAb (by decide) (by decide)
  have hs12 := inv_S12 hIr
  have h50 := hAb.2.1.1
  have hsv : 0 ≤ P 50 1 ∧ P 50 1 ≤ 4 := ⟨by omega, by omega⟩
  have hl0 := hAb.2.2.2.2.1
  have hl1 := hAb.2.2.2.2.2
  have h10 := hAb.2.2.1.1
  have h107 := hAb.2.2.2.1
  have hno : ¬ ((0 ≤ t ∧ t < P 0 0) ∧ 0 ≤ q ∧ q < P 1 t) := fun z => c9 ⟨by omega, z.2.1, by have := ab_pt hAb z.1.1 z.1.2; omega⟩
  refine kMW_start (cc := cL_removePoint) (maxL := 4) (ret := (some .int)) (by decide) rfl (Nat.le_of_ble_eq_true rfl) ?_
  intro p e s m below meth c hx hb hr hlocks hml hts hown htab hA hG hP hD hS ls hl
  have hK := hG.1.1.1
  have hl : lv_has ls 4 [(0, .ref (a 100)), (1, .int (iI t)), (2, .int (iI q))] := hl
  have hbody : ∀ (H : Heap) (locs : List Loc) (hP : va_P D vwCl (ow cy a P) H) (hD : va_D (va_A (ow cy a P) sz) (ow cy a P)) (hS : va_S (va_A (ow cy a P) sz) s.heap H locs) (ls : Array Slot) (hl : lv_has ls 4 [(0, .ref (a 100)), (1, .int (iI t)), (2, .int (iI q))]), W p l e { frames := 8, cells := 1, slots := 6, locals := 140 } s m ([.ref (a 100), .int (iI t), .int (iI q)] : List Value).toArray below meth c H locs 0 0 (MQ below (kQi D (ow cy a P) sz (fun w9 : (Nat → Nat) × (Nat → Int → Int) => ow cy w9.1 w9.2) (fun r w9 => w9.1 100 = a 100 ∧ ∃ M' n' K', Ab w9.2 M' n' K' ∧ (fun r M' n' K' => (-9030000) = r ∧ M = M' ∧ n = n' ∧ (K) = K') r M' n' K')) ([.ref (a 100), .int (iI t), .int (iI q)] : List Value).toArray s 1 6 (va_A (ow cy a P) sz)) (F0 m 0 ls []) := by
    intro H locs hP hD hS ls hl
    refine lv_aload_n hx hb dL_removePoint_0 rfl (lv_at hl 0 rfl) ?_
    refine lv_iload_n hx hb dL_removePoint_1 rfl (lv_at hl 1 rfl) ?_
    refine lv_iload_n hx hb dL_removePoint_2 rfl (lv_at hl 2 rfl) ?_
    refine k_thV (As := [.int (iI t), .int (iI q)]) (rest := []) ⟨hx, hb, hml, hown, hts⟩ (c_X6_removePoint_t1 l hl9 D cy a P t q hI hrt hrq hno) gL_removePoint_X6_removePoint rfl ⟨rfl, rfl⟩ 2 rfl (by decide +kernel) ⟨Nat.le_of_ble_eq_true rfl, Nat.le_of_ble_eq_true rfl⟩ (GX_ok D cy) ((GX_ok D cy).2.2.2 _ _ _ _ (fun _ h => h.elim) ((GX_ok D cy).1 _ _ _ _ hS.2.1 hG)) (hP.sub (ws' := obplW cy a P) [0, 39, 40, 41, 42, 43, 44, 45, 46, 47] rfl) (va_recv hK hP (ci := 5) (q0 := 0) rfl rfl) hl.1 rfl (Nat.le_of_ble_eq_true rfl) ⟨Nat.le_of_ble_eq_true rfl, Nat.le_of_ble_eq_true rfl⟩ dL_removePoint_3 (fun ce q9 H1 z1 o1 e1 v1 f1 => ?_)
    refine vx_catch (E := exN 0) (name := exN 0) hown (tableOf []) ⟨0, 6, 7, 22⟩ (tableOf []) (by rw [htab]; rfl) (fun z h => by cases h) (by decide) (by decide) (hts (.classLink RL 22 (exN 0)) (by decide +kernel)) (va_Nw.use rfl (hG.2.1 0 (by decide)).2.1) e1 v1 f1 ?_
    have hP1 := P_grow hP o1
    have hS1 := S_grow hS z1 o1
    refine lv_astore_n (lv' := [(3, .ref q9), (0, .ref (a 100)), (1, .int (iI t)), (2, .int (iI q))]) hx hb dL_removePoint_7 rfl hl (by decide) rfl (fun ls hl => ?_)
    refine k_ldc (z := (-9030000)) hx hb hown (hts (.constant RL 24 (-9030000)) (by decide +kernel)) (by decide +kernel) dL_removePoint_8 ?_
    exact W.iret (v := iI (-9030000)) hx hb hr (fun t9 ht _ => ⟨⟨iI (-9030000), (a, P), rfl, ⟨(-9030000), rfl, rfl, M, n, K, hAb, rfl, rfl, rfl, rfl⟩, by rw [ht]; exact hP1, hD⟩, hS1.F ht⟩) hS1.2.2 dL_removePoint_10 hlocks
  exact hbody s.heap [] hP hD hS ls hl
set_option maxHeartbeats 4000000 in
set_option maxRecDepth 100000 in
theorem k_set (l : Launch) (D : va_G) (cy : Nat → ClassId) (o : Nat) (M : Int → Int) (n : Int) (K : Nat → Int → Int) (w v : Int) (hrw : -2147483648 ≤ w ∧ w ≤ 2147483647) (hrv : -2147483648 ≤ v ∧ v ≤ 2147483647) (hok : setOK w v) : CKs l D cy yL_set wsL_set { frames := 6, cells := 0, slots := 0, locals := 135 } o [.int (iI w), .int (iI v)] M n K (fun r M' n' K' => M w = r ∧ ups M w v = M' ∧ kpN n = n' ∧ (csF M K) = K') 0 0 := by
  intro a P sz ha hAb
  subst ha
  have hI := hAb.inv
  have hIr := hAb.1.1
  have hag := hAb.1.2
  obtain ⟨h12, h13⟩ := ab_12 hAb
  have h8 : M 8 = P 8 8 := ab_st hAb (by decide) (by decide)
  have hs12 := inv_S12 hIr
  have h50 := hAb.2.1.1
  have hsv : 0 ≤ P 50 1 ∧ P 50 1 ≤ 4 := ⟨by omega, by omega⟩
  have hl0 := hAb.2.2.2.2.1
  have hl1 := hAb.2.2.2.2.2
  have h10 := hAb.2.2.1.1
  have h107 := hAb.2.2.2.1
  have hw9 := hok.1
  refine kMW_start (cc := cL_set) (maxL := 4) (ret := (some .int)) (by decide) rfl (Nat.le_of_ble_eq_true rfl) ?_
  intro p e s m below meth c hx hb hr hlocks hml hts hown htab hA hG hP hD hS ls hl
  have hK := hG.1.1.1
  have hl : lv_has ls 4 [(0, .ref (a 100)), (1, .int (iI w)), (2, .int (iI v))] := hl
  have hbody : ∀ (H : Heap) (locs : List Loc) (hP : va_P D vwCl (ow cy a P) H) (hD : va_D (va_A (ow cy a P) sz) (ow cy a P)) (hS : va_S (va_A (ow cy a P) sz) s.heap H locs) (ls : Array Slot) (hl : lv_has ls 4 [(0, .ref (a 100)), (1, .int (iI w)), (2, .int (iI v))]), W p l e { frames := 6, cells := 0, slots := 0, locals := 135 } s m ([.ref (a 100), .int (iI w), .int (iI v)] : List Value).toArray below meth c H locs 0 0 (MQ below (kQi D (ow cy a P) sz (fun w9 : (Nat → Nat) × (Nat → Int → Int) => ow cy w9.1 w9.2) (fun r w9 => w9.1 100 = a 100 ∧ ∃ M' n' K', Ab w9.2 M' n' K' ∧ (fun r M' n' K' => M w = r ∧ ups M w v = M' ∧ kpN n = n' ∧ (csF M K) = K') r M' n' K')) ([.ref (a 100), .int (iI w), .int (iI v)] : List Value).toArray s 0 0 (va_A (ow cy a P) sz)) (F0 m 0 ls []) := by
    intro H locs hP hD hS ls hl
    refine lv_aload_n hx hb dL_set_0 rfl (lv_at hl 0 rfl) ?_
    refine lv_iload_n hx hb dL_set_1 rfl (lv_at hl 1 rfl) ?_
    refine lv_iload_n hx hb dL_set_2 rfl (lv_at hl 2 rfl) ?_
    refine zl_virt (As := [.int (iI w), .int (iI v)]) (rest := []) (pb_hs (cy := cy) (a := a) (P := P)) ⟨hx, hb, hml, hown, hts⟩ (c_X6_set l D cy H.size a P w v hI hsv hrw hrv hok) gL_set_X6_set rfl ⟨rfl, rfl⟩ 2 rfl (by decide +kernel) ⟨Nat.le_of_ble_eq_true rfl, Nat.le_of_ble_eq_true rfl⟩ (GG_ok D cy) hG.1.1 hA hP hD hS (va_recv hK hP (ci := 5) (q0 := 0) rfl rfl) hl.1 rfl (Nat.le_of_ble_eq_true rfl) ⟨Nat.le_of_ble_eq_true rfl, Nat.le_of_ble_eq_true rfl⟩ dL_set_3 (fun r U9 H locs hpost hP hD hS => ?_)
    obtain ⟨hv2, ho⟩ := hpost
    have hv : r = M w := hv2.trans (ab_st hAb hok.1.1 (by omega)).symm
    have hP : va_P D vwCl (ow cy (pgm a U9.1) (mixB inHs P U9.2)) H := hP
    have hD : va_D (va_A (ow cy a P) sz) (ow cy (pgm a U9.1) (mixB inHs P U9.2)) := hD
    rw [mx_hs ho.2.2.1] at hP hD
    have hAb2 : Ab U9.2 (ups M w v) (kpN n) (csF M K) := ab_op hAb ho (by rw [mO_ups P v (show w < 10 by omega)]; exact st_ag v hIr hag (by omega)) (st_inv hIr hok)
    exact W.iret (v := iI r) hx hb hr (fun t9 ht _ => ⟨⟨iI r, (pgm a U9.1, U9.2), rfl, ⟨r, rfl, rfl, _, _, _, hAb2, hv.symm, rfl, rfl, rfl⟩, by rw [ht]; exact hP, hD⟩, hS.F ht⟩) hS.2.2 dL_set_6 hlocks
  exact hbody s.heap [] hP hD hS ls hl
set_option maxHeartbeats 4000000 in
set_option maxRecDepth 100000 in
theorem k_set_t (l : Launch) (hl9 : l.stackTraces = false) (D : va_G) (cy : Nat → ClassId) (o : Nat) (M : Int → Int) (n : Int) (K : Nat → Int → Int) (w v : Int) (hrw : -2147483648 ≤ w ∧ w ≤ 2147483647) (hrv : -2147483648 ≤ v ∧ v ≤ 2147483647) (hno : ¬ setOK w v) : CKs l D cy yL_set wsL_set { frames := 8, cells := 1, slots := 6, locals := 140 } o [.int (iI w), .int (iI v)] M n K (fun r M' n' K' => (-9010000) = r ∧ M = M' ∧ n = n' ∧ (K) = K') 1 6 := by
  intro a P sz ha hAb
  subst ha
  have hI := hAb.inv
  have hIr := hAb.1.1
  have hag := hAb.1.2
  obtain ⟨h12, h13⟩ := ab_12 hAb
  have h8 : M 8 = P 8 8 := ab_st hAb (by decide) (by decide)
  have hs12 := inv_S12 hIr
  have h50 := hAb.2.1.1
  have hsv : 0 ≤ P 50 1 ∧ P 50 1 ≤ 4 := ⟨by omega, by omega⟩
  have hl0 := hAb.2.2.2.2.1
  have hl1 := hAb.2.2.2.2.2
  have h10 := hAb.2.2.1.1
  have h107 := hAb.2.2.2.1
  refine kMW_start (cc := cL_set) (maxL := 4) (ret := (some .int)) (by decide) rfl (Nat.le_of_ble_eq_true rfl) ?_
  intro p e s m below meth c hx hb hr hlocks hml hts hown htab hA hG hP hD hS ls hl
  have hK := hG.1.1.1
  have hl : lv_has ls 4 [(0, .ref (a 100)), (1, .int (iI w)), (2, .int (iI v))] := hl
  have hbody : ∀ (H : Heap) (locs : List Loc) (hP : va_P D vwCl (ow cy a P) H) (hD : va_D (va_A (ow cy a P) sz) (ow cy a P)) (hS : va_S (va_A (ow cy a P) sz) s.heap H locs) (ls : Array Slot) (hl : lv_has ls 4 [(0, .ref (a 100)), (1, .int (iI w)), (2, .int (iI v))]), W p l e { frames := 8, cells := 1, slots := 6, locals := 140 } s m ([.ref (a 100), .int (iI w), .int (iI v)] : List Value).toArray below meth c H locs 0 0 (MQ below (kQi D (ow cy a P) sz (fun w9 : (Nat → Nat) × (Nat → Int → Int) => ow cy w9.1 w9.2) (fun r w9 => w9.1 100 = a 100 ∧ ∃ M' n' K', Ab w9.2 M' n' K' ∧ (fun r M' n' K' => (-9010000) = r ∧ M = M' ∧ n = n' ∧ (K) = K') r M' n' K')) ([.ref (a 100), .int (iI w), .int (iI v)] : List Value).toArray s 1 6 (va_A (ow cy a P) sz)) (F0 m 0 ls []) := by
    intro H locs hP hD hS ls hl
    refine lv_aload_n hx hb dL_set_0 rfl (lv_at hl 0 rfl) ?_
    refine lv_iload_n hx hb dL_set_1 rfl (lv_at hl 1 rfl) ?_
    refine lv_iload_n hx hb dL_set_2 rfl (lv_at hl 2 rfl) ?_
    refine k_thV (As := [.int (iI w), .int (iI v)]) (rest := []) ⟨hx, hb, hml, hown, hts⟩ (c_X6_set_t2 l hl9 D cy a P w v hrw hrv hno) gL_set_X6_set rfl ⟨rfl, rfl⟩ 2 rfl (by decide +kernel) ⟨Nat.le_of_ble_eq_true rfl, Nat.le_of_ble_eq_true rfl⟩ (GX_ok D cy) ((GX_ok D cy).2.2.2 _ _ _ _ (fun _ h => h.elim) ((GX_ok D cy).1 _ _ _ _ hS.2.1 hG)) (hP.sub (ws' := obplW cy a P) [0, 39, 40, 41, 42, 43, 44, 45, 46, 47] rfl) (va_recv hK hP (ci := 5) (q0 := 0) rfl rfl) hl.1 rfl (Nat.le_of_ble_eq_true rfl) ⟨Nat.le_of_ble_eq_true rfl, Nat.le_of_ble_eq_true rfl⟩ dL_set_3 (fun ce q9 H1 z1 o1 e1 v1 f1 => ?_)
    refine vx_catch (E := exN 1) (name := exN 1) hown (tableOf []) ⟨0, 6, 7, 29⟩ (tableOf []) (by rw [htab]; rfl) (fun z h => by cases h) (by decide) (by decide) (hts (.classLink RL 29 (exN 1)) (by decide +kernel)) (va_Nw.use rfl (hG.2.1 1 (by decide)).2.1) e1 v1 f1 ?_
    have hP1 := P_grow hP o1
    have hS1 := S_grow hS z1 o1
    refine lv_astore_n (lv' := [(3, .ref q9), (0, .ref (a 100)), (1, .int (iI w)), (2, .int (iI v))]) hx hb dL_set_7 rfl hl (by decide) rfl (fun ls hl => ?_)
    refine k_ldc (z := (-9010000)) hx hb hown (hts (.constant RL 31 (-9010000)) (by decide +kernel)) (by decide +kernel) dL_set_8 ?_
    exact W.iret (v := iI (-9010000)) hx hb hr (fun t9 ht _ => ⟨⟨iI (-9010000), (a, P), rfl, ⟨(-9010000), rfl, rfl, M, n, K, hAb, rfl, rfl, rfl, rfl⟩, by rw [ht]; exact hP1, hD⟩, hS1.F ht⟩) hS1.2.2 dL_set_10 hlocks
  exact hbody s.heap [] hP hD hS ls hl
set_option maxHeartbeats 4000000 in
set_option maxRecDepth 100000 in
theorem k_setPole (l : Launch) (D : va_G) (cy : Nat → ClassId) (o : Nat) (M : Int → Int) (n : Int) (K : Nat → Int → Int) (x y : Int) (hpo : poleOK x y) : CKs l D cy yL_setPole wsL_setPole { frames := 6, cells := 0, slots := 0, locals := 154 } o [.int (iI x), .int (iI y)] M n K (fun r M' n' K' => pcost (tPo M x y) = r ∧ tPo M x y = M' ∧ kpN n = n' ∧ (csF M K) = K') 0 0 := by
  intro a P sz ha hAb
  subst ha
  have hI := hAb.inv
  have hIr := hAb.1.1
  have hag := hAb.1.2
  obtain ⟨h12, h13⟩ := ab_12 hAb
  have h8 : M 8 = P 8 8 := ab_st hAb (by decide) (by decide)
  have hs12 := inv_S12 hIr
  have h50 := hAb.2.1.1
  have hsv : 0 ≤ P 50 1 ∧ P 50 1 ≤ 4 := ⟨by omega, by omega⟩
  have hl0 := hAb.2.2.2.2.1
  have hl1 := hAb.2.2.2.2.2
  have h10 := hAb.2.2.1.1
  have h107 := hAb.2.2.2.1
  have hq := hpo
  unfold poleOK at hq
  have hrx : -2147483648 ≤ x ∧ x ≤ 2147483647 := by omega
  have hry : -2147483648 ≤ y ∧ y ≤ 2147483647 := by omega
  refine kMW_start (cc := cL_setPole) (maxL := 4) (ret := (some .int)) (by decide) rfl (Nat.le_of_ble_eq_true rfl) ?_
  intro p e s m below meth c hx hb hr hlocks hml hts hown htab hA hG hP hD hS ls hl
  have hK := hG.1.1.1
  have hl : lv_has ls 4 [(0, .ref (a 100)), (1, .int (iI x)), (2, .int (iI y))] := hl
  have hbody : ∀ (H : Heap) (locs : List Loc) (hP : va_P D vwCl (ow cy a P) H) (hD : va_D (va_A (ow cy a P) sz) (ow cy a P)) (hS : va_S (va_A (ow cy a P) sz) s.heap H locs) (ls : Array Slot) (hl : lv_has ls 4 [(0, .ref (a 100)), (1, .int (iI x)), (2, .int (iI y))]), W p l e { frames := 6, cells := 0, slots := 0, locals := 154 } s m ([.ref (a 100), .int (iI x), .int (iI y)] : List Value).toArray below meth c H locs 0 0 (MQ below (kQi D (ow cy a P) sz (fun w9 : (Nat → Nat) × (Nat → Int → Int) => ow cy w9.1 w9.2) (fun r w9 => w9.1 100 = a 100 ∧ ∃ M' n' K', Ab w9.2 M' n' K' ∧ (fun r M' n' K' => pcost (tPo M x y) = r ∧ tPo M x y = M' ∧ kpN n = n' ∧ (csF M K) = K') r M' n' K')) ([.ref (a 100), .int (iI x), .int (iI y)] : List Value).toArray s 0 0 (va_A (ow cy a P) sz)) (F0 m 0 ls []) := by
    intro H locs hP hD hS ls hl
    refine lv_aload_n hx hb dL_setPole_0 rfl (lv_at hl 0 rfl) ?_
    refine lv_iload_n hx hb dL_setPole_1 rfl (lv_at hl 1 rfl) ?_
    refine lv_iload_n hx hb dL_setPole_2 rfl (lv_at hl 2 rfl) ?_
    refine zl_virt (As := [.int (iI x), .int (iI y)]) (rest := []) (pb_hs (cy := cy) (a := a) (P := P)) ⟨hx, hb, hml, hown, hts⟩ (c_X6_setPole l D cy H.size a P x y hI hsv hrx hry hpo) gL_setPole_X6_setPole rfl ⟨rfl, rfl⟩ 2 rfl (by decide +kernel) ⟨Nat.le_of_ble_eq_true rfl, Nat.le_of_ble_eq_true rfl⟩ (GG_ok D cy) hG.1.1 hA hP hD hS (va_recv hK hP (ci := 5) (q0 := 0) rfl rfl) hl.1 rfl (Nat.le_of_ble_eq_true rfl) ⟨Nat.le_of_ble_eq_true rfl, Nat.le_of_ble_eq_true rfl⟩ dL_setPole_3 (fun r U9 H locs hpost hP hD hS => ?_)
    obtain ⟨hv2, ho⟩ := hpost
    have hv : r = pcost (tPo M x y) := hv2.trans (pcA (po_ag x y hIr hag)).symm
    have hP : va_P D vwCl (ow cy (pgm a U9.1) (mixB inHs P U9.2)) H := hP
    have hD : va_D (va_A (ow cy a P) sz) (ow cy (pgm a U9.1) (mixB inHs P U9.2)) := hD
    rw [mx_hs ho.2.2.1] at hP hD
    have hAb2 : Ab U9.2 (tPo M x y) (kpN n) (csF M K) := ab_op hAb ho (po_ag x y hIr hag) (inv_tPo hIr hpo)
    exact W.iret (v := iI r) hx hb hr (fun t9 ht _ => ⟨⟨iI r, (pgm a U9.1, U9.2), rfl, ⟨r, rfl, rfl, _, _, _, hAb2, hv.symm, rfl, rfl, rfl⟩, by rw [ht]; exact hP, hD⟩, hS.F ht⟩) hS.2.2 dL_setPole_6 hlocks
  exact hbody s.heap [] hP hD hS ls hl
set_option maxHeartbeats 4000000 in
set_option maxRecDepth 100000 in
theorem k_setPole_t (l : Launch) (hl9 : l.stackTraces = false) (D : va_G) (cy : Nat → ClassId) (o : Nat) (M : Int → Int) (n : Int) (K : Nat → Int → Int) (x y : Int) (hrx : -2147483648 ≤ x ∧ x ≤ 2147483647) (hry : -2147483648 ≤ y ∧ y ≤ 2147483647) (hno : ¬ poleOK x y) : CKs l D cy yL_setPole wsL_setPole { frames := 8, cells := 1, slots := 6, locals := 140 } o [.int (iI x), .int (iI y)] M n K (fun r M' n' K' => (-9010000) = r ∧ M = M' ∧ n = n' ∧ (K) = K') 1 6 := by
  intro a P sz ha hAb
  subst ha
  have hI := hAb.inv
  have hIr := hAb.1.1
  have hag := hAb.1.2
  obtain ⟨h12, h13⟩ := ab_12 hAb
  have h8 : M 8 = P 8 8 := ab_st hAb (by decide) (by decide)
  have hs12 := inv_S12 hIr
  have h50 := hAb.2.1.1
  have hsv : 0 ≤ P 50 1 ∧ P 50 1 ≤ 4 := ⟨by omega, by omega⟩
  have hl0 := hAb.2.2.2.2.1
  have hl1 := hAb.2.2.2.2.2
  have h10 := hAb.2.2.1.1
  have h107 := hAb.2.2.2.1
  refine kMW_start (cc := cL_setPole) (maxL := 4) (ret := (some .int)) (by decide) rfl (Nat.le_of_ble_eq_true rfl) ?_
  intro p e s m below meth c hx hb hr hlocks hml hts hown htab hA hG hP hD hS ls hl
  have hK := hG.1.1.1
  have hl : lv_has ls 4 [(0, .ref (a 100)), (1, .int (iI x)), (2, .int (iI y))] := hl
  have hbody : ∀ (H : Heap) (locs : List Loc) (hP : va_P D vwCl (ow cy a P) H) (hD : va_D (va_A (ow cy a P) sz) (ow cy a P)) (hS : va_S (va_A (ow cy a P) sz) s.heap H locs) (ls : Array Slot) (hl : lv_has ls 4 [(0, .ref (a 100)), (1, .int (iI x)), (2, .int (iI y))]), W p l e { frames := 8, cells := 1, slots := 6, locals := 140 } s m ([.ref (a 100), .int (iI x), .int (iI y)] : List Value).toArray below meth c H locs 0 0 (MQ below (kQi D (ow cy a P) sz (fun w9 : (Nat → Nat) × (Nat → Int → Int) => ow cy w9.1 w9.2) (fun r w9 => w9.1 100 = a 100 ∧ ∃ M' n' K', Ab w9.2 M' n' K' ∧ (fun r M' n' K' => (-9010000) = r ∧ M = M' ∧ n = n' ∧ (K) = K') r M' n' K')) ([.ref (a 100), .int (iI x), .int (iI y)] : List Value).toArray s 1 6 (va_A (ow cy a P) sz)) (F0 m 0 ls []) := by
    intro H locs hP hD hS ls hl
    refine lv_aload_n hx hb dL_setPole_0 rfl (lv_at hl 0 rfl) ?_
    refine lv_iload_n hx hb dL_setPole_1 rfl (lv_at hl 1 rfl) ?_
    refine lv_iload_n hx hb dL_setPole_2 rfl (lv_at hl 2 rfl) ?_
    refine k_thV (As := [.int (iI x), .int (iI y)]) (rest := []) ⟨hx, hb, hml, hown, hts⟩ (c_X6_setPole_t2 l hl9 D cy a P x y hrx hry hno) gL_setPole_X6_setPole rfl ⟨rfl, rfl⟩ 2 rfl (by decide +kernel) ⟨Nat.le_of_ble_eq_true rfl, Nat.le_of_ble_eq_true rfl⟩ (GX_ok D cy) ((GX_ok D cy).2.2.2 _ _ _ _ (fun _ h => h.elim) ((GX_ok D cy).1 _ _ _ _ hS.2.1 hG)) (hP.sub (ws' := obplW cy a P) [0, 39, 40, 41, 42, 43, 44, 45, 46, 47] rfl) (va_recv hK hP (ci := 5) (q0 := 0) rfl rfl) hl.1 rfl (Nat.le_of_ble_eq_true rfl) ⟨Nat.le_of_ble_eq_true rfl, Nat.le_of_ble_eq_true rfl⟩ dL_setPole_3 (fun ce q9 H1 z1 o1 e1 v1 f1 => ?_)
    refine vx_catch (E := exN 1) (name := exN 1) hown (tableOf []) ⟨0, 6, 7, 29⟩ (tableOf []) (by rw [htab]; rfl) (fun z h => by cases h) (by decide) (by decide) (hts (.classLink RL 29 (exN 1)) (by decide +kernel)) (va_Nw.use rfl (hG.2.1 1 (by decide)).2.1) e1 v1 f1 ?_
    have hP1 := P_grow hP o1
    have hS1 := S_grow hS z1 o1
    refine lv_astore_n (lv' := [(3, .ref q9), (0, .ref (a 100)), (1, .int (iI x)), (2, .int (iI y))]) hx hb dL_setPole_7 rfl hl (by decide) rfl (fun ls hl => ?_)
    refine k_ldc (z := (-9010000)) hx hb hown (hts (.constant RL 31 (-9010000)) (by decide +kernel)) (by decide +kernel) dL_setPole_8 ?_
    exact W.iret (v := iI (-9010000)) hx hb hr (fun t9 ht _ => ⟨⟨iI (-9010000), (a, P), rfl, ⟨(-9010000), rfl, rfl, M, n, K, hAb, rfl, rfl, rfl, rfl⟩, by rw [ht]; exact hP1, hD⟩, hS1.F ht⟩) hS1.2.2 dL_setPole_10 hlocks
  exact hbody s.heap [] hP hD hS ls hl
set_option maxHeartbeats 4000000 in
set_option maxRecDepth 100000 in
theorem k_search (l : Launch) (D : va_G) (cy : Nat → ClassId) (o : Nat) (M : Int → Int) (n : Int) (K : Nat → Int → Int) (s9 : Int) (hs9 : 1 ≤ s9 ∧ s9 ≤ 512) : CKs l D cy yL_search wsL_search { frames := 6, cells := 0, slots := 0, locals := 165 } o [.int (iI s9)] M n K (fun r M' n' K' => (srch M s9).2 = r ∧ (srch M s9).1 = M' ∧ kpN n = n' ∧ (csF M K) = K') 0 0 := by
  intro a P sz ha hAb
  subst ha
  have hI := hAb.inv
  have hIr := hAb.1.1
  have hag := hAb.1.2
  obtain ⟨h12, h13⟩ := ab_12 hAb
  have h8 : M 8 = P 8 8 := ab_st hAb (by decide) (by decide)
  have hs12 := inv_S12 hIr
  have h50 := hAb.2.1.1
  have hsv : 0 ≤ P 50 1 ∧ P 50 1 ≤ 4 := ⟨by omega, by omega⟩
  have hl0 := hAb.2.2.2.2.1
  have hl1 := hAb.2.2.2.2.2
  have h10 := hAb.2.2.1.1
  have h107 := hAb.2.2.2.1
  have hsr := srchA s9 hIr hag
  refine kMW_start (cc := cL_search) (maxL := 3) (ret := (some .int)) (by decide) rfl (Nat.le_of_ble_eq_true rfl) ?_
  intro p e s m below meth c hx hb hr hlocks hml hts hown htab hA hG hP hD hS ls hl
  have hK := hG.1.1.1
  have hl : lv_has ls 3 [(0, .ref (a 100)), (1, .int (iI s9))] := hl
  have hbody : ∀ (H : Heap) (locs : List Loc) (hP : va_P D vwCl (ow cy a P) H) (hD : va_D (va_A (ow cy a P) sz) (ow cy a P)) (hS : va_S (va_A (ow cy a P) sz) s.heap H locs) (ls : Array Slot) (hl : lv_has ls 3 [(0, .ref (a 100)), (1, .int (iI s9))]), W p l e { frames := 6, cells := 0, slots := 0, locals := 165 } s m ([.ref (a 100), .int (iI s9)] : List Value).toArray below meth c H locs 0 0 (MQ below (kQi D (ow cy a P) sz (fun w9 : (Nat → Nat) × (Nat → Int → Int) => ow cy w9.1 w9.2) (fun r w9 => w9.1 100 = a 100 ∧ ∃ M' n' K', Ab w9.2 M' n' K' ∧ (fun r M' n' K' => (srch M s9).2 = r ∧ (srch M s9).1 = M' ∧ kpN n = n' ∧ (csF M K) = K') r M' n' K')) ([.ref (a 100), .int (iI s9)] : List Value).toArray s 0 0 (va_A (ow cy a P) sz)) (F0 m 0 ls []) := by
    intro H locs hP hD hS ls hl
    refine lv_aload_n hx hb dL_search_0 rfl (lv_at hl 0 rfl) ?_
    refine lv_iload_n hx hb dL_search_1 rfl (lv_at hl 1 rfl) ?_
    refine zl_virt (As := [.int (iI s9)]) (rest := []) (pb_hs (cy := cy) (a := a) (P := P)) ⟨hx, hb, hml, hown, hts⟩ (c_X6_search l D cy H.size a P s9 hI hsv hs9) gL_search_X6_search rfl ⟨rfl, rfl⟩ 1 rfl (by decide +kernel) ⟨Nat.le_of_ble_eq_true rfl, Nat.le_of_ble_eq_true rfl⟩ (GG_ok D cy) hG.1.1 hA hP hD hS (va_recv hK hP (ci := 5) (q0 := 0) rfl rfl) hl.1 rfl (Nat.le_of_ble_eq_true rfl) ⟨Nat.le_of_ble_eq_true rfl, Nat.le_of_ble_eq_true rfl⟩ dL_search_2 (fun r U9 H locs hpost hP hD hS => ?_)
    obtain ⟨hv2, ho⟩ := hpost
    have hv : r = (srch M s9).2 := hv2.trans hsr.2.symm
    have hP : va_P D vwCl (ow cy (pgm a U9.1) (mixB inHs P U9.2)) H := hP
    have hD : va_D (va_A (ow cy a P) sz) (ow cy (pgm a U9.1) (mixB inHs P U9.2)) := hD
    rw [mx_hs ho.2.2.1] at hP hD
    have hAb2 : Ab U9.2 ((srch M s9).1) (kpN n) (csF M K) := ab_op hAb ho (hsr.1.1) (hsr.1.2)
    exact W.iret (v := iI r) hx hb hr (fun t9 ht _ => ⟨⟨iI r, (pgm a U9.1, U9.2), rfl, ⟨r, rfl, rfl, _, _, _, hAb2, hv.symm, rfl, rfl, rfl⟩, by rw [ht]; exact hP, hD⟩, hS.F ht⟩) hS.2.2 dL_search_5 hlocks
  exact hbody s.heap [] hP hD hS ls hl
set_option maxHeartbeats 4000000 in
set_option maxRecDepth 100000 in
theorem k_search_t (l : Launch) (hl9 : l.stackTraces = false) (D : va_G) (cy : Nat → ClassId) (o : Nat) (M : Int → Int) (n : Int) (K : Nat → Int → Int) (s9 : Int) (hrs9 : -2147483648 ≤ s9 ∧ s9 ≤ 2147483647) (hno : ¬ (1 ≤ s9 ∧ s9 ≤ 512)) : CKs l D cy yL_search wsL_search { frames := 8, cells := 1, slots := 6, locals := 139 } o [.int (iI s9)] M n K (fun r M' n' K' => (-9010000) = r ∧ M = M' ∧ n = n' ∧ (K) = K') 1 6 := by
  intro a P sz ha hAb
  subst ha
  have hI := hAb.inv
  have hIr := hAb.1.1
  have hag := hAb.1.2
  obtain ⟨h12, h13⟩ := ab_12 hAb
  have h8 : M 8 = P 8 8 := ab_st hAb (by decide) (by decide)
  have hs12 := inv_S12 hIr
  have h50 := hAb.2.1.1
  have hsv : 0 ≤ P 50 1 ∧ P 50 1 ≤ 4 := ⟨by omega, by omega⟩
  have hl0 := hAb.2.2.2.2.1
  have hl1 := hAb.2.2.2.2.2
  have h10 := hAb.2.2.1.1
  have h107 := hAb.2.2.2.1
  refine kMW_start (cc := cL_search) (maxL := 3) (ret := (some .int)) (by decide) rfl (Nat.le_of_ble_eq_true rfl) ?_
  intro p e s m below meth c hx hb hr hlocks hml hts hown htab hA hG hP hD hS ls hl
  have hK := hG.1.1.1
  have hl : lv_has ls 3 [(0, .ref (a 100)), (1, .int (iI s9))] := hl
  have hbody : ∀ (H : Heap) (locs : List Loc) (hP : va_P D vwCl (ow cy a P) H) (hD : va_D (va_A (ow cy a P) sz) (ow cy a P)) (hS : va_S (va_A (ow cy a P) sz) s.heap H locs) (ls : Array Slot) (hl : lv_has ls 3 [(0, .ref (a 100)), (1, .int (iI s9))]), W p l e { frames := 8, cells := 1, slots := 6, locals := 139 } s m ([.ref (a 100), .int (iI s9)] : List Value).toArray below meth c H locs 0 0 (MQ below (kQi D (ow cy a P) sz (fun w9 : (Nat → Nat) × (Nat → Int → Int) => ow cy w9.1 w9.2) (fun r w9 => w9.1 100 = a 100 ∧ ∃ M' n' K', Ab w9.2 M' n' K' ∧ (fun r M' n' K' => (-9010000) = r ∧ M = M' ∧ n = n' ∧ (K) = K') r M' n' K')) ([.ref (a 100), .int (iI s9)] : List Value).toArray s 1 6 (va_A (ow cy a P) sz)) (F0 m 0 ls []) := by
    intro H locs hP hD hS ls hl
    refine lv_aload_n hx hb dL_search_0 rfl (lv_at hl 0 rfl) ?_
    refine lv_iload_n hx hb dL_search_1 rfl (lv_at hl 1 rfl) ?_
    refine k_thV (As := [.int (iI s9)]) (rest := []) ⟨hx, hb, hml, hown, hts⟩ (c_X6_search_t2 l hl9 D cy a P s9 hrs9 hno) gL_search_X6_search rfl ⟨rfl, rfl⟩ 1 rfl (by decide +kernel) ⟨Nat.le_of_ble_eq_true rfl, Nat.le_of_ble_eq_true rfl⟩ (GX_ok D cy) ((GX_ok D cy).2.2.2 _ _ _ _ (fun _ h => h.elim) ((GX_ok D cy).1 _ _ _ _ hS.2.1 hG)) (hP.sub (ws' := obplW cy a P) [0, 39, 40, 41, 42, 43, 44, 45, 46, 47] rfl) (va_recv hK hP (ci := 5) (q0 := 0) rfl rfl) hl.1 rfl (Nat.le_of_ble_eq_true rfl) ⟨Nat.le_of_ble_eq_true rfl, Nat.le_of_ble_eq_true rfl⟩ dL_search_2 (fun ce q9 H1 z1 o1 e1 v1 f1 => ?_)
    refine vx_catch (E := exN 1) (name := exN 1) hown (tableOf []) ⟨0, 5, 6, 29⟩ (tableOf []) (by rw [htab]; rfl) (fun z h => by cases h) (by decide) (by decide) (hts (.classLink RL 29 (exN 1)) (by decide +kernel)) (va_Nw.use rfl (hG.2.1 1 (by decide)).2.1) e1 v1 f1 ?_
    have hP1 := P_grow hP o1
    have hS1 := S_grow hS z1 o1
    refine lv_astore_n (lv' := [(2, .ref q9), (0, .ref (a 100)), (1, .int (iI s9))]) hx hb dL_search_6 rfl hl (by decide) rfl (fun ls hl => ?_)
    refine k_ldc (z := (-9010000)) hx hb hown (hts (.constant RL 31 (-9010000)) (by decide +kernel)) (by decide +kernel) dL_search_7 ?_
    exact W.iret (v := iI (-9010000)) hx hb hr (fun t9 ht _ => ⟨⟨iI (-9010000), (a, P), rfl, ⟨(-9010000), rfl, rfl, M, n, K, hAb, rfl, rfl, rfl, rfl⟩, by rw [ht]; exact hP1, hD⟩, hS1.F ht⟩) hS1.2.2 dL_search_9 hlocks
  exact hbody s.heap [] hP hD hS ls hl
set_option maxHeartbeats 4000000 in
set_option maxRecDepth 100000 in
theorem k_addStar (l : Launch) (D : va_G) (cy : Nat → ClassId) (o : Nat) (M : Int → Int) (n : Int) (K : Nat → Int → Int) (x y z : Int) (hsk : starOK x y z) (c9 : M 13 < 12) : CKs l D cy yL_addStar wsL_addStar { frames := 6, cells := 0, slots := 0, locals := 136 } o [.int (iI x), .int (iI y), .int (iI z)] M n K (fun r M' n' K' => M 13 = r ∧ tAS M x y z = M' ∧ kpN n = n' ∧ (csF M K) = K') 0 0 := by
  intro a P sz ha hAb
  subst ha
  have hI := hAb.inv
  have hIr := hAb.1.1
  have hag := hAb.1.2
  obtain ⟨h12, h13⟩ := ab_12 hAb
  have h8 : M 8 = P 8 8 := ab_st hAb (by decide) (by decide)
  have hs12 := inv_S12 hIr
  have h50 := hAb.2.1.1
  have hsv : 0 ≤ P 50 1 ∧ P 50 1 ≤ 4 := ⟨by omega, by omega⟩
  have hl0 := hAb.2.2.2.2.1
  have hl1 := hAb.2.2.2.2.2
  have h10 := hAb.2.2.1.1
  have h107 := hAb.2.2.2.1
  have hq := hsk
  unfold starOK at hq
  have hrx : -2147483648 ≤ x ∧ x ≤ 2147483647 := by omega
  have hry : -2147483648 ≤ y ∧ y ≤ 2147483647 := by omega
  have hrz : -2147483648 ≤ z ∧ z ≤ 2147483647 := by omega
  have hok : P 0 1 < 12 := by omega
  refine kMW_start (cc := cL_addStar) (maxL := 5) (ret := (some .int)) (by decide) rfl (Nat.le_of_ble_eq_true rfl) ?_
  intro p e s m below meth c hx hb hr hlocks hml hts hown htab hA hG hP hD hS ls hl
  have hK := hG.1.1.1
  have hl : lv_has ls 5 [(0, .ref (a 100)), (1, .int (iI x)), (2, .int (iI y)), (3, .int (iI z))] := hl
  have hbody : ∀ (H : Heap) (locs : List Loc) (hP : va_P D vwCl (ow cy a P) H) (hD : va_D (va_A (ow cy a P) sz) (ow cy a P)) (hS : va_S (va_A (ow cy a P) sz) s.heap H locs) (ls : Array Slot) (hl : lv_has ls 5 [(0, .ref (a 100)), (1, .int (iI x)), (2, .int (iI y)), (3, .int (iI z))]), W p l e { frames := 6, cells := 0, slots := 0, locals := 136 } s m ([.ref (a 100), .int (iI x), .int (iI y), .int (iI z)] : List Value).toArray below meth c H locs 0 0 (MQ below (kQi D (ow cy a P) sz (fun w9 : (Nat → Nat) × (Nat → Int → Int) => ow cy w9.1 w9.2) (fun r w9 => w9.1 100 = a 100 ∧ ∃ M' n' K', Ab w9.2 M' n' K' ∧ (fun r M' n' K' => M 13 = r ∧ tAS M x y z = M' ∧ kpN n = n' ∧ (csF M K) = K') r M' n' K')) ([.ref (a 100), .int (iI x), .int (iI y), .int (iI z)] : List Value).toArray s 0 0 (va_A (ow cy a P) sz)) (F0 m 0 ls []) := by
    intro H locs hP hD hS ls hl
    refine lv_aload_n hx hb dL_addStar_0 rfl (lv_at hl 0 rfl) ?_
    refine lv_iload_n hx hb dL_addStar_1 rfl (lv_at hl 1 rfl) ?_
    refine lv_iload_n hx hb dL_addStar_2 rfl (lv_at hl 2 rfl) ?_
    refine lv_iload_n hx hb dL_addStar_3 rfl (lv_at hl 3 rfl) ?_
    refine zl_virt (As := [.int (iI x), .int (iI y), .int (iI z)]) (rest := []) (pb_hs (cy := cy) (a := a) (P := P)) ⟨hx, hb, hml, hown, hts⟩ (c_X6_addStar l D cy H.size a P x y z hI hsv hrx hry hrz hsk hok) gL_addStar_X6_addStar rfl ⟨rfl, rfl⟩ 3 rfl (by decide +kernel) ⟨Nat.le_of_ble_eq_true rfl, Nat.le_of_ble_eq_true rfl⟩ (GG_ok D cy) hG.1.1 hA hP hD hS (va_recv hK hP (ci := 5) (q0 := 0) rfl rfl) hl.1 rfl (Nat.le_of_ble_eq_true rfl) ⟨Nat.le_of_ble_eq_true rfl, Nat.le_of_ble_eq_true rfl⟩ dL_addStar_4 (fun r U9 H locs hpost hP hD hS => ?_)
    obtain ⟨hv2, ho⟩ := hpost
    have hv : r = M 13 := by omega
    have hP : va_P D vwCl (ow cy (pgm a U9.1) (mixB inHs P U9.2)) H := hP
    have hD : va_D (va_A (ow cy a P) sz) (ow cy (pgm a U9.1) (mixB inHs P U9.2)) := hD
    rw [mx_hs ho.2.2.1] at hP hD
    have hAb2 : Ab U9.2 (tAS M x y z) (kpN n) (csF M K) := ab_op hAb ho (as_ag hIr hag) (as_inv hIr hsk c9)
    exact W.iret (v := iI r) hx hb hr (fun t9 ht _ => ⟨⟨iI r, (pgm a U9.1, U9.2), rfl, ⟨r, rfl, rfl, _, _, _, hAb2, hv.symm, rfl, rfl, rfl⟩, by rw [ht]; exact hP, hD⟩, hS.F ht⟩) hS.2.2 dL_addStar_7 hlocks
  exact hbody s.heap [] hP hD hS ls hl
set_option maxHeartbeats 4000000 in
set_option maxRecDepth 100000 in
theorem k_addStar_t2 (l : Launch) (hl9 : l.stackTraces = false) (D : va_G) (cy : Nat → ClassId) (o : Nat) (M : Int → Int) (n : Int) (K : Nat → Int → Int) (x y z : Int) (hrx : -2147483648 ≤ x ∧ x ≤ 2147483647) (hry : -2147483648 ≤ y ∧ y ≤ 2147483647) (hrz : -2147483648 ≤ z ∧ z ≤ 2147483647) (hno : ¬ starOK x y z) : CKs l D cy yL_addStar wsL_addStar { frames := 8, cells := 1, slots := 6, locals := 141 } o [.int (iI x), .int (iI y), .int (iI z)] M n K (fun r M' n' K' => (-9010000) = r ∧ M = M' ∧ n = n' ∧ (K) = K') 1 6 := by
  intro a P sz ha hAb
  subst ha
  have hI := hAb.inv
  have hIr := hAb.1.1
  have hag := hAb.1.2
  obtain ⟨h12, h13⟩ := ab_12 hAb
  have h8 : M 8 = P 8 8 := ab_st hAb (by decide) (by decide)
  have hs12 := inv_S12 hIr
  have h50 := hAb.2.1.1
  have hsv : 0 ≤ P 50 1 ∧ P 50 1 ≤ 4 := ⟨by omega, by omega⟩
  have hl0 := hAb.2.2.2.2.1
  have hl1 := hAb.2.2.2.2.2
  have h10 := hAb.2.2.1.1
  have h107 := hAb.2.2.2.1
  refine kMW_start (cc := cL_addStar) (maxL := 5) (ret := (some .int)) (by decide) rfl (Nat.le_of_ble_eq_true rfl) ?_
  intro p e s m below meth c hx hb hr hlocks hml hts hown htab hA hG hP hD hS ls hl
  have hK := hG.1.1.1
  have hl : lv_has ls 5 [(0, .ref (a 100)), (1, .int (iI x)), (2, .int (iI y)), (3, .int (iI z))] := hl
  have hbody : ∀ (H : Heap) (locs : List Loc) (hP : va_P D vwCl (ow cy a P) H) (hD : va_D (va_A (ow cy a P) sz) (ow cy a P)) (hS : va_S (va_A (ow cy a P) sz) s.heap H locs) (ls : Array Slot) (hl : lv_has ls 5 [(0, .ref (a 100)), (1, .int (iI x)), (2, .int (iI y)), (3, .int (iI z))]), W p l e { frames := 8, cells := 1, slots := 6, locals := 141 } s m ([.ref (a 100), .int (iI x), .int (iI y), .int (iI z)] : List Value).toArray below meth c H locs 0 0 (MQ below (kQi D (ow cy a P) sz (fun w9 : (Nat → Nat) × (Nat → Int → Int) => ow cy w9.1 w9.2) (fun r w9 => w9.1 100 = a 100 ∧ ∃ M' n' K', Ab w9.2 M' n' K' ∧ (fun r M' n' K' => (-9010000) = r ∧ M = M' ∧ n = n' ∧ (K) = K') r M' n' K')) ([.ref (a 100), .int (iI x), .int (iI y), .int (iI z)] : List Value).toArray s 1 6 (va_A (ow cy a P) sz)) (F0 m 0 ls []) := by
    intro H locs hP hD hS ls hl
    refine lv_aload_n hx hb dL_addStar_0 rfl (lv_at hl 0 rfl) ?_
    refine lv_iload_n hx hb dL_addStar_1 rfl (lv_at hl 1 rfl) ?_
    refine lv_iload_n hx hb dL_addStar_2 rfl (lv_at hl 2 rfl) ?_
    refine lv_iload_n hx hb dL_addStar_3 rfl (lv_at hl 3 rfl) ?_
    refine k_thV (As := [.int (iI x), .int (iI y), .int (iI z)]) (rest := []) ⟨hx, hb, hml, hown, hts⟩ (c_X6_addStar_t2 l hl9 D cy a P x y z hI hrx hry hrz hno) gL_addStar_X6_addStar rfl ⟨rfl, rfl⟩ 3 rfl (by decide +kernel) ⟨Nat.le_of_ble_eq_true rfl, Nat.le_of_ble_eq_true rfl⟩ (GX_ok D cy) ((GX_ok D cy).2.2.2 _ _ _ _ (fun _ h => h.elim) ((GX_ok D cy).1 _ _ _ _ hS.2.1 hG)) (hP.sub (ws' := obplW cy a P) [0, 39, 40, 41, 42, 43, 44, 45, 46, 47] rfl) (va_recv hK hP (ci := 5) (q0 := 0) rfl rfl) hl.1 rfl (Nat.le_of_ble_eq_true rfl) ⟨Nat.le_of_ble_eq_true rfl, Nat.le_of_ble_eq_true rfl⟩ dL_addStar_4 (fun ce q9 H1 z1 o1 e1 v1 f1 => ?_)
    refine vx_catch (E := exN 1) (name := exN 1) hown (tableOf []) ⟨0, 7, 8, 29⟩ (tableOf [(0, 7, 13, 15)]) (by rw [htab]; rfl) (fun z h => by cases h) (by decide) (by decide) (hts (.classLink RL 29 (exN 1)) (by decide +kernel)) (va_Nw.use rfl (hG.2.1 1 (by decide)).2.1) e1 v1 f1 ?_
    have hP1 := P_grow hP o1
    have hS1 := S_grow hS z1 o1
    refine lv_astore (lv' := [(4, .ref q9), (0, .ref (a 100)), (1, .int (iI x)), (2, .int (iI y)), (3, .int (iI z))]) hx hb dL_addStar_8 hl (by decide) rfl (fun ls hl => ?_)
    refine k_ldc (z := (-9010000)) hx hb hown (hts (.constant RL 31 (-9010000)) (by decide +kernel)) (by decide +kernel) dL_addStar_10 ?_
    exact W.iret (v := iI (-9010000)) hx hb hr (fun t9 ht _ => ⟨⟨iI (-9010000), (a, P), rfl, ⟨(-9010000), rfl, rfl, M, n, K, hAb, rfl, rfl, rfl, rfl⟩, by rw [ht]; exact hP1, hD⟩, hS1.F ht⟩) hS1.2.2 dL_addStar_12 hlocks
  exact hbody s.heap [] hP hD hS ls hl
set_option maxHeartbeats 4000000 in
set_option maxRecDepth 100000 in
theorem k_addStar_t3 (l : Launch) (hl9 : l.stackTraces = false) (D : va_G) (cy : Nat → ClassId) (o : Nat) (M : Int → Int) (n : Int) (K : Nat → Int → Int) (x y z : Int) (hsk : starOK x y z) (c9 : M 13 = 12) : CKs l D cy yL_addStar wsL_addStar { frames := 8, cells := 1, slots := 6, locals := 141 } o [.int (iI x), .int (iI y), .int (iI z)] M n K (fun r M' n' K' => (-9020000) = r ∧ M = M' ∧ n = n' ∧ (K) = K') 1 6 := by
  intro a P sz ha hAb
  subst ha
  have hI := hAb.inv
  have hIr := hAb.1.1
  have hag := hAb.1.2
  obtain ⟨h12, h13⟩ := ab_12 hAb
  have h8 : M 8 = P 8 8 := ab_st hAb (by decide) (by decide)
  have hs12 := inv_S12 hIr
  have h50 := hAb.2.1.1
  have hsv : 0 ≤ P 50 1 ∧ P 50 1 ≤ 4 := ⟨by omega, by omega⟩
  have hl0 := hAb.2.2.2.2.1
  have hl1 := hAb.2.2.2.2.2
  have h10 := hAb.2.2.1.1
  have h107 := hAb.2.2.2.1
  have hq := hsk
  unfold starOK at hq
  have hrx : -2147483648 ≤ x ∧ x ≤ 2147483647 := by omega
  have hry : -2147483648 ≤ y ∧ y ≤ 2147483647 := by omega
  have hrz : -2147483648 ≤ z ∧ z ≤ 2147483647 := by omega
  have hno : P 0 1 = 12 := by omega
  refine kMW_start (cc := cL_addStar) (maxL := 5) (ret := (some .int)) (by decide) rfl (Nat.le_of_ble_eq_true rfl) ?_
  intro p e s m below meth c hx hb hr hlocks hml hts hown htab hA hG hP hD hS ls hl
  have hK := hG.1.1.1
  have hl : lv_has ls 5 [(0, .ref (a 100)), (1, .int (iI x)), (2, .int (iI y)), (3, .int (iI z))] := hl
  have hbody : ∀ (H : Heap) (locs : List Loc) (hP : va_P D vwCl (ow cy a P) H) (hD : va_D (va_A (ow cy a P) sz) (ow cy a P)) (hS : va_S (va_A (ow cy a P) sz) s.heap H locs) (ls : Array Slot) (hl : lv_has ls 5 [(0, .ref (a 100)), (1, .int (iI x)), (2, .int (iI y)), (3, .int (iI z))]), W p l e { frames := 8, cells := 1, slots := 6, locals := 141 } s m ([.ref (a 100), .int (iI x), .int (iI y), .int (iI z)] : List Value).toArray below meth c H locs 0 0 (MQ below (kQi D (ow cy a P) sz (fun w9 : (Nat → Nat) × (Nat → Int → Int) => ow cy w9.1 w9.2) (fun r w9 => w9.1 100 = a 100 ∧ ∃ M' n' K', Ab w9.2 M' n' K' ∧ (fun r M' n' K' => (-9020000) = r ∧ M = M' ∧ n = n' ∧ (K) = K') r M' n' K')) ([.ref (a 100), .int (iI x), .int (iI y), .int (iI z)] : List Value).toArray s 1 6 (va_A (ow cy a P) sz)) (F0 m 0 ls []) := by
    intro H locs hP hD hS ls hl
    refine lv_aload_n hx hb dL_addStar_0 rfl (lv_at hl 0 rfl) ?_
    refine lv_iload_n hx hb dL_addStar_1 rfl (lv_at hl 1 rfl) ?_
    refine lv_iload_n hx hb dL_addStar_2 rfl (lv_at hl 2 rfl) ?_
    refine lv_iload_n hx hb dL_addStar_3 rfl (lv_at hl 3 rfl) ?_
    refine k_thV (As := [.int (iI x), .int (iI y), .int (iI z)]) (rest := []) ⟨hx, hb, hml, hown, hts⟩ (c_X6_addStar_t3 l hl9 D cy a P x y z hI hrx hry hrz hsk hno) gL_addStar_X6_addStar rfl ⟨rfl, rfl⟩ 3 rfl (by decide +kernel) ⟨Nat.le_of_ble_eq_true rfl, Nat.le_of_ble_eq_true rfl⟩ (GX_ok D cy) ((GX_ok D cy).2.2.2 _ _ _ _ (fun _ h => h.elim) ((GX_ok D cy).1 _ _ _ _ hS.2.1 hG)) (hP.sub (ws' := obplW cy a P) [0, 39, 40, 41, 42, 43, 44, 45, 46, 47] rfl) (va_recv hK hP (ci := 5) (q0 := 0) rfl rfl) hl.1 rfl (Nat.le_of_ble_eq_true rfl) ⟨Nat.le_of_ble_eq_true rfl, Nat.le_of_ble_eq_true rfl⟩ dL_addStar_4 (fun ce q9 H1 z1 o1 e1 v1 f1 => ?_)
    refine vx_catch (E := exN 2) (name := exN 2) hown (tableOf [(0, 7, 8, 29)]) ⟨0, 7, 13, 15⟩ (tableOf []) (by rw [htab]; rfl) (fun z h => by
        rcases List.mem_cons.mp h with rfl | h
        · exact Or.inr ⟨by decide, exN 1, hts (.classLink RL 29 (exN 1)) (by decide +kernel), (hG.2.1 2 (by decide)).2.2 1 (by decide) (by decide)⟩
        cases h) (by decide) (by decide) (hts (.classLink RL 15 (exN 2)) (by decide +kernel)) (va_Nw.use rfl (hG.2.1 2 (by decide)).2.1) e1 v1 f1 ?_
    have hP1 := P_grow hP o1
    have hS1 := S_grow hS z1 o1
    refine lv_astore (lv' := [(4, .ref q9), (0, .ref (a 100)), (1, .int (iI x)), (2, .int (iI y)), (3, .int (iI z))]) hx hb dL_addStar_13 hl (by decide) rfl (fun ls hl => ?_)
    refine k_ldc (z := (-9020000)) hx hb hown (hts (.constant RL 17 (-9020000)) (by decide +kernel)) (by decide +kernel) dL_addStar_15 ?_
    exact W.iret (v := iI (-9020000)) hx hb hr (fun t9 ht _ => ⟨⟨iI (-9020000), (a, P), rfl, ⟨(-9020000), rfl, rfl, M, n, K, hAb, rfl, rfl, rfl, rfl⟩, by rw [ht]; exact hP1, hD⟩, hS1.F ht⟩) hS1.2.2 dL_addStar_17 hlocks
  exact hbody s.heap [] hP hD hS ls hl
set_option maxHeartbeats 4000000 in
set_option maxRecDepth 100000 in
theorem k_removeStar (l : Launch) (D : va_G) (cy : Nat → ClassId) (o : Nat) (M : Int → Int) (n : Int) (K : Nat → Int → Int) (u : Int) (h0 : 0 ≤ u) (h1 : u < M 13) : CKs l D cy yL_removeStar wsL_removeStar { frames := 6, cells := 0, slots := 0, locals := 134 } o [.int (iI u)] M n K (fun r M' n' K' => M 13 - 1 = r ∧ tRS M u = M' ∧ kpN n = n' ∧ (csF M K) = K') 0 0 := by
  intro a P sz ha hAb
  subst ha
  have hI := hAb.inv
  have hIr := hAb.1.1
  have hag := hAb.1.2
  obtain ⟨h12, h13⟩ := ab_12 hAb
  have h8 : M 8 = P 8 8 := ab_st hAb (by decide) (by decide)
  have hs12 := inv_S12 hIr
  have h50 := hAb.2.1.1
  have hsv : 0 ≤ P 50 1 ∧ P 50 1 ≤ 4 := ⟨by omega, by omega⟩
  have hl0 := hAb.2.2.2.2.1
  have hl1 := hAb.2.2.2.2.2
  have h10 := hAb.2.2.1.1
  have h107 := hAb.2.2.2.1
  have g1 : u < P 0 1 := by omega
  refine kMW_start (cc := cL_removeStar) (maxL := 3) (ret := (some .int)) (by decide) rfl (Nat.le_of_ble_eq_true rfl) ?_
  intro p e s m below meth c hx hb hr hlocks hml hts hown htab hA hG hP hD hS ls hl
  have hK := hG.1.1.1
  have hl : lv_has ls 3 [(0, .ref (a 100)), (1, .int (iI u))] := hl
  have hbody : ∀ (H : Heap) (locs : List Loc) (hP : va_P D vwCl (ow cy a P) H) (hD : va_D (va_A (ow cy a P) sz) (ow cy a P)) (hS : va_S (va_A (ow cy a P) sz) s.heap H locs) (ls : Array Slot) (hl : lv_has ls 3 [(0, .ref (a 100)), (1, .int (iI u))]), W p l e { frames := 6, cells := 0, slots := 0, locals := 134 } s m ([.ref (a 100), .int (iI u)] : List Value).toArray below meth c H locs 0 0 (MQ below (kQi D (ow cy a P) sz (fun w9 : (Nat → Nat) × (Nat → Int → Int) => ow cy w9.1 w9.2) (fun r w9 => w9.1 100 = a 100 ∧ ∃ M' n' K', Ab w9.2 M' n' K' ∧ (fun r M' n' K' => M 13 - 1 = r ∧ tRS M u = M' ∧ kpN n = n' ∧ (csF M K) = K') r M' n' K')) ([.ref (a 100), .int (iI u)] : List Value).toArray s 0 0 (va_A (ow cy a P) sz)) (F0 m 0 ls []) := by
    intro H locs hP hD hS ls hl
    refine lv_aload_n hx hb dL_removeStar_0 rfl (lv_at hl 0 rfl) ?_
    refine lv_iload_n hx hb dL_removeStar_1 rfl (lv_at hl 1 rfl) ?_
    refine zl_virt (As := [.int (iI u)]) (rest := []) (pb_hs (cy := cy) (a := a) (P := P)) ⟨hx, hb, hml, hown, hts⟩ (c_X6_removeStar l D cy H.size a P u hI hsv h0 g1) gL_removeStar_X6_removeStar rfl ⟨rfl, rfl⟩ 1 rfl (by decide +kernel) ⟨Nat.le_of_ble_eq_true rfl, Nat.le_of_ble_eq_true rfl⟩ (GG_ok D cy) hG.1.1 hA hP hD hS (va_recv hK hP (ci := 5) (q0 := 0) rfl rfl) hl.1 rfl (Nat.le_of_ble_eq_true rfl) ⟨Nat.le_of_ble_eq_true rfl, Nat.le_of_ble_eq_true rfl⟩ dL_removeStar_2 (fun r U9 H locs hpost hP hD hS => ?_)
    obtain ⟨hv2, ho⟩ := hpost
    have hv : r = M 13 - 1 := by omega
    have hP : va_P D vwCl (ow cy (pgm a U9.1) (mixB inHs P U9.2)) H := hP
    have hD : va_D (va_A (ow cy a P) sz) (ow cy (pgm a U9.1) (mixB inHs P U9.2)) := hD
    rw [mx_hs ho.2.2.1] at hP hD
    have hAb2 : Ab U9.2 (tRS M u) (kpN n) (csF M K) := ab_op hAb ho (rs_ag hIr hag h0 h1) (rs_inv hIr h0 h1)
    exact W.iret (v := iI r) hx hb hr (fun t9 ht _ => ⟨⟨iI r, (pgm a U9.1, U9.2), rfl, ⟨r, rfl, rfl, _, _, _, hAb2, hv.symm, rfl, rfl, rfl⟩, by rw [ht]; exact hP, hD⟩, hS.F ht⟩) hS.2.2 dL_removeStar_5 hlocks
  exact hbody s.heap [] hP hD hS ls hl
set_option maxHeartbeats 4000000 in
set_option maxRecDepth 100000 in
theorem k_removeStar_t (l : Launch) (hl9 : l.stackTraces = false) (D : va_G) (cy : Nat → ClassId) (o : Nat) (M : Int → Int) (n : Int) (K : Nat → Int → Int) (u : Int) (hru : -2147483648 ≤ u ∧ u ≤ 2147483647) (c9 : ¬ (0 ≤ u ∧ u < M 13)) : CKs l D cy yL_removeStar wsL_removeStar { frames := 8, cells := 1, slots := 6, locals := 139 } o [.int (iI u)] M n K (fun r M' n' K' => (-9030000) = r ∧ M = M' ∧ n = n' ∧ (K) = K') 1 6 := by
  intro a P sz ha hAb
  subst ha
  have hI := hAb.inv
  have hIr := hAb.1.1
  have hag := hAb.1.2
  obtain ⟨h12, h13⟩ := ab_12 hAb
  have h8 : M 8 = P 8 8 := ab_st hAb (by decide) (by decide)
  have hs12 := inv_S12 hIr
  have h50 := hAb.2.1.1
  have hsv : 0 ≤ P 50 1 ∧ P 50 1 ≤ 4 := ⟨by omega, by omega⟩
  have hl0 := hAb.2.2.2.2.1
  have hl1 := hAb.2.2.2.2.2
  have h10 := hAb.2.2.1.1
  have h107 := hAb.2.2.2.1
  have hno : ¬ (0 ≤ u ∧ u < P 0 1) := by omega
  refine kMW_start (cc := cL_removeStar) (maxL := 3) (ret := (some .int)) (by decide) rfl (Nat.le_of_ble_eq_true rfl) ?_
  intro p e s m below meth c hx hb hr hlocks hml hts hown htab hA hG hP hD hS ls hl
  have hK := hG.1.1.1
  have hl : lv_has ls 3 [(0, .ref (a 100)), (1, .int (iI u))] := hl
  have hbody : ∀ (H : Heap) (locs : List Loc) (hP : va_P D vwCl (ow cy a P) H) (hD : va_D (va_A (ow cy a P) sz) (ow cy a P)) (hS : va_S (va_A (ow cy a P) sz) s.heap H locs) (ls : Array Slot) (hl : lv_has ls 3 [(0, .ref (a 100)), (1, .int (iI u))]), W p l e { frames := 8, cells := 1, slots := 6, locals := 139 } s m ([.ref (a 100), .int (iI u)] : List Value).toArray below meth c H locs 0 0 (MQ below (kQi D (ow cy a P) sz (fun w9 : (Nat → Nat) × (Nat → Int → Int) => ow cy w9.1 w9.2) (fun r w9 => w9.1 100 = a 100 ∧ ∃ M' n' K', Ab w9.2 M' n' K' ∧ (fun r M' n' K' => (-9030000) = r ∧ M = M' ∧ n = n' ∧ (K) = K') r M' n' K')) ([.ref (a 100), .int (iI u)] : List Value).toArray s 1 6 (va_A (ow cy a P) sz)) (F0 m 0 ls []) := by
    intro H locs hP hD hS ls hl
    refine lv_aload_n hx hb dL_removeStar_0 rfl (lv_at hl 0 rfl) ?_
    refine lv_iload_n hx hb dL_removeStar_1 rfl (lv_at hl 1 rfl) ?_
    refine k_thV (As := [.int (iI u)]) (rest := []) ⟨hx, hb, hml, hown, hts⟩ (c_X6_removeStar_t1 l hl9 D cy a P u hI hru hno) gL_removeStar_X6_removeStar rfl ⟨rfl, rfl⟩ 1 rfl (by decide +kernel) ⟨Nat.le_of_ble_eq_true rfl, Nat.le_of_ble_eq_true rfl⟩ (GX_ok D cy) ((GX_ok D cy).2.2.2 _ _ _ _ (fun _ h => h.elim) ((GX_ok D cy).1 _ _ _ _ hS.2.1 hG)) (hP.sub (ws' := obplW cy a P) [0, 39, 40, 41, 42, 43, 44, 45, 46, 47] rfl) (va_recv hK hP (ci := 5) (q0 := 0) rfl rfl) hl.1 rfl (Nat.le_of_ble_eq_true rfl) ⟨Nat.le_of_ble_eq_true rfl, Nat.le_of_ble_eq_true rfl⟩ dL_removeStar_2 (fun ce q9 H1 z1 o1 e1 v1 f1 => ?_)
    refine vx_catch (E := exN 0) (name := exN 0) hown (tableOf []) ⟨0, 5, 6, 22⟩ (tableOf []) (by rw [htab]; rfl) (fun z h => by cases h) (by decide) (by decide) (hts (.classLink RL 22 (exN 0)) (by decide +kernel)) (va_Nw.use rfl (hG.2.1 0 (by decide)).2.1) e1 v1 f1 ?_
    have hP1 := P_grow hP o1
    have hS1 := S_grow hS z1 o1
    refine lv_astore_n (lv' := [(2, .ref q9), (0, .ref (a 100)), (1, .int (iI u))]) hx hb dL_removeStar_6 rfl hl (by decide) rfl (fun ls hl => ?_)
    refine k_ldc (z := (-9030000)) hx hb hown (hts (.constant RL 24 (-9030000)) (by decide +kernel)) (by decide +kernel) dL_removeStar_7 ?_
    exact W.iret (v := iI (-9030000)) hx hb hr (fun t9 ht _ => ⟨⟨iI (-9030000), (a, P), rfl, ⟨(-9030000), rfl, rfl, M, n, K, hAb, rfl, rfl, rfl, rfl⟩, by rw [ht]; exact hP1, hD⟩, hS1.F ht⟩) hS1.2.2 dL_removeStar_9 hlocks
  exact hbody s.heap [] hP hD hS ls hl
set_option maxHeartbeats 4000000 in
set_option maxRecDepth 100000 in
theorem k_point (l : Launch) (D : va_G) (cy : Nat → ClassId) (o : Nat) (M : Int → Int) (n : Int) (K : Nat → Int → Int) (t q w : Int) (h0 : 0 ≤ t) (h1 : t < M 12) (h2 : 0 ≤ q) (h3 : q < pts M t) (hw : 0 ≤ w ∧ w ≤ 6) : CKs l D cy yL_point wsL_point { frames := 5, cells := 0, slots := 0, locals := 128 } o [.int (iI t), .int (iI q), .int (iI w)] M n K (fun r M' n' K' => ptV M t q w = r ∧ M = M' ∧ n = n' ∧ (K) = K') 0 0 := by
  intro a P sz ha hAb
  subst ha
  have hI := hAb.inv
  have hIr := hAb.1.1
  have hag := hAb.1.2
  obtain ⟨h12, h13⟩ := ab_12 hAb
  have h8 : M 8 = P 8 8 := ab_st hAb (by decide) (by decide)
  have hs12 := inv_S12 hIr
  have h50 := hAb.2.1.1
  have hsv : 0 ≤ P 50 1 ∧ P 50 1 ≤ 4 := ⟨by omega, by omega⟩
  have hl0 := hAb.2.2.2.2.1
  have hl1 := hAb.2.2.2.2.2
  have h10 := hAb.2.2.1.1
  have h107 := hAb.2.2.2.1
  have g1 : t < P 0 0 := by omega
  have hpt := ab_pt hAb h0 g1
  have g3 : q < P 1 t := by omega
  refine kMW_start (cc := cL_point) (maxL := 5) (ret := (some .int)) (by decide) rfl (Nat.le_of_ble_eq_true rfl) ?_
  intro p e s m below meth c hx hb hr hlocks hml hts hown htab hA hG hP hD hS ls hl
  have hK := hG.1.1.1
  have hl : lv_has ls 5 [(0, .ref (a 100)), (1, .int (iI t)), (2, .int (iI q)), (3, .int (iI w))] := hl
  have hbody : ∀ (H : Heap) (locs : List Loc) (hP : va_P D vwCl (ow cy a P) H) (hD : va_D (va_A (ow cy a P) sz) (ow cy a P)) (hS : va_S (va_A (ow cy a P) sz) s.heap H locs) (ls : Array Slot) (hl : lv_has ls 5 [(0, .ref (a 100)), (1, .int (iI t)), (2, .int (iI q)), (3, .int (iI w))]), W p l e { frames := 5, cells := 0, slots := 0, locals := 128 } s m ([.ref (a 100), .int (iI t), .int (iI q), .int (iI w)] : List Value).toArray below meth c H locs 0 0 (MQ below (kQi D (ow cy a P) sz (fun w9 : (Nat → Nat) × (Nat → Int → Int) => ow cy w9.1 w9.2) (fun r w9 => w9.1 100 = a 100 ∧ ∃ M' n' K', Ab w9.2 M' n' K' ∧ (fun r M' n' K' => ptV M t q w = r ∧ M = M' ∧ n = n' ∧ (K) = K') r M' n' K')) ([.ref (a 100), .int (iI t), .int (iI q), .int (iI w)] : List Value).toArray s 0 0 (va_A (ow cy a P) sz)) (F0 m 0 ls []) := by
    intro H locs hP hD hS ls hl
    refine lv_aload_n hx hb dL_point_0 rfl (lv_at hl 0 rfl) ?_
    refine lv_iload_n hx hb dL_point_1 rfl (lv_at hl 1 rfl) ?_
    refine lv_iload_n hx hb dL_point_2 rfl (lv_at hl 2 rfl) ?_
    refine lv_iload_n hx hb dL_point_3 rfl (lv_at hl 3 rfl) ?_
    refine k_roV (As := [.int (iI t), .int (iI q), .int (iI w)]) (rest := []) ⟨hx, hb, hml, hown, hts⟩ (c_X6_point l D cy a P t q w hI h0 g1 h2 g3 hw) gL_point_X6_point rfl ⟨rfl, rfl⟩ 3 rfl (by decide +kernel) ⟨Nat.le_of_ble_eq_true rfl, Nat.le_of_ble_eq_true rfl⟩ (GG_ok D cy) ((GG_ok D cy).2.2.2 _ _ _ _ (fun _ h => h.elim) ((GG_ok D cy).1 _ _ _ _ hS.2.1 hG.1.1)) (hP.sub (ws' := obplW cy a P) [0, 39, 40, 41, 42, 43, 44, 45, 46, 47] rfl) (va_recv hK hP (ci := 5) (q0 := 0) rfl rfl) hl.1 rfl (Nat.le_of_ble_eq_true rfl) ⟨Nat.le_of_ble_eq_true rfl, Nat.le_of_ble_eq_true rfl⟩ dL_point_4 (fun r hv2 => ?_)
    have hv : r = ptV M t q w := Eq.trans hv2 (ptVA hag h0 h1 h2 h3 hw).symm
    exact W.iret (v := iI r) hx hb hr (fun t9 ht _ => ⟨⟨iI r, (a, P), rfl, ⟨r, rfl, rfl, M, n, K, hAb, hv.symm, rfl, rfl, rfl⟩, by rw [ht]; exact hP, hD⟩, hS.F ht⟩) hS.2.2 dL_point_7 hlocks
  exact hbody s.heap [] hP hD hS ls hl
set_option maxHeartbeats 4000000 in
set_option maxRecDepth 100000 in
theorem k_point_t (l : Launch) (hl9 : l.stackTraces = false) (D : va_G) (cy : Nat → ClassId) (o : Nat) (M : Int → Int) (n : Int) (K : Nat → Int → Int) (t q w : Int) (hrt : -2147483648 ≤ t ∧ t ≤ 2147483647) (hrq : -2147483648 ≤ q ∧ q ≤ 2147483647) (c9 : ¬ ((0 ≤ t ∧ t < M 12) ∧ 0 ≤ q ∧ q < pts M t)) : CKs l D cy yL_point wsL_point { frames := 8, cells := 1, slots := 6, locals := 141 } o [.int (iI t), .int (iI q), .int (iI w)] M n K (fun r M' n' K' => (-9030000) = r ∧ M = M' ∧ n = n' ∧ (K) = K') 1 6 := by
  intro a P sz ha hAb
  subst ha
  have hI := hAb.inv
  have hIr := hAb.1.1
  have hag := hAb.1.2
  obtain ⟨h12, h13⟩ := ab_12 hAb
  have h8 : M 8 = P 8 8 := ab_st hAb (by decide) (by decide)
  have hs12 := inv_S12 hIr
  have h50 := hAb.2.1.1
  have hsv : 0 ≤ P 50 1 ∧ P 50 1 ≤ 4 := ⟨by omega, by omega⟩
  have hl0 := hAb.2.2.2.2.1
  have hl1 := hAb.2.2.2.2.2
  have h10 := hAb.2.2.1.1
  have h107 := hAb.2.2.2.1
  have hno : ¬ ((0 ≤ t ∧ t < P 0 0) ∧ 0 ≤ q ∧ q < P 1 t) := fun z => c9 ⟨by omega, z.2.1, by have := ab_pt hAb z.1.1 z.1.2; omega⟩
  refine kMW_start (cc := cL_point) (maxL := 5) (ret := (some .int)) (by decide) rfl (Nat.le_of_ble_eq_true rfl) ?_
  intro p e s m below meth c hx hb hr hlocks hml hts hown htab hA hG hP hD hS ls hl
  have hK := hG.1.1.1
  have hl : lv_has ls 5 [(0, .ref (a 100)), (1, .int (iI t)), (2, .int (iI q)), (3, .int (iI w))] := hl
  have hbody : ∀ (H : Heap) (locs : List Loc) (hP : va_P D vwCl (ow cy a P) H) (hD : va_D (va_A (ow cy a P) sz) (ow cy a P)) (hS : va_S (va_A (ow cy a P) sz) s.heap H locs) (ls : Array Slot) (hl : lv_has ls 5 [(0, .ref (a 100)), (1, .int (iI t)), (2, .int (iI q)), (3, .int (iI w))]), W p l e { frames := 8, cells := 1, slots := 6, locals := 141 } s m ([.ref (a 100), .int (iI t), .int (iI q), .int (iI w)] : List Value).toArray below meth c H locs 0 0 (MQ below (kQi D (ow cy a P) sz (fun w9 : (Nat → Nat) × (Nat → Int → Int) => ow cy w9.1 w9.2) (fun r w9 => w9.1 100 = a 100 ∧ ∃ M' n' K', Ab w9.2 M' n' K' ∧ (fun r M' n' K' => (-9030000) = r ∧ M = M' ∧ n = n' ∧ (K) = K') r M' n' K')) ([.ref (a 100), .int (iI t), .int (iI q), .int (iI w)] : List Value).toArray s 1 6 (va_A (ow cy a P) sz)) (F0 m 0 ls []) := by
    intro H locs hP hD hS ls hl
    refine lv_aload_n hx hb dL_point_0 rfl (lv_at hl 0 rfl) ?_
    refine lv_iload_n hx hb dL_point_1 rfl (lv_at hl 1 rfl) ?_
    refine lv_iload_n hx hb dL_point_2 rfl (lv_at hl 2 rfl) ?_
    refine lv_iload_n hx hb dL_point_3 rfl (lv_at hl 3 rfl) ?_
    refine k_thV (As := [.int (iI t), .int (iI q), .int (iI w)]) (rest := []) ⟨hx, hb, hml, hown, hts⟩ (c_X6_point_t1 l hl9 D cy a P t q w hI hrt hrq hno) gL_point_X6_point rfl ⟨rfl, rfl⟩ 3 rfl (by decide +kernel) ⟨Nat.le_of_ble_eq_true rfl, Nat.le_of_ble_eq_true rfl⟩ (GX_ok D cy) ((GX_ok D cy).2.2.2 _ _ _ _ (fun _ h => h.elim) ((GX_ok D cy).1 _ _ _ _ hS.2.1 hG)) (hP.sub (ws' := obplW cy a P) [0, 39, 40, 41, 42, 43, 44, 45, 46, 47] rfl) (va_recv hK hP (ci := 5) (q0 := 0) rfl rfl) hl.1 rfl (Nat.le_of_ble_eq_true rfl) ⟨Nat.le_of_ble_eq_true rfl, Nat.le_of_ble_eq_true rfl⟩ dL_point_4 (fun ce q9 H1 z1 o1 e1 v1 f1 => ?_)
    refine vx_catch (E := exN 0) (name := exN 0) hown (tableOf []) ⟨0, 7, 8, 22⟩ (tableOf [(0, 7, 13, 29)]) (by rw [htab]; rfl) (fun z h => by cases h) (by decide) (by decide) (hts (.classLink RL 22 (exN 0)) (by decide +kernel)) (va_Nw.use rfl (hG.2.1 0 (by decide)).2.1) e1 v1 f1 ?_
    have hP1 := P_grow hP o1
    have hS1 := S_grow hS z1 o1
    refine lv_astore (lv' := [(4, .ref q9), (0, .ref (a 100)), (1, .int (iI t)), (2, .int (iI q)), (3, .int (iI w))]) hx hb dL_point_8 hl (by decide) rfl (fun ls hl => ?_)
    refine k_ldc (z := (-9030000)) hx hb hown (hts (.constant RL 24 (-9030000)) (by decide +kernel)) (by decide +kernel) dL_point_10 ?_
    exact W.iret (v := iI (-9030000)) hx hb hr (fun t9 ht _ => ⟨⟨iI (-9030000), (a, P), rfl, ⟨(-9030000), rfl, rfl, M, n, K, hAb, rfl, rfl, rfl, rfl⟩, by rw [ht]; exact hP1, hD⟩, hS1.F ht⟩) hS1.2.2 dL_point_12 hlocks
  exact hbody s.heap [] hP hD hS ls hl
