set_option maxHeartbeats 4000000 in
set_option maxRecDepth 100000 in
theorem c_L_addTrail (l : Launch) (sz : Nat) (o : Nat) (f : Nat → Int64) (D : va_G) (cy : Nat → ClassId) (a : Nat → Nat) (P : Nat → Int → Int) (hI : Inv (mO P)) (hsv : 0 ≤ P 50 1 ∧ P 50 1 ≤ 4) (hok : P 0 0 < 12) : Met l yL_addTrail wsL_addTrail { frames := 6, cells := 0, slots := 0, locals := 133 } (mPre (GG D cy) D (ouW cy o f (obhsW cy a P)) sz ([.ref (a 100), .ref o] : List Value)) (kQi D (ouW cy o f (obhsW cy a P)) sz (fun u8 : ((Nat → Nat) × (Nat → Int → Int)) × (Nat → Int64) => ouW cy o u8.2 (obhsW cy (pgm a u8.1.1) u8.1.2)) (ouP (fun r9 u9 => r9 = P 0 0 ∧ opd P u9.2 (mO (cAT P))))) 0 0 (va_A (ouW cy o f (obhsW cy a P)) sz) := by
  refine kMW_start (cc := cL_addTrail) (maxL := 3) (ret := (some .int)) (by decide) rfl (Nat.le_of_ble_eq_true rfl) ?_
  intro p e s m below meth c hx hb hr hlocks hml hts hown htab hA hG hP hD hS ls hl
  have hK := hG.1
  have hl : lv_has ls 3 [(0, .ref (a 100)), (1, .ref o)] := hl
  have hbody : ∀ (H : Heap) (locs : List Loc) (hP : va_P D vwCl (ouW cy o f (obhsW cy a P)) H) (hS : va_S (va_A (ouW cy o f (obhsW cy a P)) sz) s.heap H locs) (ls : Array Slot) (hl : lv_has ls 3 [(0, .ref (a 100)), (1, .ref o)]), W p l e { frames := 6, cells := 0, slots := 0, locals := 133 } s m ([.ref (a 100), .ref o] : List Value).toArray below meth c H locs 0 0 (MQ below (kQi D (ouW cy o f (obhsW cy a P)) sz (fun u8 : ((Nat → Nat) × (Nat → Int → Int)) × (Nat → Int64) => ouW cy o u8.2 (obhsW cy (pgm a u8.1.1) u8.1.2)) (ouP (fun r9 u9 => r9 = P 0 0 ∧ opd P u9.2 (mO (cAT P))))) ([.ref (a 100), .ref o] : List Value).toArray s 0 0 (va_A (ouW cy o f (obhsW cy a P)) sz)) (F0 m 0 ls []) := by
    intro H locs hP hS ls hl
    refine lv_aload_n hx hb dL_addTrail_0 rfl (lv_at hl 1 rfl) ?_
    refine k_iconst hx hb dL_addTrail_1 ?_
    refine lv_aload_n hx hb dL_addTrail_2 rfl (lv_at hl 0 rfl) ?_
    have hPc := hP.sub (ws' := obhsW cy a P) [1, 2, 3, 4, 5, 6, 7, 8, 9, 10, 11, 12, 13, 14, 15, 16, 17, 18, 19, 20, 21, 22, 23, 24, 25, 26, 27, 28, 29, 30, 31, 32, 33, 34, 35, 36, 37, 38, 39, 40, 41, 42, 43, 44, 45, 46, 47, 48] rfl
    have hDc := hD.sub (ws' := obhsW cy a P) [1, 2, 3, 4, 5, 6, 7, 8, 9, 10, 11, 12, 13, 14, 15, 16, 17, 18, 19, 20, 21, 22, 23, 24, 25, 26, 27, 28, 29, 30, 31, 32, 33, 34, 35, 36, 37, 38, 39, 40, 41, 42, 43, 44, 45, 46, 47, 48] (by decide) rfl
    have hFc := va_free (wc := obhsW cy a P) hD hS hA [1, 2, 3, 4, 5, 6, 7, 8, 9, 10, 11, 12, 13, 14, 15, 16, 17, 18, 19, 20, 21, 22, 23, 24, 25, 26, 27, 28, 29, 30, 31, 32, 33, 34, 35, 36, 37, 38, 39, 40, 41, 42, 43, 44, 45, 46, 47, 48] rfl
    refine k_mui (k_runV (As := []) (rest := [.int (iI 0), .ref o]) ⟨hx, hb, hml, hown, hts⟩ (c_X6_addTrail l D cy H.size a P hI hsv hok) gL_addTrail_X6_addTrail rfl ⟨rfl, rfl⟩ 0 rfl (by decide +kernel) ⟨Nat.le_of_ble_eq_true rfl, Nat.le_of_ble_eq_true rfl⟩ (GG_ok D cy) hG hS hFc hPc hDc (va_recv hK hP (ci := 5) (q0 := 1) rfl rfl) hl.1 rfl (Nat.le_of_ble_eq_true rfl) ⟨Nat.le_of_ble_eq_true rfl, Nat.le_of_ble_eq_true rfl⟩ dL_addTrail_3) hFc hS (fun r8 u8 H1 locs1 hpost hP1 hD1 hS1 hk1 => ?_)
    have hJ := va_join (wr := [(o, .inl (cy 4, 1, .inr (.inl f)))]) hP hD [1, 2, 3, 4, 5, 6, 7, 8, 9, 10, 11, 12, 13, 14, 15, 16, 17, 18, 19, 20, 21, 22, 23, 24, 25, 26, 27, 28, 29, 30, 31, 32, 33, 34, 35, 36, 37, 38, 39, 40, 41, 42, 43, 44, 45, 46, 47, 48] [0] rfl rfl (by decide) (by decide) hk1 hFc hP1 hD1
    obtain ⟨hP, hD⟩ := hJ
    have hS := hS1
    refine lv_i2l hx hb dL_addTrail_6 rfl ?_
    refine va_last hx hb hK hP hD hS 0 4 rfl rfl (i := iI 0) (vp_iI (by decide)) dL_addTrail_7 (fun H1 locs1 hP hD hS => ?_)
    refine lv_goto (tgt := 14) hx hb dL_addTrail_8 (by decide) ?_
    refine k_iconst hx hb dL_addTrail_14 ?_
    exact W.iret (v := iI 0) hx hb hr (fun t9 ht _ => ⟨⟨iI 0, (u8, _), rfl, ⟨0, rfl, rfl, r8, out_0 _ _, hpost⟩, by rw [ht]; exact hP, hD⟩, hS.F ht⟩) hS.2.2 dL_addTrail_15 hlocks
  exact hbody s.heap [] hP hS ls hl
set_option maxHeartbeats 4000000 in
set_option maxRecDepth 100000 in
theorem c_L_addTrail_t3 (l : Launch) (hl9 : l.stackTraces = false) (sz : Nat) (o : Nat) (D : va_G) (cy : Nat → ClassId) (a : Nat → Nat) (P : Nat → Int → Int) (hI : Inv (mO P)) (hno : P 0 0 = 12) : Met l yL_addTrail wsL_addTrail { frames := 8, cells := 1, slots := 6, locals := 138 } (mPre (GX D cy) D (obplW cy a P) sz ([.ref (a 100), .ref o] : List Value)) (kQi D (obplW cy a P) sz (fun _ : Unit => obplW cy a P) (fun r _ => r = 1)) 1 6 (va_A (obplW cy a P) sz) := by
  refine kMW_start (cc := cL_addTrail) (maxL := 3) (ret := (some .int)) (by decide) rfl (Nat.le_of_ble_eq_true rfl) ?_
  intro p e s m below meth c hx hb hr hlocks hml hts hown htab hA hG hP hD hS ls hl
  have hK := hG.1.1.1
  have hl : lv_has ls 3 [(0, .ref (a 100)), (1, .ref o)] := hl
  have hbody : ∀ (H : Heap) (locs : List Loc) (hP : va_P D vwCl (obplW cy a P) H) (hS : va_S (va_A (obplW cy a P) sz) s.heap H locs) (ls : Array Slot) (hl : lv_has ls 3 [(0, .ref (a 100)), (1, .ref o)]), W p l e { frames := 8, cells := 1, slots := 6, locals := 138 } s m ([.ref (a 100), .ref o] : List Value).toArray below meth c H locs 0 0 (MQ below (kQi D (obplW cy a P) sz (fun _ : Unit => obplW cy a P) (fun r _ => r = 1)) ([.ref (a 100), .ref o] : List Value).toArray s 1 6 (va_A (obplW cy a P) sz)) (F0 m 0 ls []) := by
    intro H locs hP hS ls hl
    refine lv_aload_n hx hb dL_addTrail_0 rfl (lv_at hl 1 rfl) ?_
    refine k_iconst hx hb dL_addTrail_1 ?_
    refine lv_aload_n hx hb dL_addTrail_2 rfl (lv_at hl 0 rfl) ?_
    refine k_thV (As := []) (rest := [.int (iI 0), .ref o]) ⟨hx, hb, hml, hown, hts⟩ (c_X6_addTrail_t3 l hl9 D cy a P hI hno) gL_addTrail_X6_addTrail rfl ⟨rfl, rfl⟩ 0 rfl (by decide +kernel) ⟨Nat.le_of_ble_eq_true rfl, Nat.le_of_ble_eq_true rfl⟩ (GX_ok D cy) ((GX_ok D cy).2.2.2 _ _ _ _ (fun _ h => h.elim) ((GX_ok D cy).1 _ _ _ _ hS.2.1 hG)) hP (va_recv hK hP (ci := 5) (q0 := 0) rfl rfl) hl.1 rfl (Nat.le_of_ble_eq_true rfl) ⟨Nat.le_of_ble_eq_true rfl, Nat.le_of_ble_eq_true rfl⟩ dL_addTrail_3 (fun ce q9 H1 z1 o1 e1 v1 f1 => ?_)
    refine vx_catch (E := exN 2) (name := exN 2) hown (tableOf []) ⟨0, 8, 11, 13⟩ (tableOf []) (by rw [htab]; rfl) (fun z h => by cases h) (by decide) (by decide) (hts (.classLink RL 13 (exN 2)) (by decide +kernel)) (va_Nw.use rfl (hG.2.1 2 (by decide)).2.1) e1 v1 f1 ?_
    have hP1 := P_grow hP o1
    have hS1 := S_grow hS z1 o1
    refine lv_astore_n (lv' := [(2, .ref q9), (0, .ref (a 100)), (1, .ref o)]) hx hb dL_addTrail_11 rfl hl (by decide) rfl (fun ls hl => ?_)
    refine k_iconst hx hb dL_addTrail_12 ?_
    exact W.iret (v := iI 1) hx hb hr (fun t9 ht _ => ⟨⟨iI 1, (), rfl, ⟨1, rfl, rfl⟩, by rw [ht]; exact hP1, hD⟩, hS1.F ht⟩) hS1.2.2 dL_addTrail_13 hlocks
  exact hbody s.heap [] hP hS ls hl
set_option maxHeartbeats 4000000 in
set_option maxRecDepth 100000 in
theorem c_L_addPoint (l : Launch) (sz : Nat) (o : Nat) (f : Nat → Int64) (D : va_G) (cy : Nat → ClassId) (a : Nat → Nat) (P : Nat → Int → Int) (t f x y : Int) (hI : Inv (mO P)) (hsv : 0 ≤ P 50 1 ∧ P 50 1 ≤ 4) (h0 : 0 ≤ t) (h1 : t < P 0 0) (hrf : -2147483648 ≤ f ∧ f ≤ 2147483647) (hrx : -2147483648 ≤ x ∧ x ≤ 2147483647) (hry : -2147483648 ≤ y ∧ y ≤ 2147483647) (hpk : pointOK f x y) (hp12 : P 1 t < 12) (hnf : ¬ hasF (mO P) t f) : Met l yL_addPoint wsL_addPoint { frames := 6, cells := 0, slots := 0, locals := 137 } (mPre (GG D cy) D (ouW cy o f (obhsW cy a P)) sz ([.ref (a 100), .int (iI t), .int (iI f), .int (iI x), .int (iI y), .ref o] : List Value)) (kQi D (ouW cy o f (obhsW cy a P)) sz (fun u8 : ((Nat → Nat) × (Nat → Int → Int)) × (Nat → Int64) => ouW cy o u8.2 (obhsW cy (pgm a u8.1.1) u8.1.2)) (ouP (fun r9 u9 => r9 = posF (mO P) t f ∧ opd P u9.2 (mO (cAP P t f x y))))) 0 0 (va_A (ouW cy o f (obhsW cy a P)) sz) := by
  refine kMW_start (cc := cL_addPoint) (maxL := 7) (ret := (some .int)) (by decide) rfl (Nat.le_of_ble_eq_true rfl) ?_
  intro p e s m below meth c hx hb hr hlocks hml hts hown htab hA hG hP hD hS ls hl
  have hK := hG.1
  have hl : lv_has ls 7 [(0, .ref (a 100)), (1, .int (iI t)), (2, .int (iI f)), (3, .int (iI x)), (4, .int (iI y)), (5, .ref o)] := hl
  have hbody : ∀ (H : Heap) (locs : List Loc) (hP : va_P D vwCl (ouW cy o f (obhsW cy a P)) H) (hS : va_S (va_A (ouW cy o f (obhsW cy a P)) sz) s.heap H locs) (ls : Array Slot) (hl : lv_has ls 7 [(0, .ref (a 100)), (1, .int (iI t)), (2, .int (iI f)), (3, .int (iI x)), (4, .int (iI y)), (5, .ref o)]), W p l e { frames := 6, cells := 0, slots := 0, locals := 137 } s m ([.ref (a 100), .int (iI t), .int (iI f), .int (iI x), .int (iI y), .ref o] : List Value).toArray below meth c H locs 0 0 (MQ below (kQi D (ouW cy o f (obhsW cy a P)) sz (fun u8 : ((Nat → Nat) × (Nat → Int → Int)) × (Nat → Int64) => ouW cy o u8.2 (obhsW cy (pgm a u8.1.1) u8.1.2)) (ouP (fun r9 u9 => r9 = posF (mO P) t f ∧ opd P u9.2 (mO (cAP P t f x y))))) ([.ref (a 100), .int (iI t), .int (iI f), .int (iI x), .int (iI y), .ref o] : List Value).toArray s 0 0 (va_A (ouW cy o f (obhsW cy a P)) sz)) (F0 m 0 ls []) := by
    intro H locs hP hS ls hl
    refine lv_aload hx hb dL_addPoint_0 (lv_at hl 5 rfl) ?_
    refine k_iconst hx hb dL_addPoint_2 ?_
    refine lv_aload_n hx hb dL_addPoint_3 rfl (lv_at hl 0 rfl) ?_
    refine lv_iload_n hx hb dL_addPoint_4 rfl (lv_at hl 1 rfl) ?_
    refine lv_iload_n hx hb dL_addPoint_5 rfl (lv_at hl 2 rfl) ?_
    refine lv_iload_n hx hb dL_addPoint_6 rfl (lv_at hl 3 rfl) ?_
    refine lv_iload hx hb dL_addPoint_7 (lv_at hl 4 rfl) ?_
    have hPc := hP.sub (ws' := obhsW cy a P) [1, 2, 3, 4, 5, 6, 7, 8, 9, 10, 11, 12, 13, 14, 15, 16, 17, 18, 19, 20, 21, 22, 23, 24, 25, 26, 27, 28, 29, 30, 31, 32, 33, 34, 35, 36, 37, 38, 39, 40, 41, 42, 43, 44, 45, 46, 47, 48] rfl
    have hDc := hD.sub (ws' := obhsW cy a P) [1, 2, 3, 4, 5, 6, 7, 8, 9, 10, 11, 12, 13, 14, 15, 16, 17, 18, 19, 20, 21, 22, 23, 24, 25, 26, 27, 28, 29, 30, 31, 32, 33, 34, 35, 36, 37, 38, 39, 40, 41, 42, 43, 44, 45, 46, 47, 48] (by decide) rfl
    have hFc := va_free (wc := obhsW cy a P) hD hS hA [1, 2, 3, 4, 5, 6, 7, 8, 9, 10, 11, 12, 13, 14, 15, 16, 17, 18, 19, 20, 21, 22, 23, 24, 25, 26, 27, 28, 29, 30, 31, 32, 33, 34, 35, 36, 37, 38, 39, 40, 41, 42, 43, 44, 45, 46, 47, 48] rfl
    refine k_mui (k_runV (As := [.int (iI t), .int (iI f), .int (iI x), .int (iI y)]) (rest := [.int (iI 0), .ref o]) ⟨hx, hb, hml, hown, hts⟩ (c_X6_addPoint l D cy H.size a P t f x y hI hsv h0 h1 hrf hrx hry hpk hp12 hnf) gL_addPoint_X6_addPoint rfl ⟨rfl, rfl⟩ 4 rfl (by decide +kernel) ⟨Nat.le_of_ble_eq_true rfl, Nat.le_of_ble_eq_true rfl⟩ (GG_ok D cy) hG hS hFc hPc hDc (va_recv hK hP (ci := 5) (q0 := 1) rfl rfl) hl.1 rfl (Nat.le_of_ble_eq_true rfl) ⟨Nat.le_of_ble_eq_true rfl, Nat.le_of_ble_eq_true rfl⟩ dL_addPoint_9) hFc hS (fun r8 u8 H1 locs1 hpost hP1 hD1 hS1 hk1 => ?_)
    have hJ := va_join (wr := [(o, .inl (cy 4, 1, .inr (.inl f)))]) hP hD [1, 2, 3, 4, 5, 6, 7, 8, 9, 10, 11, 12, 13, 14, 15, 16, 17, 18, 19, 20, 21, 22, 23, 24, 25, 26, 27, 28, 29, 30, 31, 32, 33, 34, 35, 36, 37, 38, 39, 40, 41, 42, 43, 44, 45, 46, 47, 48] [0] rfl rfl (by decide) (by decide) hk1 hFc hP1 hD1
    obtain ⟨hP, hD⟩ := hJ
    have hS := hS1
    refine lv_i2l hx hb dL_addPoint_12 rfl ?_
    refine va_last hx hb hK hP hD hS 0 4 rfl rfl (i := iI 0) (vp_iI (by decide)) dL_addPoint_13 (fun H1 locs1 hP hD hS => ?_)
    refine lv_goto (tgt := 29) hx hb dL_addPoint_14 (by decide) ?_
    refine k_iconst hx hb dL_addPoint_29 ?_
    exact W.iret (v := iI 0) hx hb hr (fun t9 ht _ => ⟨⟨iI 0, (u8, _), rfl, ⟨0, rfl, rfl, r8, out_0 _ _, hpost⟩, by rw [ht]; exact hP, hD⟩, hS.F ht⟩) hS.2.2 dL_addPoint_30 hlocks
  exact hbody s.heap [] hP hS ls hl
set_option maxHeartbeats 4000000 in
set_option maxRecDepth 100000 in
theorem c_L_addPoint_t1 (l : Launch) (hl9 : l.stackTraces = false) (sz : Nat) (o : Nat) (D : va_G) (cy : Nat → ClassId) (a : Nat → Nat) (P : Nat → Int → Int) (t f x y : Int) (hI : Inv (mO P)) (hrt : -2147483648 ≤ t ∧ t ≤ 2147483647) (hrf : -2147483648 ≤ f ∧ f ≤ 2147483647) (hrx : -2147483648 ≤ x ∧ x ≤ 2147483647) (hry : -2147483648 ≤ y ∧ y ≤ 2147483647) (hno : ¬ (0 ≤ t ∧ t < P 0 0)) : Met l yL_addPoint wsL_addPoint { frames := 8, cells := 1, slots := 6, locals := 142 } (mPre (GX D cy) D (obplW cy a P) sz ([.ref (a 100), .int (iI t), .int (iI f), .int (iI x), .int (iI y), .ref o] : List Value)) (kQi D (obplW cy a P) sz (fun _ : Unit => obplW cy a P) (fun r _ => r = 1)) 1 6 (va_A (obplW cy a P) sz) := by
  refine kMW_start (cc := cL_addPoint) (maxL := 7) (ret := (some .int)) (by decide) rfl (Nat.le_of_ble_eq_true rfl) ?_
  intro p e s m below meth c hx hb hr hlocks hml hts hown htab hA hG hP hD hS ls hl
  have hK := hG.1.1.1
  have hl : lv_has ls 7 [(0, .ref (a 100)), (1, .int (iI t)), (2, .int (iI f)), (3, .int (iI x)), (4, .int (iI y)), (5, .ref o)] := hl
  have hbody : ∀ (H : Heap) (locs : List Loc) (hP : va_P D vwCl (obplW cy a P) H) (hS : va_S (va_A (obplW cy a P) sz) s.heap H locs) (ls : Array Slot) (hl : lv_has ls 7 [(0, .ref (a 100)), (1, .int (iI t)), (2, .int (iI f)), (3, .int (iI x)), (4, .int (iI y)), (5, .ref o)]), W p l e { frames := 8, cells := 1, slots := 6, locals := 142 } s m ([.ref (a 100), .int (iI t), .int (iI f), .int (iI x), .int (iI y), .ref o] : List Value).toArray below meth c H locs 0 0 (MQ below (kQi D (obplW cy a P) sz (fun _ : Unit => obplW cy a P) (fun r _ => r = 1)) ([.ref (a 100), .int (iI t), .int (iI f), .int (iI x), .int (iI y), .ref o] : List Value).toArray s 1 6 (va_A (obplW cy a P) sz)) (F0 m 0 ls []) := by
    intro H locs hP hS ls hl
    refine lv_aload hx hb dL_addPoint_0 (lv_at hl 5 rfl) ?_
    refine k_iconst hx hb dL_addPoint_2 ?_
    refine lv_aload_n hx hb dL_addPoint_3 rfl (lv_at hl 0 rfl) ?_
    refine lv_iload_n hx hb dL_addPoint_4 rfl (lv_at hl 1 rfl) ?_
    refine lv_iload_n hx hb dL_addPoint_5 rfl (lv_at hl 2 rfl) ?_
    refine lv_iload_n hx hb dL_addPoint_6 rfl (lv_at hl 3 rfl) ?_
    refine lv_iload hx hb dL_addPoint_7 (lv_at hl 4 rfl) ?_
    refine k_thV (As := [.int (iI t), .int (iI f), .int (iI x), .int (iI y)]) (rest := [.int (iI 0), .ref o]) ⟨hx, hb, hml, hown, hts⟩ (c_X6_addPoint_t1 l hl9 D cy a P t f x y hI hrt hrf hrx hry hno) gL_addPoint_X6_addPoint rfl ⟨rfl, rfl⟩ 4 rfl (by decide +kernel) ⟨Nat.le_of_ble_eq_true rfl, Nat.le_of_ble_eq_true rfl⟩ (GX_ok D cy) ((GX_ok D cy).2.2.2 _ _ _ _ (fun _ h => h.elim) ((GX_ok D cy).1 _ _ _ _ hS.2.1 hG)) hP (va_recv hK hP (ci := 5) (q0 := 0) rfl rfl) hl.1 rfl (Nat.le_of_ble_eq_true rfl) ⟨Nat.le_of_ble_eq_true rfl, Nat.le_of_ble_eq_true rfl⟩ dL_addPoint_9 (fun ce q9 H1 z1 o1 e1 v1 f1 => ?_)
    refine vx_catch (E := exN 0) (name := exN 0) hown (tableOf []) ⟨0, 14, 17, 19⟩ (tableOf [(0, 14, 21, 25), (0, 14, 25, 13)]) (by rw [htab]; rfl) (fun z h => by cases h) (by decide) (by decide) (hts (.classLink RL 19 (exN 0)) (by decide +kernel)) (va_Nw.use rfl (hG.2.1 0 (by decide)).2.1) e1 v1 f1 ?_
    have hP1 := P_grow hP o1
    have hS1 := S_grow hS z1 o1
    refine lv_astore (lv' := [(6, .ref q9), (0, .ref (a 100)), (1, .int (iI t)), (2, .int (iI f)), (3, .int (iI x)), (4, .int (iI y)), (5, .ref o)]) hx hb dL_addPoint_17 hl (by decide) rfl (fun ls hl => ?_)
    refine k_iconst hx hb dL_addPoint_19 ?_
    exact W.iret (v := iI 1) hx hb hr (fun t9 ht _ => ⟨⟨iI 1, (), rfl, ⟨1, rfl, rfl⟩, by rw [ht]; exact hP1, hD⟩, hS1.F ht⟩) hS1.2.2 dL_addPoint_20 hlocks
  exact hbody s.heap [] hP hS ls hl
set_option maxHeartbeats 4000000 in
set_option maxRecDepth 100000 in
theorem c_L_addPoint_t2 (l : Launch) (hl9 : l.stackTraces = false) (sz : Nat) (o : Nat) (D : va_G) (cy : Nat → ClassId) (a : Nat → Nat) (P : Nat → Int → Int) (t f x y : Int) (hI : Inv (mO P)) (h0 : 0 ≤ t) (h1 : t < P 0 0) (hrt : -2147483648 ≤ t ∧ t ≤ 2147483647) (hrf : -2147483648 ≤ f ∧ f ≤ 2147483647) (hrx : -2147483648 ≤ x ∧ x ≤ 2147483647) (hry : -2147483648 ≤ y ∧ y ≤ 2147483647) (hno : ¬ pointOK f x y) : Met l yL_addPoint wsL_addPoint { frames := 8, cells := 1, slots := 6, locals := 142 } (mPre (GX D cy) D (obplW cy a P) sz ([.ref (a 100), .int (iI t), .int (iI f), .int (iI x), .int (iI y), .ref o] : List Value)) (kQi D (obplW cy a P) sz (fun _ : Unit => obplW cy a P) (fun r _ => r = 2)) 1 6 (va_A (obplW cy a P) sz) := by
  refine kMW_start (cc := cL_addPoint) (maxL := 7) (ret := (some .int)) (by decide) rfl (Nat.le_of_ble_eq_true rfl) ?_
  intro p e s m below meth c hx hb hr hlocks hml hts hown htab hA hG hP hD hS ls hl
  have hK := hG.1.1.1
  have hl : lv_has ls 7 [(0, .ref (a 100)), (1, .int (iI t)), (2, .int (iI f)), (3, .int (iI x)), (4, .int (iI y)), (5, .ref o)] := hl
  have hbody : ∀ (H : Heap) (locs : List Loc) (hP : va_P D vwCl (obplW cy a P) H) (hS : va_S (va_A (obplW cy a P) sz) s.heap H locs) (ls : Array Slot) (hl : lv_has ls 7 [(0, .ref (a 100)), (1, .int (iI t)), (2, .int (iI f)), (3, .int (iI x)), (4, .int (iI y)), (5, .ref o)]), W p l e { frames := 8, cells := 1, slots := 6, locals := 142 } s m ([.ref (a 100), .int (iI t), .int (iI f), .int (iI x), .int (iI y), .ref o] : List Value).toArray below meth c H locs 0 0 (MQ below (kQi D (obplW cy a P) sz (fun _ : Unit => obplW cy a P) (fun r _ => r = 2)) ([.ref (a 100), .int (iI t), .int (iI f), .int (iI x), .int (iI y), .ref o] : List Value).toArray s 1 6 (va_A (obplW cy a P) sz)) (F0 m 0 ls []) := by
    intro H locs hP hS ls hl
    refine lv_aload hx hb dL_addPoint_0 (lv_at hl 5 rfl) ?_
    refine k_iconst hx hb dL_addPoint_2 ?_
    refine lv_aload_n hx hb dL_addPoint_3 rfl (lv_at hl 0 rfl) ?_
    refine lv_iload_n hx hb dL_addPoint_4 rfl (lv_at hl 1 rfl) ?_
    refine lv_iload_n hx hb dL_addPoint_5 rfl (lv_at hl 2 rfl) ?_
    refine lv_iload_n hx hb dL_addPoint_6 rfl (lv_at hl 3 rfl) ?_
    refine lv_iload hx hb dL_addPoint_7 (lv_at hl 4 rfl) ?_
    refine k_thV (As := [.int (iI t), .int (iI f), .int (iI x), .int (iI y)]) (rest := [.int (iI 0), .ref o]) ⟨hx, hb, hml, hown, hts⟩ (c_X6_addPoint_t2 l hl9 D cy a P t f x y hI h0 h1 hrt hrf hrx hry hno) gL_addPoint_X6_addPoint rfl ⟨rfl, rfl⟩ 4 rfl (by decide +kernel) ⟨Nat.le_of_ble_eq_true rfl, Nat.le_of_ble_eq_true rfl⟩ (GX_ok D cy) ((GX_ok D cy).2.2.2 _ _ _ _ (fun _ h => h.elim) ((GX_ok D cy).1 _ _ _ _ hS.2.1 hG)) hP (va_recv hK hP (ci := 5) (q0 := 0) rfl rfl) hl.1 rfl (Nat.le_of_ble_eq_true rfl) ⟨Nat.le_of_ble_eq_true rfl, Nat.le_of_ble_eq_true rfl⟩ dL_addPoint_9 (fun ce q9 H1 z1 o1 e1 v1 f1 => ?_)
    refine vx_catch (E := exN 1) (name := exN 1) hown (tableOf [(0, 14, 17, 19)]) ⟨0, 14, 21, 25⟩ (tableOf [(0, 14, 25, 13)]) (by rw [htab]; rfl) (fun z h => by
      rcases List.mem_cons.mp h with rfl | h
      · exact Or.inr ⟨by decide, exN 0, hts (.classLink RL 19 (exN 0)) (by decide +kernel), (hG.2.1 1 (by decide)).2.2 0 (by decide) (by decide)⟩
      cases h) (by decide) (by decide) (hts (.classLink RL 25 (exN 1)) (by decide +kernel)) (va_Nw.use rfl (hG.2.1 1 (by decide)).2.1) e1 v1 f1 ?_
    have hP1 := P_grow hP o1
    have hS1 := S_grow hS z1 o1
    refine lv_astore (lv' := [(6, .ref q9), (0, .ref (a 100)), (1, .int (iI t)), (2, .int (iI f)), (3, .int (iI x)), (4, .int (iI y)), (5, .ref o)]) hx hb dL_addPoint_21 hl (by decide) rfl (fun ls hl => ?_)
    refine k_iconst hx hb dL_addPoint_23 ?_
    exact W.iret (v := iI 2) hx hb hr (fun t9 ht _ => ⟨⟨iI 2, (), rfl, ⟨2, rfl, rfl⟩, by rw [ht]; exact hP1, hD⟩, hS1.F ht⟩) hS1.2.2 dL_addPoint_24 hlocks
  exact hbody s.heap [] hP hS ls hl
set_option maxHeartbeats 4000000 in
set_option maxRecDepth 100000 in
theorem c_L_addPoint_t3 (l : Launch) (hl9 : l.stackTraces = false) (sz : Nat) (o : Nat) (D : va_G) (cy : Nat → ClassId) (a : Nat → Nat) (P : Nat → Int → Int) (t f x y : Int) (hI : Inv (mO P)) (h0 : 0 ≤ t) (h1 : t < P 0 0) (hrt : -2147483648 ≤ t ∧ t ≤ 2147483647) (hrf : -2147483648 ≤ f ∧ f ≤ 2147483647) (hrx : -2147483648 ≤ x ∧ x ≤ 2147483647) (hry : -2147483648 ≤ y ∧ y ≤ 2147483647) (hpk : pointOK f x y) (hno : P 1 t = 12 ∨ hasF (mO P) t f) : Met l yL_addPoint wsL_addPoint { frames := 8, cells := 1, slots := 6, locals := 142 } (mPre (GX D cy) D (obplW cy a P) sz ([.ref (a 100), .int (iI t), .int (iI f), .int (iI x), .int (iI y), .ref o] : List Value)) (kQi D (obplW cy a P) sz (fun _ : Unit => obplW cy a P) (fun r _ => r = 3)) 1 6 (va_A (obplW cy a P) sz) := by
  refine kMW_start (cc := cL_addPoint) (maxL := 7) (ret := (some .int)) (by decide) rfl (Nat.le_of_ble_eq_true rfl) ?_
  intro p e s m below meth c hx hb hr hlocks hml hts hown htab hA hG hP hD hS ls hl
  have hK := hG.1.1.1
  have hl : lv_has ls 7 [(0, .ref (a 100)), (1, .int (iI t)), (2, .int (iI f)), (3, .int (iI x)), (4, .int (iI y)), (5, .ref o)] := hl
  have hbody : ∀ (H : Heap) (locs : List Loc) (hP : va_P D vwCl (obplW cy a P) H) (hS : va_S (va_A (obplW cy a P) sz) s.heap H locs) (ls : Array Slot) (hl : lv_has ls 7 [(0, .ref (a 100)), (1, .int (iI t)), (2, .int (iI f)), (3, .int (iI x)), (4, .int (iI y)), (5, .ref o)]), W p l e { frames := 8, cells := 1, slots := 6, locals := 142 } s m ([.ref (a 100), .int (iI t), .int (iI f), .int (iI x), .int (iI y), .ref o] : List Value).toArray below meth c H locs 0 0 (MQ below (kQi D (obplW cy a P) sz (fun _ : Unit => obplW cy a P) (fun r _ => r = 3)) ([.ref (a 100), .int (iI t), .int (iI f), .int (iI x), .int (iI y), .ref o] : List Value).toArray s 1 6 (va_A (obplW cy a P) sz)) (F0 m 0 ls []) := by
    intro H locs hP hS ls hl
    refine lv_aload hx hb dL_addPoint_0 (lv_at hl 5 rfl) ?_
    refine k_iconst hx hb dL_addPoint_2 ?_
    refine lv_aload_n hx hb dL_addPoint_3 rfl (lv_at hl 0 rfl) ?_
    refine lv_iload_n hx hb dL_addPoint_4 rfl (lv_at hl 1 rfl) ?_
    refine lv_iload_n hx hb dL_addPoint_5 rfl (lv_at hl 2 rfl) ?_
    refine lv_iload_n hx hb dL_addPoint_6 rfl (lv_at hl 3 rfl) ?_
    refine lv_iload hx hb dL_addPoint_7 (lv_at hl 4 rfl) ?_
    refine k_thV (As := [.int (iI t), .int (iI f), .int (iI x), .int (iI y)]) (rest := [.int (iI 0), .ref o]) ⟨hx, hb, hml, hown, hts⟩ (c_X6_addPoint_t3 l hl9 D cy a P t f x y hI h0 h1 hrt hrf hrx hry hpk hno) gL_addPoint_X6_addPoint rfl ⟨rfl, rfl⟩ 4 rfl (by decide +kernel) ⟨Nat.le_of_ble_eq_true rfl, Nat.le_of_ble_eq_true rfl⟩ (GX_ok D cy) ((GX_ok D cy).2.2.2 _ _ _ _ (fun _ h => h.elim) ((GX_ok D cy).1 _ _ _ _ hS.2.1 hG)) hP (va_recv hK hP (ci := 5) (q0 := 0) rfl rfl) hl.1 rfl (Nat.le_of_ble_eq_true rfl) ⟨Nat.le_of_ble_eq_true rfl, Nat.le_of_ble_eq_true rfl⟩ dL_addPoint_9 (fun ce q9 H1 z1 o1 e1 v1 f1 => ?_)
    refine vx_catch (E := exN 2) (name := exN 2) hown (tableOf [(0, 14, 17, 19), (0, 14, 21, 25)]) ⟨0, 14, 25, 13⟩ (tableOf []) (by rw [htab]; rfl) (fun z h => by
      rcases List.mem_cons.mp h with rfl | h
      · exact Or.inr ⟨by decide, exN 0, hts (.classLink RL 19 (exN 0)) (by decide +kernel), (hG.2.1 2 (by decide)).2.2 0 (by decide) (by decide)⟩
      rcases List.mem_cons.mp h with rfl | h
      · exact Or.inr ⟨by decide, exN 1, hts (.classLink RL 25 (exN 1)) (by decide +kernel), (hG.2.1 2 (by decide)).2.2 1 (by decide) (by decide)⟩
      cases h) (by decide) (by decide) (hts (.classLink RL 13 (exN 2)) (by decide +kernel)) (va_Nw.use rfl (hG.2.1 2 (by decide)).2.1) e1 v1 f1 ?_
    have hP1 := P_grow hP o1
    have hS1 := S_grow hS z1 o1
    refine lv_astore (lv' := [(6, .ref q9), (0, .ref (a 100)), (1, .int (iI t)), (2, .int (iI f)), (3, .int (iI x)), (4, .int (iI y)), (5, .ref o)]) hx hb dL_addPoint_25 hl (by decide) rfl (fun ls hl => ?_)
    refine k_iconst hx hb dL_addPoint_27 ?_
    exact W.iret (v := iI 3) hx hb hr (fun t9 ht _ => ⟨⟨iI 3, (), rfl, ⟨3, rfl, rfl⟩, by rw [ht]; exact hP1, hD⟩, hS1.F ht⟩) hS1.2.2 dL_addPoint_28 hlocks
  exact hbody s.heap [] hP hS ls hl
set_option maxHeartbeats 4000000 in
set_option maxRecDepth 100000 in
theorem c_L_point (l : Launch) (sz : Nat) (o : Nat) (f : Nat → Int64) (D : va_G) (cy : Nat → ClassId) (a : Nat → Nat) (P : Nat → Int → Int) (t q w : Int) (hI : Inv (mO P)) (h0 : 0 ≤ t) (h1 : t < P 0 0) (h2 : 0 ≤ q) (h3 : q < P 1 t) (hw : 0 ≤ w ∧ w ≤ 6) : Met l yL_point wsL_point { frames := 5, cells := 0, slots := 0, locals := 128 } (mPre (GG D cy) D (ouW cy o f (obplW cy a P)) sz ([.ref (a 100), .int (iI t), .int (iI q), .int (iI w), .ref o] : List Value)) (kQi D (ouW cy o f (obplW cy a P)) sz (fun u8 : Unit × (Nat → Int64) => ouW cy o u8.2 (obplW cy a P)) (ouP (fun r9 _ => (fun r => r = ptV (mO P) t q w) r9))) 0 0 (va_A (ouW cy o f (obplW cy a P)) sz) := by
  refine kMW_start (cc := cL_point) (maxL := 6) (ret := (some .int)) (by decide) rfl (Nat.le_of_ble_eq_true rfl) ?_
  intro p e s m below meth c hx hb hr hlocks hml hts hown htab hA hG hP hD hS ls hl
  have hK := hG.1
  have hl : lv_has ls 6 [(0, .ref (a 100)), (1, .int (iI t)), (2, .int (iI q)), (3, .int (iI w)), (4, .ref o)] := hl
  have hbody : ∀ (H : Heap) (locs : List Loc) (hP : va_P D vwCl (ouW cy o f (obplW cy a P)) H) (hS : va_S (va_A (ouW cy o f (obplW cy a P)) sz) s.heap H locs) (ls : Array Slot) (hl : lv_has ls 6 [(0, .ref (a 100)), (1, .int (iI t)), (2, .int (iI q)), (3, .int (iI w)), (4, .ref o)]), W p l e { frames := 5, cells := 0, slots := 0, locals := 128 } s m ([.ref (a 100), .int (iI t), .int (iI q), .int (iI w), .ref o] : List Value).toArray below meth c H locs 0 0 (MQ below (kQi D (ouW cy o f (obplW cy a P)) sz (fun u8 : Unit × (Nat → Int64) => ouW cy o u8.2 (obplW cy a P)) (ouP (fun r9 _ => (fun r => r = ptV (mO P) t q w) r9))) ([.ref (a 100), .int (iI t), .int (iI q), .int (iI w), .ref o] : List Value).toArray s 0 0 (va_A (ouW cy o f (obplW cy a P)) sz)) (F0 m 0 ls []) := by
    intro H locs hP hS ls hl
    refine lv_aload hx hb dL_point_0 (lv_at hl 4 rfl) ?_
    refine k_iconst hx hb dL_point_2 ?_
    refine lv_aload_n hx hb dL_point_3 rfl (lv_at hl 0 rfl) ?_
    refine lv_iload_n hx hb dL_point_4 rfl (lv_at hl 1 rfl) ?_
    refine lv_iload_n hx hb dL_point_5 rfl (lv_at hl 2 rfl) ?_
    refine lv_iload_n hx hb dL_point_6 rfl (lv_at hl 3 rfl) ?_
    refine k_roV (As := [.int (iI t), .int (iI q), .int (iI w)]) (rest := [.int (iI 0), .ref o]) ⟨hx, hb, hml, hown, hts⟩ (c_X6_point l D cy a P t q w hI h0 h1 h2 h3 hw) gL_point_X6_point rfl ⟨rfl, rfl⟩ 3 rfl (by decide +kernel) ⟨Nat.le_of_ble_eq_true rfl, Nat.le_of_ble_eq_true rfl⟩ (GG_ok D cy) ((GG_ok D cy).2.2.2 _ _ _ _ (fun _ h => h.elim) ((GG_ok D cy).1 _ _ _ _ hS.2.1 hG)) (hP.sub (ws' := obplW cy a P) [1, 2, 3, 4, 5, 6, 7, 8, 9, 10] rfl) (va_recv hK hP (ci := 5) (q0 := 1) rfl rfl) hl.1 rfl (Nat.le_of_ble_eq_true rfl) ⟨Nat.le_of_ble_eq_true rfl, Nat.le_of_ble_eq_true rfl⟩ dL_point_7 (fun r8 hpost => ?_)
    refine lv_i2l hx hb dL_point_10 rfl ?_
    refine va_last hx hb hK hP hD hS 0 4 rfl rfl (i := iI 0) (vp_iI (by decide)) dL_point_11 (fun H1 locs1 hP hD hS => ?_)
    refine lv_goto (tgt := 23) hx hb dL_point_12 (by decide) ?_
    refine k_iconst hx hb dL_point_23 ?_
    exact W.iret (v := iI 0) hx hb hr (fun t9 ht _ => ⟨⟨iI 0, ((), _), rfl, ⟨0, rfl, rfl, r8, out_0 _ _, hpost⟩, by rw [ht]; exact hP, hD⟩, hS.F ht⟩) hS.2.2 dL_point_24 hlocks
  exact hbody s.heap [] hP hS ls hl
set_option maxHeartbeats 4000000 in
set_option maxRecDepth 100000 in
theorem c_L_point_t1 (l : Launch) (hl9 : l.stackTraces = false) (sz : Nat) (o : Nat) (D : va_G) (cy : Nat → ClassId) (a : Nat → Nat) (P : Nat → Int → Int) (t q w : Int) (hI : Inv (mO P)) (hrt : -2147483648 ≤ t ∧ t ≤ 2147483647) (hrq : -2147483648 ≤ q ∧ q ≤ 2147483647) (hno : ¬ ((0 ≤ t ∧ t < P 0 0) ∧ 0 ≤ q ∧ q < P 1 t)) : Met l yL_point wsL_point { frames := 8, cells := 1, slots := 6, locals := 141 } (mPre (GX D cy) D (obplW cy a P) sz ([.ref (a 100), .int (iI t), .int (iI q), .int (iI w), .ref o] : List Value)) (kQi D (obplW cy a P) sz (fun _ : Unit => obplW cy a P) (fun r _ => r = 1)) 1 6 (va_A (obplW cy a P) sz) := by
  refine kMW_start (cc := cL_point) (maxL := 6) (ret := (some .int)) (by decide) rfl (Nat.le_of_ble_eq_true rfl) ?_
  intro p e s m below meth c hx hb hr hlocks hml hts hown htab hA hG hP hD hS ls hl
  have hK := hG.1.1.1
  have hl : lv_has ls 6 [(0, .ref (a 100)), (1, .int (iI t)), (2, .int (iI q)), (3, .int (iI w)), (4, .ref o)] := hl
  have hbody : ∀ (H : Heap) (locs : List Loc) (hP : va_P D vwCl (obplW cy a P) H) (hS : va_S (va_A (obplW cy a P) sz) s.heap H locs) (ls : Array Slot) (hl : lv_has ls 6 [(0, .ref (a 100)), (1, .int (iI t)), (2, .int (iI q)), (3, .int (iI w)), (4, .ref o)]), W p l e { frames := 8, cells := 1, slots := 6, locals := 141 } s m ([.ref (a 100), .int (iI t), .int (iI q), .int (iI w), .ref o] : List Value).toArray below meth c H locs 0 0 (MQ below (kQi D (obplW cy a P) sz (fun _ : Unit => obplW cy a P) (fun r _ => r = 1)) ([.ref (a 100), .int (iI t), .int (iI q), .int (iI w), .ref o] : List Value).toArray s 1 6 (va_A (obplW cy a P) sz)) (F0 m 0 ls []) := by
    intro H locs hP hS ls hl
    refine lv_aload hx hb dL_point_0 (lv_at hl 4 rfl) ?_
    refine k_iconst hx hb dL_point_2 ?_
    refine lv_aload_n hx hb dL_point_3 rfl (lv_at hl 0 rfl) ?_
    refine lv_iload_n hx hb dL_point_4 rfl (lv_at hl 1 rfl) ?_
    refine lv_iload_n hx hb dL_point_5 rfl (lv_at hl 2 rfl) ?_
    refine lv_iload_n hx hb dL_point_6 rfl (lv_at hl 3 rfl) ?_
    refine k_thV (As := [.int (iI t), .int (iI q), .int (iI w)]) (rest := [.int (iI 0), .ref o]) ⟨hx, hb, hml, hown, hts⟩ (c_X6_point_t1 l hl9 D cy a P t q w hI hrt hrq hno) gL_point_X6_point rfl ⟨rfl, rfl⟩ 3 rfl (by decide +kernel) ⟨Nat.le_of_ble_eq_true rfl, Nat.le_of_ble_eq_true rfl⟩ (GX_ok D cy) ((GX_ok D cy).2.2.2 _ _ _ _ (fun _ h => h.elim) ((GX_ok D cy).1 _ _ _ _ hS.2.1 hG)) hP (va_recv hK hP (ci := 5) (q0 := 0) rfl rfl) hl.1 rfl (Nat.le_of_ble_eq_true rfl) ⟨Nat.le_of_ble_eq_true rfl, Nat.le_of_ble_eq_true rfl⟩ dL_point_7 (fun ce q9 H1 z1 o1 e1 v1 f1 => ?_)
    refine vx_catch (E := exN 0) (name := exN 0) hown (tableOf []) ⟨0, 12, 15, 19⟩ (tableOf [(0, 12, 19, 25)]) (by rw [htab]; rfl) (fun z h => by cases h) (by decide) (by decide) (hts (.classLink RL 19 (exN 0)) (by decide +kernel)) (va_Nw.use rfl (hG.2.1 0 (by decide)).2.1) e1 v1 f1 ?_
    have hP1 := P_grow hP o1
    have hS1 := S_grow hS z1 o1
    refine lv_astore (lv' := [(5, .ref q9), (0, .ref (a 100)), (1, .int (iI t)), (2, .int (iI q)), (3, .int (iI w)), (4, .ref o)]) hx hb dL_point_15 hl (by decide) rfl (fun ls hl => ?_)
    refine k_iconst hx hb dL_point_17 ?_
    exact W.iret (v := iI 1) hx hb hr (fun t9 ht _ => ⟨⟨iI 1, (), rfl, ⟨1, rfl, rfl⟩, by rw [ht]; exact hP1, hD⟩, hS1.F ht⟩) hS1.2.2 dL_point_18 hlocks
  exact hbody s.heap [] hP hS ls hl
set_option maxHeartbeats 4000000 in
set_option maxRecDepth 100000 in
theorem c_L_point_t2 (l : Launch) (hl9 : l.stackTraces = false) (sz : Nat) (o : Nat) (D : va_G) (cy : Nat → ClassId) (a : Nat → Nat) (P : Nat → Int → Int) (t q w : Int) (hI : Inv (mO P)) (h0 : 0 ≤ t) (h1 : t < P 0 0) (h2 : 0 ≤ q) (h3 : q < P 1 t) (hrw : -2147483648 ≤ w ∧ w ≤ 2147483647) (hno : ¬ (0 ≤ w ∧ w ≤ 6)) : Met l yL_point wsL_point { frames := 8, cells := 1, slots := 6, locals := 141 } (mPre (GX D cy) D (obplW cy a P) sz ([.ref (a 100), .int (iI t), .int (iI q), .int (iI w), .ref o] : List Value)) (kQi D (obplW cy a P) sz (fun _ : Unit => obplW cy a P) (fun r _ => r = 2)) 1 6 (va_A (obplW cy a P) sz) := by
  refine kMW_start (cc := cL_point) (maxL := 6) (ret := (some .int)) (by decide) rfl (Nat.le_of_ble_eq_true rfl) ?_
  intro p e s m below meth c hx hb hr hlocks hml hts hown htab hA hG hP hD hS ls hl
  have hK := hG.1.1.1
  have hl : lv_has ls 6 [(0, .ref (a 100)), (1, .int (iI t)), (2, .int (iI q)), (3, .int (iI w)), (4, .ref o)] := hl
  have hbody : ∀ (H : Heap) (locs : List Loc) (hP : va_P D vwCl (obplW cy a P) H) (hS : va_S (va_A (obplW cy a P) sz) s.heap H locs) (ls : Array Slot) (hl : lv_has ls 6 [(0, .ref (a 100)), (1, .int (iI t)), (2, .int (iI q)), (3, .int (iI w)), (4, .ref o)]), W p l e { frames := 8, cells := 1, slots := 6, locals := 141 } s m ([.ref (a 100), .int (iI t), .int (iI q), .int (iI w), .ref o] : List Value).toArray below meth c H locs 0 0 (MQ below (kQi D (obplW cy a P) sz (fun _ : Unit => obplW cy a P) (fun r _ => r = 2)) ([.ref (a 100), .int (iI t), .int (iI q), .int (iI w), .ref o] : List Value).toArray s 1 6 (va_A (obplW cy a P) sz)) (F0 m 0 ls []) := by
    intro H locs hP hS ls hl
    refine lv_aload hx hb dL_point_0 (lv_at hl 4 rfl) ?_
    refine k_iconst hx hb dL_point_2 ?_
    refine lv_aload_n hx hb dL_point_3 rfl (lv_at hl 0 rfl) ?_
    refine lv_iload_n hx hb dL_point_4 rfl (lv_at hl 1 rfl) ?_
    refine lv_iload_n hx hb dL_point_5 rfl (lv_at hl 2 rfl) ?_
    refine lv_iload_n hx hb dL_point_6 rfl (lv_at hl 3 rfl) ?_
    refine k_thV (As := [.int (iI t), .int (iI q), .int (iI w)]) (rest := [.int (iI 0), .ref o]) ⟨hx, hb, hml, hown, hts⟩ (c_X6_point_t2 l hl9 D cy a P t q w hI h0 h1 h2 h3 hrw hno) gL_point_X6_point rfl ⟨rfl, rfl⟩ 3 rfl (by decide +kernel) ⟨Nat.le_of_ble_eq_true rfl, Nat.le_of_ble_eq_true rfl⟩ (GX_ok D cy) ((GX_ok D cy).2.2.2 _ _ _ _ (fun _ h => h.elim) ((GX_ok D cy).1 _ _ _ _ hS.2.1 hG)) hP (va_recv hK hP (ci := 5) (q0 := 0) rfl rfl) hl.1 rfl (Nat.le_of_ble_eq_true rfl) ⟨Nat.le_of_ble_eq_true rfl, Nat.le_of_ble_eq_true rfl⟩ dL_point_7 (fun ce q9 H1 z1 o1 e1 v1 f1 => ?_)
    refine vx_catch (E := exN 1) (name := exN 1) hown (tableOf [(0, 12, 15, 19)]) ⟨0, 12, 19, 25⟩ (tableOf []) (by rw [htab]; rfl) (fun z h => by
      rcases List.mem_cons.mp h with rfl | h
      · exact Or.inr ⟨by decide, exN 0, hts (.classLink RL 19 (exN 0)) (by decide +kernel), (hG.2.1 1 (by decide)).2.2 0 (by decide) (by decide)⟩
      cases h) (by decide) (by decide) (hts (.classLink RL 25 (exN 1)) (by decide +kernel)) (va_Nw.use rfl (hG.2.1 1 (by decide)).2.1) e1 v1 f1 ?_
    have hP1 := P_grow hP o1
    have hS1 := S_grow hS z1 o1
    refine lv_astore (lv' := [(5, .ref q9), (0, .ref (a 100)), (1, .int (iI t)), (2, .int (iI q)), (3, .int (iI w)), (4, .ref o)]) hx hb dL_point_19 hl (by decide) rfl (fun ls hl => ?_)
    refine k_iconst hx hb dL_point_21 ?_
    exact W.iret (v := iI 2) hx hb hr (fun t9 ht _ => ⟨⟨iI 2, (), rfl, ⟨2, rfl, rfl⟩, by rw [ht]; exact hP1, hD⟩, hS1.F ht⟩) hS1.2.2 dL_point_22 hlocks
  exact hbody s.heap [] hP hS ls hl
set_option maxHeartbeats 4000000 in
set_option maxRecDepth 100000 in
theorem c_L_trail (l : Launch) (sz : Nat) (o : Nat) (f : Nat → Int64) (D : va_G) (cy : Nat → ClassId) (a : Nat → Nat) (P : Nat → Int → Int) (t w : Int) (hI : Inv (mO P)) (hl0 : P 100 6 = 0 ∨ P 100 6 = 1) (hl1 : P 100 6 = 1 → lkd P) (h0 : 0 ≤ t) (h1 : t < P 0 0) (hw : 0 ≤ w ∧ w ≤ 8) : Met l yL_trail wsL_trail { frames := 7, cells := 0, slots := 0, locals := 178 } (mPre (GG D cy) D (ouW cy o f (oblkW cy a P)) sz ([.ref (a 100), .int (iI t), .int (iI w), .ref o] : List Value)) (kQi D (ouW cy o f (oblkW cy a P)) sz (fun u8 : (Nat → Int → Int) × (Nat → Int64) => ouW cy o u8.2 (oblkW cy a u8.1)) (ouP (fun r9 u9 => ∃ (zZ : Nat → Int → Int), (figOK (mO P) zZ (P 0 0) ∧ maOK (mO P) (P 8 8) (zZ 31) (zZ 32) (zZ 33) ∧ zZ 30 3 = (mat (mO P) (P 8 8)).2.2.1 ∧ zZ 30 4 = (mat (mO P) (P 8 8)).2.2.2) ∧ (r9 = trV (mO P) (mat (mO P) (P 8 8)).1 t w) ∧ (u9 = (upr (upr (upr (upr (upr (upr (upr (upr (upr (upr (upr (upr (upr (upr (upr (upr P 21 (zZ 21)) 22 (zZ 22)) 23 (zZ 23)) 24 (zZ 24)) 25 (zZ 25)) 26 (zZ 26)) 27 (zZ 27)) 28 (zZ 28)) 30 (zZ 30)) 31 (zZ 31)) 32 (zZ 32)) 33 (zZ 33)) 34 (zZ 34)) 35 (zZ 35)) 36 (zZ 36)) 100 (ups (P 100) 6 1)))))) 0 0 (va_A (ouW cy o f (oblkW cy a P)) sz) := by
  refine kMW_start (cc := cL_trail) (maxL := 5) (ret := (some .int)) (by decide) rfl (Nat.le_of_ble_eq_true rfl) ?_
  intro p e s m below meth c hx hb hr hlocks hml hts hown htab hA hG hP hD hS ls hl
  have hK := hG.1
  have hl : lv_has ls 5 [(0, .ref (a 100)), (1, .int (iI t)), (2, .int (iI w)), (3, .ref o)] := hl
  have hbody : ∀ (H : Heap) (locs : List Loc) (hP : va_P D vwCl (ouW cy o f (oblkW cy a P)) H) (hS : va_S (va_A (ouW cy o f (oblkW cy a P)) sz) s.heap H locs) (ls : Array Slot) (hl : lv_has ls 5 [(0, .ref (a 100)), (1, .int (iI t)), (2, .int (iI w)), (3, .ref o)]), W p l e { frames := 7, cells := 0, slots := 0, locals := 178 } s m ([.ref (a 100), .int (iI t), .int (iI w), .ref o] : List Value).toArray below meth c H locs 0 0 (MQ below (kQi D (ouW cy o f (oblkW cy a P)) sz (fun u8 : (Nat → Int → Int) × (Nat → Int64) => ouW cy o u8.2 (oblkW cy a u8.1)) (ouP (fun r9 u9 => ∃ (zZ : Nat → Int → Int), (figOK (mO P) zZ (P 0 0) ∧ maOK (mO P) (P 8 8) (zZ 31) (zZ 32) (zZ 33) ∧ zZ 30 3 = (mat (mO P) (P 8 8)).2.2.1 ∧ zZ 30 4 = (mat (mO P) (P 8 8)).2.2.2) ∧ (r9 = trV (mO P) (mat (mO P) (P 8 8)).1 t w) ∧ (u9 = (upr (upr (upr (upr (upr (upr (upr (upr (upr (upr (upr (upr (upr (upr (upr (upr P 21 (zZ 21)) 22 (zZ 22)) 23 (zZ 23)) 24 (zZ 24)) 25 (zZ 25)) 26 (zZ 26)) 27 (zZ 27)) 28 (zZ 28)) 30 (zZ 30)) 31 (zZ 31)) 32 (zZ 32)) 33 (zZ 33)) 34 (zZ 34)) 35 (zZ 35)) 36 (zZ 36)) 100 (ups (P 100) 6 1)))))) ([.ref (a 100), .int (iI t), .int (iI w), .ref o] : List Value).toArray s 0 0 (va_A (ouW cy o f (oblkW cy a P)) sz)) (F0 m 0 ls []) := by
    intro H locs hP hS ls hl
    refine lv_aload_n hx hb dL_trail_0 rfl (lv_at hl 3 rfl) ?_
    refine k_iconst hx hb dL_trail_1 ?_
    refine lv_aload_n hx hb dL_trail_2 rfl (lv_at hl 0 rfl) ?_
    refine lv_iload_n hx hb dL_trail_3 rfl (lv_at hl 1 rfl) ?_
    refine lv_iload_n hx hb dL_trail_4 rfl (lv_at hl 2 rfl) ?_
    have hPc := hP.sub (ws' := oblkW cy a P) [1, 2, 3, 4, 5, 6, 7, 8, 9, 10, 11, 12, 13, 14, 15, 16, 17, 18, 19, 20, 21, 22, 23, 24, 25, 26] rfl
    have hDc := hD.sub (ws' := oblkW cy a P) [1, 2, 3, 4, 5, 6, 7, 8, 9, 10, 11, 12, 13, 14, 15, 16, 17, 18, 19, 20, 21, 22, 23, 24, 25, 26] (by decide) rfl
    have hFc := va_free (wc := oblkW cy a P) hD hS hA [1, 2, 3, 4, 5, 6, 7, 8, 9, 10, 11, 12, 13, 14, 15, 16, 17, 18, 19, 20, 21, 22, 23, 24, 25, 26] rfl
    refine k_mui (k_runV (As := [.int (iI t), .int (iI w)]) (rest := [.int (iI 0), .ref o]) ⟨hx, hb, hml, hown, hts⟩ (c_X6_trail l D cy H.size a P t w hI hl0 hl1 h0 h1 hw) gL_trail_X6_trail rfl ⟨rfl, rfl⟩ 2 rfl (by decide +kernel) ⟨Nat.le_of_ble_eq_true rfl, Nat.le_of_ble_eq_true rfl⟩ (GG_ok D cy) hG hS hFc hPc hDc (va_recv hK hP (ci := 5) (q0 := 1) rfl rfl) hl.1 rfl (Nat.le_of_ble_eq_true rfl) ⟨Nat.le_of_ble_eq_true rfl, Nat.le_of_ble_eq_true rfl⟩ dL_trail_5) hFc hS (fun r8 u8 H1 locs1 hpost hP1 hD1 hS1 hk1 => ?_)
    have hJ := va_join (wr := [(o, .inl (cy 4, 1, .inr (.inl f)))]) hP hD [1, 2, 3, 4, 5, 6, 7, 8, 9, 10, 11, 12, 13, 14, 15, 16, 17, 18, 19, 20, 21, 22, 23, 24, 25, 26] [0] rfl rfl (by decide) (by decide) hk1 hFc hP1 hD1
    obtain ⟨hP, hD⟩ := hJ
    have hS := hS1
    refine lv_i2l hx hb dL_trail_8 rfl ?_
    refine va_last hx hb hK hP hD hS 0 4 rfl rfl (i := iI 0) (vp_iI (by decide)) dL_trail_9 (fun H1 locs1 hP hD hS => ?_)
    refine lv_goto (tgt := 21) hx hb dL_trail_10 (by decide) ?_
    refine k_iconst hx hb dL_trail_21 ?_
    exact W.iret (v := iI 0) hx hb hr (fun t9 ht _ => ⟨⟨iI 0, (u8, _), rfl, ⟨0, rfl, rfl, r8, out_0 _ _, hpost⟩, by rw [ht]; exact hP, hD⟩, hS.F ht⟩) hS.2.2 dL_trail_22 hlocks
  exact hbody s.heap [] hP hS ls hl
set_option maxHeartbeats 4000000 in
set_option maxRecDepth 100000 in
theorem c_L_trail_t1 (l : Launch) (hl9 : l.stackTraces = false) (sz : Nat) (o : Nat) (D : va_G) (cy : Nat → ClassId) (a : Nat → Nat) (P : Nat → Int → Int) (t w : Int) (hI : Inv (mO P)) (hrt : -2147483648 ≤ t ∧ t ≤ 2147483647) (hno : ¬ (0 ≤ t ∧ t < P 0 0)) : Met l yL_trail wsL_trail { frames := 8, cells := 1, slots := 6, locals := 140 } (mPre (GX D cy) D (obplW cy a P) sz ([.ref (a 100), .int (iI t), .int (iI w), .ref o] : List Value)) (kQi D (obplW cy a P) sz (fun _ : Unit => obplW cy a P) (fun r _ => r = 1)) 1 6 (va_A (obplW cy a P) sz) := by
  refine kMW_start (cc := cL_trail) (maxL := 5) (ret := (some .int)) (by decide) rfl (Nat.le_of_ble_eq_true rfl) ?_
  intro p e s m below meth c hx hb hr hlocks hml hts hown htab hA hG hP hD hS ls hl
  have hK := hG.1.1.1
  have hl : lv_has ls 5 [(0, .ref (a 100)), (1, .int (iI t)), (2, .int (iI w)), (3, .ref o)] := hl
  have hbody : ∀ (H : Heap) (locs : List Loc) (hP : va_P D vwCl (obplW cy a P) H) (hS : va_S (va_A (obplW cy a P) sz) s.heap H locs) (ls : Array Slot) (hl : lv_has ls 5 [(0, .ref (a 100)), (1, .int (iI t)), (2, .int (iI w)), (3, .ref o)]), W p l e { frames := 8, cells := 1, slots := 6, locals := 140 } s m ([.ref (a 100), .int (iI t), .int (iI w), .ref o] : List Value).toArray below meth c H locs 0 0 (MQ below (kQi D (obplW cy a P) sz (fun _ : Unit => obplW cy a P) (fun r _ => r = 1)) ([.ref (a 100), .int (iI t), .int (iI w), .ref o] : List Value).toArray s 1 6 (va_A (obplW cy a P) sz)) (F0 m 0 ls []) := by
    intro H locs hP hS ls hl
    refine lv_aload_n hx hb dL_trail_0 rfl (lv_at hl 3 rfl) ?_
    refine k_iconst hx hb dL_trail_1 ?_
    refine lv_aload_n hx hb dL_trail_2 rfl (lv_at hl 0 rfl) ?_
    refine lv_iload_n hx hb dL_trail_3 rfl (lv_at hl 1 rfl) ?_
    refine lv_iload_n hx hb dL_trail_4 rfl (lv_at hl 2 rfl) ?_
    refine k_thV (As := [.int (iI t), .int (iI w)]) (rest := [.int (iI 0), .ref o]) ⟨hx, hb, hml, hown, hts⟩ (c_X6_trail_t1 l hl9 D cy a P t w hI hrt hno) gL_trail_X6_trail rfl ⟨rfl, rfl⟩ 2 rfl (by decide +kernel) ⟨Nat.le_of_ble_eq_true rfl, Nat.le_of_ble_eq_true rfl⟩ (GX_ok D cy) ((GX_ok D cy).2.2.2 _ _ _ _ (fun _ h => h.elim) ((GX_ok D cy).1 _ _ _ _ hS.2.1 hG)) hP (va_recv hK hP (ci := 5) (q0 := 0) rfl rfl) hl.1 rfl (Nat.le_of_ble_eq_true rfl) ⟨Nat.le_of_ble_eq_true rfl, Nat.le_of_ble_eq_true rfl⟩ dL_trail_5 (fun ce q9 H1 z1 o1 e1 v1 f1 => ?_)
    refine vx_catch (E := exN 0) (name := exN 0) hown (tableOf []) ⟨0, 10, 13, 19⟩ (tableOf [(0, 10, 17, 25)]) (by rw [htab]; rfl) (fun z h => by cases h) (by decide) (by decide) (hts (.classLink RL 19 (exN 0)) (by decide +kernel)) (va_Nw.use rfl (hG.2.1 0 (by decide)).2.1) e1 v1 f1 ?_
    have hP1 := P_grow hP o1
    have hS1 := S_grow hS z1 o1
    refine lv_astore (lv' := [(4, .ref q9), (0, .ref (a 100)), (1, .int (iI t)), (2, .int (iI w)), (3, .ref o)]) hx hb dL_trail_13 hl (by decide) rfl (fun ls hl => ?_)
    refine k_iconst hx hb dL_trail_15 ?_
    exact W.iret (v := iI 1) hx hb hr (fun t9 ht _ => ⟨⟨iI 1, (), rfl, ⟨1, rfl, rfl⟩, by rw [ht]; exact hP1, hD⟩, hS1.F ht⟩) hS1.2.2 dL_trail_16 hlocks
  exact hbody s.heap [] hP hS ls hl
set_option maxHeartbeats 4000000 in
set_option maxRecDepth 100000 in
theorem c_L_trail_t2 (l : Launch) (hl9 : l.stackTraces = false) (sz : Nat) (o : Nat) (D : va_G) (cy : Nat → ClassId) (a : Nat → Nat) (P : Nat → Int → Int) (t w : Int) (hI : Inv (mO P)) (h0 : 0 ≤ t) (h1 : t < P 0 0) (hrw : -2147483648 ≤ w ∧ w ≤ 2147483647) (hno : ¬ (0 ≤ w ∧ w ≤ 8)) : Met l yL_trail wsL_trail { frames := 8, cells := 1, slots := 6, locals := 140 } (mPre (GX D cy) D (obplW cy a P) sz ([.ref (a 100), .int (iI t), .int (iI w), .ref o] : List Value)) (kQi D (obplW cy a P) sz (fun _ : Unit => obplW cy a P) (fun r _ => r = 2)) 1 6 (va_A (obplW cy a P) sz) := by
  refine kMW_start (cc := cL_trail) (maxL := 5) (ret := (some .int)) (by decide) rfl (Nat.le_of_ble_eq_true rfl) ?_
  intro p e s m below meth c hx hb hr hlocks hml hts hown htab hA hG hP hD hS ls hl
  have hK := hG.1.1.1
  have hl : lv_has ls 5 [(0, .ref (a 100)), (1, .int (iI t)), (2, .int (iI w)), (3, .ref o)] := hl
  have hbody : ∀ (H : Heap) (locs : List Loc) (hP : va_P D vwCl (obplW cy a P) H) (hS : va_S (va_A (obplW cy a P) sz) s.heap H locs) (ls : Array Slot) (hl : lv_has ls 5 [(0, .ref (a 100)), (1, .int (iI t)), (2, .int (iI w)), (3, .ref o)]), W p l e { frames := 8, cells := 1, slots := 6, locals := 140 } s m ([.ref (a 100), .int (iI t), .int (iI w), .ref o] : List Value).toArray below meth c H locs 0 0 (MQ below (kQi D (obplW cy a P) sz (fun _ : Unit => obplW cy a P) (fun r _ => r = 2)) ([.ref (a 100), .int (iI t), .int (iI w), .ref o] : List Value).toArray s 1 6 (va_A (obplW cy a P) sz)) (F0 m 0 ls []) := by
    intro H locs hP hS ls hl
    refine lv_aload_n hx hb dL_trail_0 rfl (lv_at hl 3 rfl) ?_
    refine k_iconst hx hb dL_trail_1 ?_
    refine lv_aload_n hx hb dL_trail_2 rfl (lv_at hl 0 rfl) ?_
    refine lv_iload_n hx hb dL_trail_3 rfl (lv_at hl 1 rfl) ?_
    refine lv_iload_n hx hb dL_trail_4 rfl (lv_at hl 2 rfl) ?_
    refine k_thV (As := [.int (iI t), .int (iI w)]) (rest := [.int (iI 0), .ref o]) ⟨hx, hb, hml, hown, hts⟩ (c_X6_trail_t2 l hl9 D cy a P t w hI h0 h1 hrw hno) gL_trail_X6_trail rfl ⟨rfl, rfl⟩ 2 rfl (by decide +kernel) ⟨Nat.le_of_ble_eq_true rfl, Nat.le_of_ble_eq_true rfl⟩ (GX_ok D cy) ((GX_ok D cy).2.2.2 _ _ _ _ (fun _ h => h.elim) ((GX_ok D cy).1 _ _ _ _ hS.2.1 hG)) hP (va_recv hK hP (ci := 5) (q0 := 0) rfl rfl) hl.1 rfl (Nat.le_of_ble_eq_true rfl) ⟨Nat.le_of_ble_eq_true rfl, Nat.le_of_ble_eq_true rfl⟩ dL_trail_5 (fun ce q9 H1 z1 o1 e1 v1 f1 => ?_)
    refine vx_catch (E := exN 1) (name := exN 1) hown (tableOf [(0, 10, 13, 19)]) ⟨0, 10, 17, 25⟩ (tableOf []) (by rw [htab]; rfl) (fun z h => by
      rcases List.mem_cons.mp h with rfl | h
      · exact Or.inr ⟨by decide, exN 0, hts (.classLink RL 19 (exN 0)) (by decide +kernel), (hG.2.1 1 (by decide)).2.2 0 (by decide) (by decide)⟩
      cases h) (by decide) (by decide) (hts (.classLink RL 25 (exN 1)) (by decide +kernel)) (va_Nw.use rfl (hG.2.1 1 (by decide)).2.1) e1 v1 f1 ?_
    have hP1 := P_grow hP o1
    have hS1 := S_grow hS z1 o1
    refine lv_astore (lv' := [(4, .ref q9), (0, .ref (a 100)), (1, .int (iI t)), (2, .int (iI w)), (3, .ref o)]) hx hb dL_trail_17 hl (by decide) rfl (fun ls hl => ?_)
    refine k_iconst hx hb dL_trail_19 ?_
    exact W.iret (v := iI 2) hx hb hr (fun t9 ht _ => ⟨⟨iI 2, (), rfl, ⟨2, rfl, rfl⟩, by rw [ht]; exact hP1, hD⟩, hS1.F ht⟩) hS1.2.2 dL_trail_20 hlocks
  exact hbody s.heap [] hP hS ls hl
