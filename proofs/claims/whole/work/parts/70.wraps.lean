set_option maxHeartbeats 4000000 in
set_option maxRecDepth 100000 in
theorem c_L_addTrail (l : Launch) (sz : Nat) (o : Nat) (fO : Nat → Int64) (D : va_G) (cy : Nat → ClassId) (a : Nat → Nat) (P : Nat → Int → Int) (hI : Inv (mO P)) (hsv : 0 ≤ P 50 1 ∧ P 50 1 ≤ 4) (hok : P 0 0 < 12) : Met l yL_addTrail wsL_addTrail { frames := 6, cells := 0, slots := 0, locals := 133 } (mPre (GG D cy) D (ouW cy o fO (obhsW cy a P)) sz ([.ref (a 100), .ref o] : List Value)) (kQi D (ouW cy o fO (obhsW cy a P)) sz (fun u8 : ((Nat → Nat) × (Nat → Int → Int)) × (Nat → Int64) => ouW cy o u8.2 (obhsW cy (pgm a u8.1.1) u8.1.2)) (ouP (fun r9 u9 => r9 = P 0 0 ∧ opd P u9.2 (mO (cAT P))))) 0 0 (va_A (ouW cy o fO (obhsW cy a P)) sz) := by
  refine kMW_start (cc := cL_addTrail) (maxL := 3) (ret := (some .int)) (by decide) rfl (Nat.le_of_ble_eq_true rfl) ?_
  intro p e s m below meth c hx hb hr hlocks hml hts hown htab hA hG hP hD hS ls hl
  have hK := hG.1
  have hl : lv_has ls 3 [(0, .ref (a 100)), (1, .ref o)] := hl
  have hbody : ∀ (H : Heap) (locs : List Loc) (hP : va_P D vwCl (ouW cy o fO (obhsW cy a P)) H) (hS : va_S (va_A (ouW cy o fO (obhsW cy a P)) sz) s.heap H locs) (ls : Array Slot) (hl : lv_has ls 3 [(0, .ref (a 100)), (1, .ref o)]), W p l e { frames := 6, cells := 0, slots := 0, locals := 133 } s m ([.ref (a 100), .ref o] : List Value).toArray below meth c H locs 0 0 (MQ below (kQi D (ouW cy o fO (obhsW cy a P)) sz (fun u8 : ((Nat → Nat) × (Nat → Int → Int)) × (Nat → Int64) => ouW cy o u8.2 (obhsW cy (pgm a u8.1.1) u8.1.2)) (ouP (fun r9 u9 => r9 = P 0 0 ∧ opd P u9.2 (mO (cAT P))))) ([.ref (a 100), .ref o] : List Value).toArray s 0 0 (va_A (ouW cy o fO (obhsW cy a P)) sz)) (F0 m 0 ls []) := by
    intro H locs hP hS ls hl
    refine lv_aload_n hx hb dL_addTrail_0 rfl (lv_at hl 1 rfl) ?_
    refine k_iconst hx hb dL_addTrail_1 ?_
    refine lv_aload_n hx hb dL_addTrail_2 rfl (lv_at hl 0 rfl) ?_
    have hPc := hP.sub (ws' := obhsW cy a P) [1, 2, 3, 4, 5, 6, 7, 8, 9, 10, 11, 12, 13, 14, 15, 16, 17, 18, 19, 20, 21, 22, 23, 24, 25, 26, 27, 28, 29, 30, 31, 32, 33, 34, 35, 36, 37, 38, 39, 40, 41, 42, 43, 44, 45, 46, 47, 48] rfl
    have hDc := hD.sub (ws' := obhsW cy a P) [1, 2, 3, 4, 5, 6, 7, 8, 9, 10, 11, 12, 13, 14, 15, 16, 17, 18, 19, 20, 21, 22, 23, 24, 25, 26, 27, 28, 29, 30, 31, 32, 33, 34, 35, 36, 37, 38, 39, 40, 41, 42, 43, 44, 45, 46, 47, 48] (by decide) rfl
    have hFc := va_free (wc := obhsW cy a P) hD hS hA [1, 2, 3, 4, 5, 6, 7, 8, 9, 10, 11, 12, 13, 14, 15, 16, 17, 18, 19, 20, 21, 22, 23, 24, 25, 26, 27, 28, 29, 30, 31, 32, 33, 34, 35, 36, 37, 38, 39, 40, 41, 42, 43, 44, 45, 46, 47, 48] rfl
    refine k_mui (k_runV (As := []) (rest := [.int (iI 0), .ref o]) ⟨hx, hb, hml, hown, hts⟩ (c_X6_addTrail l D cy H.size a P hI hsv hok) gL_addTrail_X6_addTrail rfl ⟨rfl, rfl⟩ 0 rfl (by decide +kernel) ⟨Nat.le_of_ble_eq_true rfl, Nat.le_of_ble_eq_true rfl⟩ (GG_ok D cy) hG hS hFc hPc hDc (va_recv hK hP (ci := 5) (q0 := 1) rfl rfl) hl.1 rfl (Nat.le_of_ble_eq_true rfl) ⟨Nat.le_of_ble_eq_true rfl, Nat.le_of_ble_eq_true rfl⟩ dL_addTrail_3) hFc hS (fun r8 u8 H1 locs1 hpost hP1 hD1 hS1 hk1 => ?_)
    have hJ := va_join (wr := [(o, .inl (cy 4, 1, .inr (.inl fO)))]) hP hD [1, 2, 3, 4, 5, 6, 7, 8, 9, 10, 11, 12, 13, 14, 15, 16, 17, 18, 19, 20, 21, 22, 23, 24, 25, 26, 27, 28, 29, 30, 31, 32, 33, 34, 35, 36, 37, 38, 39, 40, 41, 42, 43, 44, 45, 46, 47, 48] [0] rfl rfl (by decide) (by decide) hk1 hFc hP1 hD1
    obtain ⟨hP, hD⟩ := hJ
    have hS := hS1
    refine lv_i2l hx hb dL_addTrail_6 rfl ?_
    refine va_last hx hb hK hP hD hS 0 4 rfl rfl (i := iI 0) (vp_iI (by decide)) dL_addTrail_7 (fun H1 locs1 hP hD hS => ?_)
    refine lv_goto (tgt := 14) hx hb dL_addTrail_8 (by decide) ?_
    refine k_iconst hx hb dL_addTrail_14 ?_
    exact W.iret (v := iI 0) hx hb hr (fun t9 ht _ => ⟨⟨iI 0, (u8, vp_updL fO (iI 0).toNatClampNeg (iI r8).toInt64), rfl, ⟨0, rfl, rfl, r8, out_0 fO _, hpost⟩, by rw [ht]; exact hP, hD⟩, hS.F ht⟩) hS.2.2 dL_addTrail_15 hlocks
  exact hbody s.heap [] hP hS ls hl
set_option maxHeartbeats 4000000 in
set_option maxRecDepth 100000 in
theorem c_L_addTrail_t3 (l : Launch) (hl9 : l.stackTraces = false) (sz : Nat) (o : Nat) (D : va_G) (cy : Nat → ClassId) (a : Nat → Nat) (P : Nat → Int → Int) (hI : Inv (mO P)) (hno : P 0 0 = 12) : Met l yL_addTrail wsL_addTrail { frames := 8, cells := 1, slots := 6, locals := 138 } (mPre (GX D cy) D (obplW cy a P) sz ([.ref (a 100), .ref o] : List Value)) (kQi D (obplW cy a P) sz (fun _ : Unit => obplW cy a P) (fun r _ => r = 1)) 1 6 (va_A (obplW cy a P) sz) := by
  refine kMW_start (cc := cL_addTrail) (maxL := 3) (ret := (some .int)) (by decide) rfl (Nat.le_of_ble_eq_true rfl) ?_
  intro p e s m below meth c hx hb hr hlocks hml hts hown htab hA hG hP hD hS ls hl
  have hK := hG.1.1.1
  have hl : lv_has ls 3 [(0, .ref (a 100)), (1, .ref o)] := hl
  have hbody : ∀ (H : Heap) (locs : List Loc) (hP : va_P D vwCl (obplW cy a P) H) (hS : va_S (va_A (obplW cy a P) sz) s.heap H locs) (ls : Array Slot) (hl : lv_has ls 3 [(0, .ref (a 100)), (1, .ref o)]), W p l e { frames := 8, cells := 1, slots := 6, locals := 138 } s m ([.ref (a 100), .ref o] : List Value).toArray below meth c H locs 0 0 (MQ below (kQi D (obplW cy a P) sz (fun _ : Unit => obplW cy a P) (fun r _ => r = 1)) ([.ref (a 100), .ref o] : List Value).toArray s 1 6 (va_A (obplW cy a P) sz)) (F0 m 0 ls []) := by
    intro H locs hP hS ls hl
    refine lv_aload_n hx hb dL_addTrail_0 rfl (lv_at hl 1 rfl) ?_
    refine k_iconst hx hb dL_addTrail_1 ?_
    refine lv_aload_n hx hb dL_addTrail_2 rfl (lv_at hl 0 rfl) ?_
    refine k_thV (As := []) (rest := [.int (iI 0), .ref o]) ⟨hx, hb, hml, hown, hts⟩ (c_X6_addTrail_t3 l hl9 D cy a P hI hno) gL_addTrail_X6_addTrail rfl ⟨rfl, rfl⟩ 0 rfl (by decide +kernel) ⟨Nat.le_of_ble_eq_true rfl, Nat.le_of_ble_eq_true rfl⟩ (GX_ok D cy) ((GX_ok D cy).2.2.2 _ _ _ _ (fun _ h => h.elim) ((GX_ok D cy).1 _ _ _ _ hS.2.1 hG)) hP (va_recv hK hP (ci := 5) (q0 := 0) rfl rfl) hl.1 rfl (Nat.le_of_ble_eq_true rfl) ⟨Nat.le_of_ble_eq_true rfl, Nat.le_of_ble_eq_true rfl⟩ dL_addTrail_3 (fun ce q9 H1 z1 o1 e1 v1 f1 => ?_)
    refine vx_catch (E := exN 2) (name := exN 2) hown (tableOf []) ⟨0, 8, 11, 13⟩ (tableOf []) (by rw [htab]; rfl) (fun z h => by cases h) (by decide) (by decide) (hts (.classLink RL 13 (exN 2)) (by decide +kernel)) (va_Nw.use rfl (hG.2.1 2 (by decide)).2.1) e1 v1 f1 ?_
    have hP1 := P_grow hP o1
    have hS1 := S_grow hS z1 o1
    refine lv_astore_n (lv' := [(2, .ref q9), (0, .ref (a 100)), (1, .ref o)]) hx hb dL_addTrail_11 rfl hl (by decide) rfl (fun ls hl => ?_)
    refine k_iconst hx hb dL_addTrail_12 ?_
    exact W.iret (v := iI 1) hx hb hr (fun t9 ht _ => ⟨⟨iI 1, (), rfl, ⟨1, rfl, rfl⟩, by rw [ht]; exact hP1, hD⟩, hS1.F ht⟩) hS1.2.2 dL_addTrail_13 hlocks
  exact hbody s.heap [] hP hS ls hl
set_option maxHeartbeats 4000000 in
set_option maxRecDepth 100000 in
theorem c_L_removeTrail (l : Launch) (sz : Nat) (o : Nat) (fO : Nat → Int64) (D : va_G) (cy : Nat → ClassId) (a : Nat → Nat) (P : Nat → Int → Int) (t : Int) (hI : Inv (mO P)) (hsv : 0 ≤ P 50 1 ∧ P 50 1 ≤ 4) (h0 : 0 ≤ t) (h1 : t < P 0 0) : Met l yL_removeTrail wsL_removeTrail { frames := 6, cells := 0, slots := 0, locals := 134 } (mPre (GG D cy) D (ouW cy o fO (obhsW cy a P)) sz ([.ref (a 100), .int (iI t), .ref o] : List Value)) (kQi D (ouW cy o fO (obhsW cy a P)) sz (fun u8 : ((Nat → Nat) × (Nat → Int → Int)) × (Nat → Int64) => ouW cy o u8.2 (obhsW cy (pgm a u8.1.1) u8.1.2)) (ouP (fun r9 u9 => r9 = P 0 0 - 1 ∧ opd P u9.2 (mO (cRT P t))))) 0 0 (va_A (ouW cy o fO (obhsW cy a P)) sz) := by
  refine kMW_start (cc := cL_removeTrail) (maxL := 4) (ret := (some .int)) (by decide) rfl (Nat.le_of_ble_eq_true rfl) ?_
  intro p e s m below meth c hx hb hr hlocks hml hts hown htab hA hG hP hD hS ls hl
  have hK := hG.1
  have hl : lv_has ls 4 [(0, .ref (a 100)), (1, .int (iI t)), (2, .ref o)] := hl
  have hbody : ∀ (H : Heap) (locs : List Loc) (hP : va_P D vwCl (ouW cy o fO (obhsW cy a P)) H) (hS : va_S (va_A (ouW cy o fO (obhsW cy a P)) sz) s.heap H locs) (ls : Array Slot) (hl : lv_has ls 4 [(0, .ref (a 100)), (1, .int (iI t)), (2, .ref o)]), W p l e { frames := 6, cells := 0, slots := 0, locals := 134 } s m ([.ref (a 100), .int (iI t), .ref o] : List Value).toArray below meth c H locs 0 0 (MQ below (kQi D (ouW cy o fO (obhsW cy a P)) sz (fun u8 : ((Nat → Nat) × (Nat → Int → Int)) × (Nat → Int64) => ouW cy o u8.2 (obhsW cy (pgm a u8.1.1) u8.1.2)) (ouP (fun r9 u9 => r9 = P 0 0 - 1 ∧ opd P u9.2 (mO (cRT P t))))) ([.ref (a 100), .int (iI t), .ref o] : List Value).toArray s 0 0 (va_A (ouW cy o fO (obhsW cy a P)) sz)) (F0 m 0 ls []) := by
    intro H locs hP hS ls hl
    refine lv_aload_n hx hb dL_removeTrail_0 rfl (lv_at hl 2 rfl) ?_
    refine k_iconst hx hb dL_removeTrail_1 ?_
    refine lv_aload_n hx hb dL_removeTrail_2 rfl (lv_at hl 0 rfl) ?_
    refine lv_iload_n hx hb dL_removeTrail_3 rfl (lv_at hl 1 rfl) ?_
    have hPc := hP.sub (ws' := obhsW cy a P) [1, 2, 3, 4, 5, 6, 7, 8, 9, 10, 11, 12, 13, 14, 15, 16, 17, 18, 19, 20, 21, 22, 23, 24, 25, 26, 27, 28, 29, 30, 31, 32, 33, 34, 35, 36, 37, 38, 39, 40, 41, 42, 43, 44, 45, 46, 47, 48] rfl
    have hDc := hD.sub (ws' := obhsW cy a P) [1, 2, 3, 4, 5, 6, 7, 8, 9, 10, 11, 12, 13, 14, 15, 16, 17, 18, 19, 20, 21, 22, 23, 24, 25, 26, 27, 28, 29, 30, 31, 32, 33, 34, 35, 36, 37, 38, 39, 40, 41, 42, 43, 44, 45, 46, 47, 48] (by decide) rfl
    have hFc := va_free (wc := obhsW cy a P) hD hS hA [1, 2, 3, 4, 5, 6, 7, 8, 9, 10, 11, 12, 13, 14, 15, 16, 17, 18, 19, 20, 21, 22, 23, 24, 25, 26, 27, 28, 29, 30, 31, 32, 33, 34, 35, 36, 37, 38, 39, 40, 41, 42, 43, 44, 45, 46, 47, 48] rfl
    refine k_mui (k_runV (As := [.int (iI t)]) (rest := [.int (iI 0), .ref o]) ⟨hx, hb, hml, hown, hts⟩ (c_X6_removeTrail l D cy H.size a P t hI hsv h0 h1) gL_removeTrail_X6_removeTrail rfl ⟨rfl, rfl⟩ 1 rfl (by decide +kernel) ⟨Nat.le_of_ble_eq_true rfl, Nat.le_of_ble_eq_true rfl⟩ (GG_ok D cy) hG hS hFc hPc hDc (va_recv hK hP (ci := 5) (q0 := 1) rfl rfl) hl.1 rfl (Nat.le_of_ble_eq_true rfl) ⟨Nat.le_of_ble_eq_true rfl, Nat.le_of_ble_eq_true rfl⟩ dL_removeTrail_4) hFc hS (fun r8 u8 H1 locs1 hpost hP1 hD1 hS1 hk1 => ?_)
    have hJ := va_join (wr := [(o, .inl (cy 4, 1, .inr (.inl fO)))]) hP hD [1, 2, 3, 4, 5, 6, 7, 8, 9, 10, 11, 12, 13, 14, 15, 16, 17, 18, 19, 20, 21, 22, 23, 24, 25, 26, 27, 28, 29, 30, 31, 32, 33, 34, 35, 36, 37, 38, 39, 40, 41, 42, 43, 44, 45, 46, 47, 48] [0] rfl rfl (by decide) (by decide) hk1 hFc hP1 hD1
    obtain ⟨hP, hD⟩ := hJ
    have hS := hS1
    refine lv_i2l hx hb dL_removeTrail_7 rfl ?_
    refine va_last hx hb hK hP hD hS 0 4 rfl rfl (i := iI 0) (vp_iI (by decide)) dL_removeTrail_8 (fun H1 locs1 hP hD hS => ?_)
    refine lv_goto (tgt := 15) hx hb dL_removeTrail_9 (by decide) ?_
    refine k_iconst hx hb dL_removeTrail_15 ?_
    exact W.iret (v := iI 0) hx hb hr (fun t9 ht _ => ⟨⟨iI 0, (u8, vp_updL fO (iI 0).toNatClampNeg (iI r8).toInt64), rfl, ⟨0, rfl, rfl, r8, out_0 fO _, hpost⟩, by rw [ht]; exact hP, hD⟩, hS.F ht⟩) hS.2.2 dL_removeTrail_16 hlocks
  exact hbody s.heap [] hP hS ls hl
set_option maxHeartbeats 4000000 in
set_option maxRecDepth 100000 in
theorem c_L_removeTrail_t1 (l : Launch) (hl9 : l.stackTraces = false) (sz : Nat) (o : Nat) (D : va_G) (cy : Nat → ClassId) (a : Nat → Nat) (P : Nat → Int → Int) (t : Int) (hI : Inv (mO P)) (hrt : -2147483648 ≤ t ∧ t ≤ 2147483647) (hno : ¬ (0 ≤ t ∧ t < P 0 0)) : Met l yL_removeTrail wsL_removeTrail { frames := 8, cells := 1, slots := 6, locals := 139 } (mPre (GX D cy) D (obplW cy a P) sz ([.ref (a 100), .int (iI t), .ref o] : List Value)) (kQi D (obplW cy a P) sz (fun _ : Unit => obplW cy a P) (fun r _ => r = 1)) 1 6 (va_A (obplW cy a P) sz) := by
  refine kMW_start (cc := cL_removeTrail) (maxL := 4) (ret := (some .int)) (by decide) rfl (Nat.le_of_ble_eq_true rfl) ?_
  intro p e s m below meth c hx hb hr hlocks hml hts hown htab hA hG hP hD hS ls hl
  have hK := hG.1.1.1
  have hl : lv_has ls 4 [(0, .ref (a 100)), (1, .int (iI t)), (2, .ref o)] := hl
  have hbody : ∀ (H : Heap) (locs : List Loc) (hP : va_P D vwCl (obplW cy a P) H) (hS : va_S (va_A (obplW cy a P) sz) s.heap H locs) (ls : Array Slot) (hl : lv_has ls 4 [(0, .ref (a 100)), (1, .int (iI t)), (2, .ref o)]), W p l e { frames := 8, cells := 1, slots := 6, locals := 139 } s m ([.ref (a 100), .int (iI t), .ref o] : List Value).toArray below meth c H locs 0 0 (MQ below (kQi D (obplW cy a P) sz (fun _ : Unit => obplW cy a P) (fun r _ => r = 1)) ([.ref (a 100), .int (iI t), .ref o] : List Value).toArray s 1 6 (va_A (obplW cy a P) sz)) (F0 m 0 ls []) := by
    intro H locs hP hS ls hl
    refine lv_aload_n hx hb dL_removeTrail_0 rfl (lv_at hl 2 rfl) ?_
    refine k_iconst hx hb dL_removeTrail_1 ?_
    refine lv_aload_n hx hb dL_removeTrail_2 rfl (lv_at hl 0 rfl) ?_
    refine lv_iload_n hx hb dL_removeTrail_3 rfl (lv_at hl 1 rfl) ?_
    refine k_thV (As := [.int (iI t)]) (rest := [.int (iI 0), .ref o]) ⟨hx, hb, hml, hown, hts⟩ (c_X6_removeTrail_t1 l hl9 D cy a P t hI hrt hno) gL_removeTrail_X6_removeTrail rfl ⟨rfl, rfl⟩ 1 rfl (by decide +kernel) ⟨Nat.le_of_ble_eq_true rfl, Nat.le_of_ble_eq_true rfl⟩ (GX_ok D cy) ((GX_ok D cy).2.2.2 _ _ _ _ (fun _ h => h.elim) ((GX_ok D cy).1 _ _ _ _ hS.2.1 hG)) hP (va_recv hK hP (ci := 5) (q0 := 0) rfl rfl) hl.1 rfl (Nat.le_of_ble_eq_true rfl) ⟨Nat.le_of_ble_eq_true rfl, Nat.le_of_ble_eq_true rfl⟩ dL_removeTrail_4 (fun ce q9 H1 z1 o1 e1 v1 f1 => ?_)
    refine vx_catch (E := exN 0) (name := exN 0) hown (tableOf []) ⟨0, 9, 12, 19⟩ (tableOf []) (by rw [htab]; rfl) (fun z h => by cases h) (by decide) (by decide) (hts (.classLink RL 19 (exN 0)) (by decide +kernel)) (va_Nw.use rfl (hG.2.1 0 (by decide)).2.1) e1 v1 f1 ?_
    have hP1 := P_grow hP o1
    have hS1 := S_grow hS z1 o1
    refine lv_astore_n (lv' := [(3, .ref q9), (0, .ref (a 100)), (1, .int (iI t)), (2, .ref o)]) hx hb dL_removeTrail_12 rfl hl (by decide) rfl (fun ls hl => ?_)
    refine k_iconst hx hb dL_removeTrail_13 ?_
    exact W.iret (v := iI 1) hx hb hr (fun t9 ht _ => ⟨⟨iI 1, (), rfl, ⟨1, rfl, rfl⟩, by rw [ht]; exact hP1, hD⟩, hS1.F ht⟩) hS1.2.2 dL_removeTrail_14 hlocks
  exact hbody s.heap [] hP hS ls hl
set_option maxHeartbeats 4000000 in
set_option maxRecDepth 100000 in
theorem c_L_addPoint (l : Launch) (sz : Nat) (o : Nat) (fO : Nat → Int64) (D : va_G) (cy : Nat → ClassId) (a : Nat → Nat) (P : Nat → Int → Int) (t f x y : Int) (hI : Inv (mO P)) (hsv : 0 ≤ P 50 1 ∧ P 50 1 ≤ 4) (h0 : 0 ≤ t) (h1 : t < P 0 0) (hrf : -2147483648 ≤ f ∧ f ≤ 2147483647) (hrx : -2147483648 ≤ x ∧ x ≤ 2147483647) (hry : -2147483648 ≤ y ∧ y ≤ 2147483647) (hpk : pointOK f x y) (hp12 : P 1 t < 12) (hnf : ¬ hasF (mO P) t f) : Met l yL_addPoint wsL_addPoint { frames := 6, cells := 0, slots := 0, locals := 137 } (mPre (GG D cy) D (ouW cy o fO (obhsW cy a P)) sz ([.ref (a 100), .int (iI t), .int (iI f), .int (iI x), .int (iI y), .ref o] : List Value)) (kQi D (ouW cy o fO (obhsW cy a P)) sz (fun u8 : ((Nat → Nat) × (Nat → Int → Int)) × (Nat → Int64) => ouW cy o u8.2 (obhsW cy (pgm a u8.1.1) u8.1.2)) (ouP (fun r9 u9 => r9 = posF (mO P) t f ∧ opd P u9.2 (mO (cAP P t f x y))))) 0 0 (va_A (ouW cy o fO (obhsW cy a P)) sz) := by
  refine kMW_start (cc := cL_addPoint) (maxL := 7) (ret := (some .int)) (by decide) rfl (Nat.le_of_ble_eq_true rfl) ?_
  intro p e s m below meth c hx hb hr hlocks hml hts hown htab hA hG hP hD hS ls hl
  have hK := hG.1
  have hl : lv_has ls 7 [(0, .ref (a 100)), (1, .int (iI t)), (2, .int (iI f)), (3, .int (iI x)), (4, .int (iI y)), (5, .ref o)] := hl
  have hbody : ∀ (H : Heap) (locs : List Loc) (hP : va_P D vwCl (ouW cy o fO (obhsW cy a P)) H) (hS : va_S (va_A (ouW cy o fO (obhsW cy a P)) sz) s.heap H locs) (ls : Array Slot) (hl : lv_has ls 7 [(0, .ref (a 100)), (1, .int (iI t)), (2, .int (iI f)), (3, .int (iI x)), (4, .int (iI y)), (5, .ref o)]), W p l e { frames := 6, cells := 0, slots := 0, locals := 137 } s m ([.ref (a 100), .int (iI t), .int (iI f), .int (iI x), .int (iI y), .ref o] : List Value).toArray below meth c H locs 0 0 (MQ below (kQi D (ouW cy o fO (obhsW cy a P)) sz (fun u8 : ((Nat → Nat) × (Nat → Int → Int)) × (Nat → Int64) => ouW cy o u8.2 (obhsW cy (pgm a u8.1.1) u8.1.2)) (ouP (fun r9 u9 => r9 = posF (mO P) t f ∧ opd P u9.2 (mO (cAP P t f x y))))) ([.ref (a 100), .int (iI t), .int (iI f), .int (iI x), .int (iI y), .ref o] : List Value).toArray s 0 0 (va_A (ouW cy o fO (obhsW cy a P)) sz)) (F0 m 0 ls []) := by
    intro H locs hP hS ls hl
    refine lv_aload hx hb dL_addPoint_0 (lv_at hl 5 rfl) ?_
    refine k_iconst hx hb dL_addPoint_2 ?_
    refine lv_aload_n hx hb dL_addPoint_3 rfl (lv_at hl 0 rfl) ?_
    refine lv_iload_n hx hb dL_addPoint_4 rfl (lv_at hl 1 rfl) ?_
    refine lv_iload_n hx hb dL_addPoint_5 rfl (lv_at hl 2 rfl) ?_
    refine lv_iload_n hx hb dL_addPoint_6 rfl (lv_at hl 3 rfl) ?_
    refine lv_iload hx hb dL_addPoint_7 (lv_at hl 4 rfl) ?_
    have hPc := hP.sub (ws' := obhsW cy a P) [1, 2, 3, 4, 5, 6, 7, 8, 9, 10, 11, 12, 13, 14, 15, 16, 17, 18, 19, 20, 21, 22, 23, 24, 25, 26, 27, 28, 29, 30, 31, 32, 33, 34, 35, 36, 37, 38, 39, 40, 41, 42, 43, 44, 45, 46, 47, 48] rfl
    have hDc := hD.sub (ws' := obhsW cy a P) [1, 2, 3, 4, 5, 6, 7, 8, 9, 10, 11, 12, 13, 14, 15, 16, 17, 18, 19, 20, 21, 22, 23, 24, 25, 26, 27, 28, 29, 30, 31, 32, 33, 34, 35, 36, 37, 38, 39, 40, 41, 42, 43, 44, 45, 46, 47, 48] (by decide) rfl
    have hFc := va_free (wc := obhsW cy a P) hD hS hA [1, 2, 3, 4, 5, 6, 7, 8, 9, 10, 11, 12, 13, 14, 15, 16, 17, 18, 19, 20, 21, 22, 23, 24, 25, 26, 27, 28, 29, 30, 31, 32, 33, 34, 35, 36, 37, 38, 39, 40, 41, 42, 43, 44, 45, 46, 47, 48] rfl
    refine k_mui (k_runV (As := [.int (iI t), .int (iI f), .int (iI x), .int (iI y)]) (rest := [.int (iI 0), .ref o]) ⟨hx, hb, hml, hown, hts⟩ (c_X6_addPoint l D cy H.size a P t f x y hI hsv h0 h1 hrf hrx hry hpk hp12 hnf) gL_addPoint_X6_addPoint rfl ⟨rfl, rfl⟩ 4 rfl (by decide +kernel) ⟨Nat.le_of_ble_eq_true rfl, Nat.le_of_ble_eq_true rfl⟩ (GG_ok D cy) hG hS hFc hPc hDc (va_recv hK hP (ci := 5) (q0 := 1) rfl rfl) hl.1 rfl (Nat.le_of_ble_eq_true rfl) ⟨Nat.le_of_ble_eq_true rfl, Nat.le_of_ble_eq_true rfl⟩ dL_addPoint_9) hFc hS (fun r8 u8 H1 locs1 hpost hP1 hD1 hS1 hk1 => ?_)
    have hJ := va_join (wr := [(o, .inl (cy 4, 1, .inr (.inl fO)))]) hP hD [1, 2, 3, 4, 5, 6, 7, 8, 9, 10, 11, 12, 13, 14, 15, 16, 17, 18, 19, 20, 21, 22, 23, 24, 25, 26, 27, 28, 29, 30, 31, 32, 33, 34, 35, 36, 37, 38, 39, 40, 41, 42, 43, 44, 45, 46, 47, 48] [0] rfl rfl (by decide) (by decide) hk1 hFc hP1 hD1
    obtain ⟨hP, hD⟩ := hJ
    have hS := hS1
    refine lv_i2l hx hb dL_addPoint_12 rfl ?_
    refine va_last hx hb hK hP hD hS 0 4 rfl rfl (i := iI 0) (vp_iI (by decide)) dL_addPoint_13 (fun H1 locs1 hP hD hS => ?_)
    refine lv_goto (tgt := 29) hx hb dL_addPoint_14 (by decide) ?_
    refine k_iconst hx hb dL_addPoint_29 ?_
    exact W.iret (v := iI 0) hx hb hr (fun t9 ht _ => ⟨⟨iI 0, (u8, vp_updL fO (iI 0).toNatClampNeg (iI r8).toInt64), rfl, ⟨0, rfl, rfl, r8, out_0 fO _, hpost⟩, by rw [ht]; exact hP, hD⟩, hS.F ht⟩) hS.2.2 dL_addPoint_30 hlocks
  exact hbody s.heap [] hP hS ls hl
set_option maxHeartbeats 4000000 in
set_option maxRecDepth 100000 in
theorem c_L_addPoint_t1 (l : Launch) (hl9 : l.stackTraces = false) (sz : Nat) (o : Nat) (D : va_G) (cy : Nat → ClassId) (a : Nat → Nat) (P : Nat → Int → Int) (t f x y : Int) (hI : Inv (mO P)) (hrt : -2147483648 ≤ t ∧ t ≤ 2147483647) (hrf : -2147483648 ≤ f ∧ f ≤ 2147483647) (hrx : -2147483648 ≤ x ∧ x ≤ 2147483647) (hry : -2147483648 ≤ y ∧ y ≤ 2147483647) (hno : ¬ (0 ≤ t ∧ t < P 0 0)) : Met l yL_addPoint wsL_addPoint { frames := 8, cells := 1, slots := 6, locals := 142 } (mPre (GX D cy) D (obplW cy a P) sz ([.ref (a 100), .int (iI t), .int (iI f), .int (iI x), .int (iI y), .ref o] : List Value)) (kQi D (obplW cy a P) sz (fun _ : Unit => obplW cy a P) (fun r _ => r = 1)) 1 6 (va_A (obplW cy a P) sz) := by
  refine kMW_start (cc := cL_addPoint) (maxL := 7) (ret := (some .int)) (by decide) rfl (Nat.le_of_ble_eq_true rfl) ?_
  intro p e s m below meth c hx hb hr hlocks hml hts hown htab hA hG hP hD hS ls hl
  have hK := hG.1.1.1
  have hl : lv_has ls 7 [(0, .ref (a 100)), (1, .int (iI t)), (2, .int (iI f)), (3, .int (iI x)), (4, .int (iI y)), (5, .ref o)] := hl
  have hbody : ∀ (H : Heap) (locs : List Loc) (hP : va_P D vwCl (obplW cy a P) H) (hS : va_S (va_A (obplW cy a P) sz) s.heap H locs) (ls : Array Slot) (hl : lv_has ls 7 [(0, .ref (a 100)), (1, .int (iI t)), (2, .int (iI f)), (3, .int (iI x)), (4, .int (iI y)), (5, .ref o)]), W p l e { frames := 8, cells := 1, slots := 6, locals := 142 } s m ([.ref (a 100), .int (iI t), .int (iI f), .int (iI x), .int (iI y), .ref o] : List Value).toArray below meth c H locs 0 0 (MQ below (kQi D (obplW cy a P) sz (fun _ : Unit => obplW cy a P) (fun r _ => r = 1)) ([.ref (a 100), .int (iI t), .int (iI f), .int (iI x), .int (iI y), .ref o] : List Value).toArray s 1 6 (va_A (obplW cy a P) sz)) (F0 m 0 ls []) := by
    intro H locs hP hS ls hl
    refine lv_aload hx hb dL_addPoint_0 (lv_at hl 5 rfl) ?_
    refine k_iconst hx hb dL_addPoint_2 ?_
    refine lv_aload_n hx hb dL_addPoint_3 rfl (lv_at hl 0 rfl) ?_
    refine lv_iload_n hx hb dL_addPoint_4 rfl (lv_at hl 1 rfl) ?_
    refine lv_iload_n hx hb dL_addPoint_5 rfl (lv_at hl 2 rfl) ?_
    refine lv_iload_n hx hb dL_addPoint_6 rfl (lv_at hl 3 rfl) ?_
    refine lv_iload hx hb dL_addPoint_7 (lv_at hl 4 rfl) ?_
    refine k_thV (As := [.int (iI t), .int (iI f), .int (iI x), .int (iI y)]) (rest := [.int (iI 0), .ref o]) ⟨hx, hb, hml, hown, hts⟩ (c_X6_addPoint_t1 l hl9 D cy a P t f x y hI hrt hrf hrx hry hno) gL_addPoint_X6_addPoint rfl ⟨rfl, rfl⟩ 4 rfl (by decide +kernel) ⟨Nat.le_of_ble_eq_true rfl, Nat.le_of_ble_eq_true rfl⟩ (GX_ok D cy) ((GX_ok D cy).2.2.2 _ _ _ _ (fun _ h => h.elim) ((GX_ok D cy).1 _ _ _ _ hS.2.1 hG)) hP (va_recv hK hP (ci := 5) (q0 := 0) rfl rfl) hl.1 rfl (Nat.le_of_ble_eq_true rfl) ⟨Nat.le_of_ble_eq_true rfl, Nat.le_of_ble_eq_true rfl⟩ dL_addPoint_9 (fun ce q9 H1 z1 o1 e1 v1 f1 => ?_)
    refine vx_catch (E := exN 0) (name := exN 0) hown (tableOf []) ⟨0, 14, 17, 19⟩ (tableOf [(0, 14, 21, 25), (0, 14, 25, 13)]) (by rw [htab]; rfl) (fun z h => by cases h) (by decide) (by decide) (hts (.classLink RL 19 (exN 0)) (by decide +kernel)) (va_Nw.use rfl (hG.2.1 0 (by decide)).2.1) e1 v1 f1 ?_
    have hP1 := P_grow hP o1
    have hS1 := S_grow hS z1 o1
    refine lv_astore (lv' := [(6, .ref q9), (0, .ref (a 100)), (1, .int (iI t)), (2, .int (iI f)), (3, .int (iI x)), (4, .int (iI y)), (5, .ref o)]) hx hb dL_addPoint_17 hl (by decide) rfl (fun ls hl => ?_)
    refine k_iconst hx hb dL_addPoint_19 ?_
    exact W.iret (v := iI 1) hx hb hr (fun t9 ht _ => ⟨⟨iI 1, (), rfl, ⟨1, rfl, rfl⟩, by rw [ht]; exact hP1, hD⟩, hS1.F ht⟩) hS1.2.2 dL_addPoint_20 hlocks
  exact hbody s.heap [] hP hS ls hl
set_option maxHeartbeats 4000000 in
set_option maxRecDepth 100000 in
theorem c_L_addPoint_t2 (l : Launch) (hl9 : l.stackTraces = false) (sz : Nat) (o : Nat) (D : va_G) (cy : Nat → ClassId) (a : Nat → Nat) (P : Nat → Int → Int) (t f x y : Int) (hI : Inv (mO P)) (h0 : 0 ≤ t) (h1 : t < P 0 0) (hrt : -2147483648 ≤ t ∧ t ≤ 2147483647) (hrf : -2147483648 ≤ f ∧ f ≤ 2147483647) (hrx : -2147483648 ≤ x ∧ x ≤ 2147483647) (hry : -2147483648 ≤ y ∧ y ≤ 2147483647) (hno : ¬ pointOK f x y) : Met l yL_addPoint wsL_addPoint { frames := 8, cells := 1, slots := 6, locals := 142 } (mPre (GX D cy) D (obplW cy a P) sz ([.ref (a 100), .int (iI t), .int (iI f), .int (iI x), .int (iI y), .ref o] : List Value)) (kQi D (obplW cy a P) sz (fun _ : Unit => obplW cy a P) (fun r _ => r = 2)) 1 6 (va_A (obplW cy a P) sz) := by
  refine kMW_start (cc := cL_addPoint) (maxL := 7) (ret := (some .int)) (by decide) rfl (Nat.le_of_ble_eq_true rfl) ?_
  intro p e s m below meth c hx hb hr hlocks hml hts hown htab hA hG hP hD hS ls hl
  have hK := hG.1.1.1
  have hl : lv_has ls 7 [(0, .ref (a 100)), (1, .int (iI t)), (2, .int (iI f)), (3, .int (iI x)), (4, .int (iI y)), (5, .ref o)] := hl
  have hbody : ∀ (H : Heap) (locs : List Loc) (hP : va_P D vwCl (obplW cy a P) H) (hS : va_S (va_A (obplW cy a P) sz) s.heap H locs) (ls : Array Slot) (hl : lv_has ls 7 [(0, .ref (a 100)), (1, .int (iI t)), (2, .int (iI f)), (3, .int (iI x)), (4, .int (iI y)), (5, .ref o)]), W p l e { frames := 8, cells := 1, slots := 6, locals := 142 } s m ([.ref (a 100), .int (iI t), .int (iI f), .int (iI x), .int (iI y), .ref o] : List Value).toArray below meth c H locs 0 0 (MQ below (kQi D (obplW cy a P) sz (fun _ : Unit => obplW cy a P) (fun r _ => r = 2)) ([.ref (a 100), .int (iI t), .int (iI f), .int (iI x), .int (iI y), .ref o] : List Value).toArray s 1 6 (va_A (obplW cy a P) sz)) (F0 m 0 ls []) := by
    intro H locs hP hS ls hl
    refine lv_aload hx hb dL_addPoint_0 (lv_at hl 5 rfl) ?_
    refine k_iconst hx hb dL_addPoint_2 ?_
    refine lv_aload_n hx hb dL_addPoint_3 rfl (lv_at hl 0 rfl) ?_
    refine lv_iload_n hx hb dL_addPoint_4 rfl (lv_at hl 1 rfl) ?_
    refine lv_iload_n hx hb dL_addPoint_5 rfl (lv_at hl 2 rfl) ?_
    refine lv_iload_n hx hb dL_addPoint_6 rfl (lv_at hl 3 rfl) ?_
    refine lv_iload hx hb dL_addPoint_7 (lv_at hl 4 rfl) ?_
    refine k_thV (As := [.int (iI t), .int (iI f), .int (iI x), .int (iI y)]) (rest := [.int (iI 0), .ref o]) ⟨hx, hb, hml, hown, hts⟩ (c_X6_addPoint_t2 l hl9 D cy a P t f x y hI h0 h1 hrt hrf hrx hry hno) gL_addPoint_X6_addPoint rfl ⟨rfl, rfl⟩ 4 rfl (by decide +kernel) ⟨Nat.le_of_ble_eq_true rfl, Nat.le_of_ble_eq_true rfl⟩ (GX_ok D cy) ((GX_ok D cy).2.2.2 _ _ _ _ (fun _ h => h.elim) ((GX_ok D cy).1 _ _ _ _ hS.2.1 hG)) hP (va_recv hK hP (ci := 5) (q0 := 0) rfl rfl) hl.1 rfl (Nat.le_of_ble_eq_true rfl) ⟨Nat.le_of_ble_eq_true rfl, Nat.le_of_ble_eq_true rfl⟩ dL_addPoint_9 (fun ce q9 H1 z1 o1 e1 v1 f1 => ?_)
    refine vx_catch (E := exN 1) (name := exN 1) hown (tableOf [(0, 14, 17, 19)]) ⟨0, 14, 21, 25⟩ (tableOf [(0, 14, 25, 13)]) (by rw [htab]; rfl) (fun z h => by
      rcases List.mem_cons.mp h with rfl | h
      · exact Or.inr ⟨by decide, exN 0, hts (.classLink RL 19 (exN 0)) (by decide +kernel), (hG.2.1 1 (by decide)).2.2 0 (by decide) (by decide)⟩
      cases h) (by decide) (by decide) (hts (.classLink RL 25 (exN 1)) (by decide +kernel)) (va_Nw.use rfl (hG.2.1 1 (by decide)).2.1) e1 v1 f1 ?_
    have hP1 := P_grow hP o1
    have hS1 := S_grow hS z1 o1
    refine lv_astore (lv' := [(6, .ref q9), (0, .ref (a 100)), (1, .int (iI t)), (2, .int (iI f)), (3, .int (iI x)), (4, .int (iI y)), (5, .ref o)]) hx hb dL_addPoint_21 hl (by decide) rfl (fun ls hl => ?_)
    refine k_iconst hx hb dL_addPoint_23 ?_
    exact W.iret (v := iI 2) hx hb hr (fun t9 ht _ => ⟨⟨iI 2, (), rfl, ⟨2, rfl, rfl⟩, by rw [ht]; exact hP1, hD⟩, hS1.F ht⟩) hS1.2.2 dL_addPoint_24 hlocks
  exact hbody s.heap [] hP hS ls hl
set_option maxHeartbeats 4000000 in
set_option maxRecDepth 100000 in
theorem c_L_addPoint_t3 (l : Launch) (hl9 : l.stackTraces = false) (sz : Nat) (o : Nat) (D : va_G) (cy : Nat → ClassId) (a : Nat → Nat) (P : Nat → Int → Int) (t f x y : Int) (hI : Inv (mO P)) (h0 : 0 ≤ t) (h1 : t < P 0 0) (hrt : -2147483648 ≤ t ∧ t ≤ 2147483647) (hrf : -2147483648 ≤ f ∧ f ≤ 2147483647) (hrx : -2147483648 ≤ x ∧ x ≤ 2147483647) (hry : -2147483648 ≤ y ∧ y ≤ 2147483647) (hpk : pointOK f x y) (hno : P 1 t = 12 ∨ hasF (mO P) t f) : Met l yL_addPoint wsL_addPoint { frames := 8, cells := 1, slots := 6, locals := 142 } (mPre (GX D cy) D (obplW cy a P) sz ([.ref (a 100), .int (iI t), .int (iI f), .int (iI x), .int (iI y), .ref o] : List Value)) (kQi D (obplW cy a P) sz (fun _ : Unit => obplW cy a P) (fun r _ => r = 3)) 1 6 (va_A (obplW cy a P) sz) := by
  refine kMW_start (cc := cL_addPoint) (maxL := 7) (ret := (some .int)) (by decide) rfl (Nat.le_of_ble_eq_true rfl) ?_
  intro p e s m below meth c hx hb hr hlocks hml hts hown htab hA hG hP hD hS ls hl
  have hK := hG.1.1.1
  have hl : lv_has ls 7 [(0, .ref (a 100)), (1, .int (iI t)), (2, .int (iI f)), (3, .int (iI x)), (4, .int (iI y)), (5, .ref o)] := hl
  have hbody : ∀ (H : Heap) (locs : List Loc) (hP : va_P D vwCl (obplW cy a P) H) (hS : va_S (va_A (obplW cy a P) sz) s.heap H locs) (ls : Array Slot) (hl : lv_has ls 7 [(0, .ref (a 100)), (1, .int (iI t)), (2, .int (iI f)), (3, .int (iI x)), (4, .int (iI y)), (5, .ref o)]), W p l e { frames := 8, cells := 1, slots := 6, locals := 142 } s m ([.ref (a 100), .int (iI t), .int (iI f), .int (iI x), .int (iI y), .ref o] : List Value).toArray below meth c H locs 0 0 (MQ below (kQi D (obplW cy a P) sz (fun _ : Unit => obplW cy a P) (fun r _ => r = 3)) ([.ref (a 100), .int (iI t), .int (iI f), .int (iI x), .int (iI y), .ref o] : List Value).toArray s 1 6 (va_A (obplW cy a P) sz)) (F0 m 0 ls []) := by
    intro H locs hP hS ls hl
    refine lv_aload hx hb dL_addPoint_0 (lv_at hl 5 rfl) ?_
    refine k_iconst hx hb dL_addPoint_2 ?_
    refine lv_aload_n hx hb dL_addPoint_3 rfl (lv_at hl 0 rfl) ?_
    refine lv_iload_n hx hb dL_addPoint_4 rfl (lv_at hl 1 rfl) ?_
    refine lv_iload_n hx hb dL_addPoint_5 rfl (lv_at hl 2 rfl) ?_
    refine lv_iload_n hx hb dL_addPoint_6 rfl (lv_at hl 3 rfl) ?_
    refine lv_iload hx hb dL_addPoint_7 (lv_at hl 4 rfl) ?_
    refine k_thV (As := [.int (iI t), .int (iI f), .int (iI x), .int (iI y)]) (rest := [.int (iI 0), .ref o]) ⟨hx, hb, hml, hown, hts⟩ (c_X6_addPoint_t3 l hl9 D cy a P t f x y hI h0 h1 hrt hrf hrx hry hpk hno) gL_addPoint_X6_addPoint rfl ⟨rfl, rfl⟩ 4 rfl (by decide +kernel) ⟨Nat.le_of_ble_eq_true rfl, Nat.le_of_ble_eq_true rfl⟩ (GX_ok D cy) ((GX_ok D cy).2.2.2 _ _ _ _ (fun _ h => h.elim) ((GX_ok D cy).1 _ _ _ _ hS.2.1 hG)) hP (va_recv hK hP (ci := 5) (q0 := 0) rfl rfl) hl.1 rfl (Nat.le_of_ble_eq_true rfl) ⟨Nat.le_of_ble_eq_true rfl, Nat.le_of_ble_eq_true rfl⟩ dL_addPoint_9 (fun ce q9 H1 z1 o1 e1 v1 f1 => ?_)
    refine vx_catch (E := exN 2) (name := exN 2) hown (tableOf [(0, 14, 17, 19), (0, 14, 21, 25)]) ⟨0, 14, 25, 13⟩ (tableOf []) (by rw [htab]; rfl) (fun z h => by
      rcases List.mem_cons.mp h with rfl | h
      · exact Or.inr ⟨by decide, exN 0, hts (.classLink RL 19 (exN 0)) (by decide +kernel), (hG.2.1 2 (by decide)).2.2 0 (by decide) (by decide)⟩
      rcases List.mem_cons.mp h with rfl | h
      · exact Or.inr ⟨by decide, exN 1, hts (.classLink RL 25 (exN 1)) (by decide +kernel), (hG.2.1 2 (by decide)).2.2 1 (by decide) (by decide)⟩
      cases h) (by decide) (by decide) (hts (.classLink RL 13 (exN 2)) (by decide +kernel)) (va_Nw.use rfl (hG.2.1 2 (by decide)).2.1) e1 v1 f1 ?_
    have hP1 := P_grow hP o1
    have hS1 := S_grow hS z1 o1
    refine lv_astore (lv' := [(6, .ref q9), (0, .ref (a 100)), (1, .int (iI t)), (2, .int (iI f)), (3, .int (iI x)), (4, .int (iI y)), (5, .ref o)]) hx hb dL_addPoint_25 hl (by decide) rfl (fun ls hl => ?_)
    refine k_iconst hx hb dL_addPoint_27 ?_
    exact W.iret (v := iI 3) hx hb hr (fun t9 ht _ => ⟨⟨iI 3, (), rfl, ⟨3, rfl, rfl⟩, by rw [ht]; exact hP1, hD⟩, hS1.F ht⟩) hS1.2.2 dL_addPoint_28 hlocks
  exact hbody s.heap [] hP hS ls hl
set_option maxHeartbeats 4000000 in
set_option maxRecDepth 100000 in
theorem c_L_removePoint (l : Launch) (sz : Nat) (o : Nat) (fO : Nat → Int64) (D : va_G) (cy : Nat → ClassId) (a : Nat → Nat) (P : Nat → Int → Int) (t q : Int) (hI : Inv (mO P)) (hsv : 0 ≤ P 50 1 ∧ P 50 1 ≤ 4) (h0 : 0 ≤ t) (h1 : t < P 0 0) (h2 : 0 ≤ q) (h3 : q < P 1 t) : Met l yL_removePoint wsL_removePoint { frames := 6, cells := 0, slots := 0, locals := 135 } (mPre (GG D cy) D (ouW cy o fO (obhsW cy a P)) sz ([.ref (a 100), .int (iI t), .int (iI q), .ref o] : List Value)) (kQi D (ouW cy o fO (obhsW cy a P)) sz (fun u8 : ((Nat → Nat) × (Nat → Int → Int)) × (Nat → Int64) => ouW cy o u8.2 (obhsW cy (pgm a u8.1.1) u8.1.2)) (ouP (fun r9 u9 => r9 = P 1 t - 1 ∧ opd P u9.2 (mO (cRP P t q))))) 0 0 (va_A (ouW cy o fO (obhsW cy a P)) sz) := by
  refine kMW_start (cc := cL_removePoint) (maxL := 5) (ret := (some .int)) (by decide) rfl (Nat.le_of_ble_eq_true rfl) ?_
  intro p e s m below meth c hx hb hr hlocks hml hts hown htab hA hG hP hD hS ls hl
  have hK := hG.1
  have hl : lv_has ls 5 [(0, .ref (a 100)), (1, .int (iI t)), (2, .int (iI q)), (3, .ref o)] := hl
  have hbody : ∀ (H : Heap) (locs : List Loc) (hP : va_P D vwCl (ouW cy o fO (obhsW cy a P)) H) (hS : va_S (va_A (ouW cy o fO (obhsW cy a P)) sz) s.heap H locs) (ls : Array Slot) (hl : lv_has ls 5 [(0, .ref (a 100)), (1, .int (iI t)), (2, .int (iI q)), (3, .ref o)]), W p l e { frames := 6, cells := 0, slots := 0, locals := 135 } s m ([.ref (a 100), .int (iI t), .int (iI q), .ref o] : List Value).toArray below meth c H locs 0 0 (MQ below (kQi D (ouW cy o fO (obhsW cy a P)) sz (fun u8 : ((Nat → Nat) × (Nat → Int → Int)) × (Nat → Int64) => ouW cy o u8.2 (obhsW cy (pgm a u8.1.1) u8.1.2)) (ouP (fun r9 u9 => r9 = P 1 t - 1 ∧ opd P u9.2 (mO (cRP P t q))))) ([.ref (a 100), .int (iI t), .int (iI q), .ref o] : List Value).toArray s 0 0 (va_A (ouW cy o fO (obhsW cy a P)) sz)) (F0 m 0 ls []) := by
    intro H locs hP hS ls hl
    refine lv_aload_n hx hb dL_removePoint_0 rfl (lv_at hl 3 rfl) ?_
    refine k_iconst hx hb dL_removePoint_1 ?_
    refine lv_aload_n hx hb dL_removePoint_2 rfl (lv_at hl 0 rfl) ?_
    refine lv_iload_n hx hb dL_removePoint_3 rfl (lv_at hl 1 rfl) ?_
    refine lv_iload_n hx hb dL_removePoint_4 rfl (lv_at hl 2 rfl) ?_
    have hPc := hP.sub (ws' := obhsW cy a P) [1, 2, 3, 4, 5, 6, 7, 8, 9, 10, 11, 12, 13, 14, 15, 16, 17, 18, 19, 20, 21, 22, 23, 24, 25, 26, 27, 28, 29, 30, 31, 32, 33, 34, 35, 36, 37, 38, 39, 40, 41, 42, 43, 44, 45, 46, 47, 48] rfl
    have hDc := hD.sub (ws' := obhsW cy a P) [1, 2, 3, 4, 5, 6, 7, 8, 9, 10, 11, 12, 13, 14, 15, 16, 17, 18, 19, 20, 21, 22, 23, 24, 25, 26, 27, 28, 29, 30, 31, 32, 33, 34, 35, 36, 37, 38, 39, 40, 41, 42, 43, 44, 45, 46, 47, 48] (by decide) rfl
    have hFc := va_free (wc := obhsW cy a P) hD hS hA [1, 2, 3, 4, 5, 6, 7, 8, 9, 10, 11, 12, 13, 14, 15, 16, 17, 18, 19, 20, 21, 22, 23, 24, 25, 26, 27, 28, 29, 30, 31, 32, 33, 34, 35, 36, 37, 38, 39, 40, 41, 42, 43, 44, 45, 46, 47, 48] rfl
    refine k_mui (k_runV (As := [.int (iI t), .int (iI q)]) (rest := [.int (iI 0), .ref o]) ⟨hx, hb, hml, hown, hts⟩ (c_X6_removePoint l D cy H.size a P t q hI hsv h0 h1 h2 h3) gL_removePoint_X6_removePoint rfl ⟨rfl, rfl⟩ 2 rfl (by decide +kernel) ⟨Nat.le_of_ble_eq_true rfl, Nat.le_of_ble_eq_true rfl⟩ (GG_ok D cy) hG hS hFc hPc hDc (va_recv hK hP (ci := 5) (q0 := 1) rfl rfl) hl.1 rfl (Nat.le_of_ble_eq_true rfl) ⟨Nat.le_of_ble_eq_true rfl, Nat.le_of_ble_eq_true rfl⟩ dL_removePoint_5) hFc hS (fun r8 u8 H1 locs1 hpost hP1 hD1 hS1 hk1 => ?_)
    have hJ := va_join (wr := [(o, .inl (cy 4, 1, .inr (.inl fO)))]) hP hD [1, 2, 3, 4, 5, 6, 7, 8, 9, 10, 11, 12, 13, 14, 15, 16, 17, 18, 19, 20, 21, 22, 23, 24, 25, 26, 27, 28, 29, 30, 31, 32, 33, 34, 35, 36, 37, 38, 39, 40, 41, 42, 43, 44, 45, 46, 47, 48] [0] rfl rfl (by decide) (by decide) hk1 hFc hP1 hD1
    obtain ⟨hP, hD⟩ := hJ
    have hS := hS1
    refine lv_i2l hx hb dL_removePoint_8 rfl ?_
    refine va_last hx hb hK hP hD hS 0 4 rfl rfl (i := iI 0) (vp_iI (by decide)) dL_removePoint_9 (fun H1 locs1 hP hD hS => ?_)
    refine lv_goto (tgt := 17) hx hb dL_removePoint_10 (by decide) ?_
    refine k_iconst hx hb dL_removePoint_17 ?_
    exact W.iret (v := iI 0) hx hb hr (fun t9 ht _ => ⟨⟨iI 0, (u8, vp_updL fO (iI 0).toNatClampNeg (iI r8).toInt64), rfl, ⟨0, rfl, rfl, r8, out_0 fO _, hpost⟩, by rw [ht]; exact hP, hD⟩, hS.F ht⟩) hS.2.2 dL_removePoint_18 hlocks
  exact hbody s.heap [] hP hS ls hl
set_option maxHeartbeats 4000000 in
set_option maxRecDepth 100000 in
theorem c_L_removePoint_t1 (l : Launch) (hl9 : l.stackTraces = false) (sz : Nat) (o : Nat) (D : va_G) (cy : Nat → ClassId) (a : Nat → Nat) (P : Nat → Int → Int) (t q : Int) (hI : Inv (mO P)) (hrt : -2147483648 ≤ t ∧ t ≤ 2147483647) (hrq : -2147483648 ≤ q ∧ q ≤ 2147483647) (hno : ¬ ((0 ≤ t ∧ t < P 0 0) ∧ 0 ≤ q ∧ q < P 1 t)) : Met l yL_removePoint wsL_removePoint { frames := 8, cells := 1, slots := 6, locals := 140 } (mPre (GX D cy) D (obplW cy a P) sz ([.ref (a 100), .int (iI t), .int (iI q), .ref o] : List Value)) (kQi D (obplW cy a P) sz (fun _ : Unit => obplW cy a P) (fun r _ => r = 1)) 1 6 (va_A (obplW cy a P) sz) := by
  refine kMW_start (cc := cL_removePoint) (maxL := 5) (ret := (some .int)) (by decide) rfl (Nat.le_of_ble_eq_true rfl) ?_
  intro p e s m below meth c hx hb hr hlocks hml hts hown htab hA hG hP hD hS ls hl
  have hK := hG.1.1.1
  have hl : lv_has ls 5 [(0, .ref (a 100)), (1, .int (iI t)), (2, .int (iI q)), (3, .ref o)] := hl
  have hbody : ∀ (H : Heap) (locs : List Loc) (hP : va_P D vwCl (obplW cy a P) H) (hS : va_S (va_A (obplW cy a P) sz) s.heap H locs) (ls : Array Slot) (hl : lv_has ls 5 [(0, .ref (a 100)), (1, .int (iI t)), (2, .int (iI q)), (3, .ref o)]), W p l e { frames := 8, cells := 1, slots := 6, locals := 140 } s m ([.ref (a 100), .int (iI t), .int (iI q), .ref o] : List Value).toArray below meth c H locs 0 0 (MQ below (kQi D (obplW cy a P) sz (fun _ : Unit => obplW cy a P) (fun r _ => r = 1)) ([.ref (a 100), .int (iI t), .int (iI q), .ref o] : List Value).toArray s 1 6 (va_A (obplW cy a P) sz)) (F0 m 0 ls []) := by
    intro H locs hP hS ls hl
    refine lv_aload_n hx hb dL_removePoint_0 rfl (lv_at hl 3 rfl) ?_
    refine k_iconst hx hb dL_removePoint_1 ?_
    refine lv_aload_n hx hb dL_removePoint_2 rfl (lv_at hl 0 rfl) ?_
    refine lv_iload_n hx hb dL_removePoint_3 rfl (lv_at hl 1 rfl) ?_
    refine lv_iload_n hx hb dL_removePoint_4 rfl (lv_at hl 2 rfl) ?_
    refine k_thV (As := [.int (iI t), .int (iI q)]) (rest := [.int (iI 0), .ref o]) ⟨hx, hb, hml, hown, hts⟩ (c_X6_removePoint_t1 l hl9 D cy a P t q hI hrt hrq hno) gL_removePoint_X6_removePoint rfl ⟨rfl, rfl⟩ 2 rfl (by decide +kernel) ⟨Nat.le_of_ble_eq_true rfl, Nat.le_of_ble_eq_true rfl⟩ (GX_ok D cy) ((GX_ok D cy).2.2.2 _ _ _ _ (fun _ h => h.elim) ((GX_ok D cy).1 _ _ _ _ hS.2.1 hG)) hP (va_recv hK hP (ci := 5) (q0 := 0) rfl rfl) hl.1 rfl (Nat.le_of_ble_eq_true rfl) ⟨Nat.le_of_ble_eq_true rfl, Nat.le_of_ble_eq_true rfl⟩ dL_removePoint_5 (fun ce q9 H1 z1 o1 e1 v1 f1 => ?_)
    refine vx_catch (E := exN 0) (name := exN 0) hown (tableOf []) ⟨0, 10, 13, 19⟩ (tableOf []) (by rw [htab]; rfl) (fun z h => by cases h) (by decide) (by decide) (hts (.classLink RL 19 (exN 0)) (by decide +kernel)) (va_Nw.use rfl (hG.2.1 0 (by decide)).2.1) e1 v1 f1 ?_
    have hP1 := P_grow hP o1
    have hS1 := S_grow hS z1 o1
    refine lv_astore (lv' := [(4, .ref q9), (0, .ref (a 100)), (1, .int (iI t)), (2, .int (iI q)), (3, .ref o)]) hx hb dL_removePoint_13 hl (by decide) rfl (fun ls hl => ?_)
    refine k_iconst hx hb dL_removePoint_15 ?_
    exact W.iret (v := iI 1) hx hb hr (fun t9 ht _ => ⟨⟨iI 1, (), rfl, ⟨1, rfl, rfl⟩, by rw [ht]; exact hP1, hD⟩, hS1.F ht⟩) hS1.2.2 dL_removePoint_16 hlocks
  exact hbody s.heap [] hP hS ls hl
set_option maxHeartbeats 4000000 in
set_option maxRecDepth 100000 in
theorem c_L_set (l : Launch) (sz : Nat) (o : Nat) (fO : Nat → Int64) (D : va_G) (cy : Nat → ClassId) (a : Nat → Nat) (P : Nat → Int → Int) (w v : Int) (hI : Inv (mO P)) (hsv : 0 ≤ P 50 1 ∧ P 50 1 ≤ 4) (hrw : -2147483648 ≤ w ∧ w ≤ 2147483647) (hrv : -2147483648 ≤ v ∧ v ≤ 2147483647) (hok : setOK w v) : Met l yL_set wsL_set { frames := 6, cells := 0, slots := 0, locals := 135 } (mPre (GG D cy) D (ouW cy o fO (obhsW cy a P)) sz ([.ref (a 100), .int (iI w), .int (iI v), .ref o] : List Value)) (kQi D (ouW cy o fO (obhsW cy a P)) sz (fun u8 : ((Nat → Nat) × (Nat → Int → Int)) × (Nat → Int64) => ouW cy o u8.2 (obhsW cy (pgm a u8.1.1) u8.1.2)) (ouP (fun r9 u9 => r9 = P 8 w ∧ opd P u9.2 (mO (upr P 8 (ups (P 8) w v)))))) 0 0 (va_A (ouW cy o fO (obhsW cy a P)) sz) := by
  refine kMW_start (cc := cL_set) (maxL := 5) (ret := (some .int)) (by decide) rfl (Nat.le_of_ble_eq_true rfl) ?_
  intro p e s m below meth c hx hb hr hlocks hml hts hown htab hA hG hP hD hS ls hl
  have hK := hG.1
  have hl : lv_has ls 5 [(0, .ref (a 100)), (1, .int (iI w)), (2, .int (iI v)), (3, .ref o)] := hl
  have hbody : ∀ (H : Heap) (locs : List Loc) (hP : va_P D vwCl (ouW cy o fO (obhsW cy a P)) H) (hS : va_S (va_A (ouW cy o fO (obhsW cy a P)) sz) s.heap H locs) (ls : Array Slot) (hl : lv_has ls 5 [(0, .ref (a 100)), (1, .int (iI w)), (2, .int (iI v)), (3, .ref o)]), W p l e { frames := 6, cells := 0, slots := 0, locals := 135 } s m ([.ref (a 100), .int (iI w), .int (iI v), .ref o] : List Value).toArray below meth c H locs 0 0 (MQ below (kQi D (ouW cy o fO (obhsW cy a P)) sz (fun u8 : ((Nat → Nat) × (Nat → Int → Int)) × (Nat → Int64) => ouW cy o u8.2 (obhsW cy (pgm a u8.1.1) u8.1.2)) (ouP (fun r9 u9 => r9 = P 8 w ∧ opd P u9.2 (mO (upr P 8 (ups (P 8) w v)))))) ([.ref (a 100), .int (iI w), .int (iI v), .ref o] : List Value).toArray s 0 0 (va_A (ouW cy o fO (obhsW cy a P)) sz)) (F0 m 0 ls []) := by
    intro H locs hP hS ls hl
    refine lv_aload_n hx hb dL_set_0 rfl (lv_at hl 3 rfl) ?_
    refine k_iconst hx hb dL_set_1 ?_
    refine lv_aload_n hx hb dL_set_2 rfl (lv_at hl 0 rfl) ?_
    refine lv_iload_n hx hb dL_set_3 rfl (lv_at hl 1 rfl) ?_
    refine lv_iload_n hx hb dL_set_4 rfl (lv_at hl 2 rfl) ?_
    have hPc := hP.sub (ws' := obhsW cy a P) [1, 2, 3, 4, 5, 6, 7, 8, 9, 10, 11, 12, 13, 14, 15, 16, 17, 18, 19, 20, 21, 22, 23, 24, 25, 26, 27, 28, 29, 30, 31, 32, 33, 34, 35, 36, 37, 38, 39, 40, 41, 42, 43, 44, 45, 46, 47, 48] rfl
    have hDc := hD.sub (ws' := obhsW cy a P) [1, 2, 3, 4, 5, 6, 7, 8, 9, 10, 11, 12, 13, 14, 15, 16, 17, 18, 19, 20, 21, 22, 23, 24, 25, 26, 27, 28, 29, 30, 31, 32, 33, 34, 35, 36, 37, 38, 39, 40, 41, 42, 43, 44, 45, 46, 47, 48] (by decide) rfl
    have hFc := va_free (wc := obhsW cy a P) hD hS hA [1, 2, 3, 4, 5, 6, 7, 8, 9, 10, 11, 12, 13, 14, 15, 16, 17, 18, 19, 20, 21, 22, 23, 24, 25, 26, 27, 28, 29, 30, 31, 32, 33, 34, 35, 36, 37, 38, 39, 40, 41, 42, 43, 44, 45, 46, 47, 48] rfl
    refine k_mui (k_runV (As := [.int (iI w), .int (iI v)]) (rest := [.int (iI 0), .ref o]) ⟨hx, hb, hml, hown, hts⟩ (c_X6_set l D cy H.size a P w v hI hsv hrw hrv hok) gL_set_X6_set rfl ⟨rfl, rfl⟩ 2 rfl (by decide +kernel) ⟨Nat.le_of_ble_eq_true rfl, Nat.le_of_ble_eq_true rfl⟩ (GG_ok D cy) hG hS hFc hPc hDc (va_recv hK hP (ci := 5) (q0 := 1) rfl rfl) hl.1 rfl (Nat.le_of_ble_eq_true rfl) ⟨Nat.le_of_ble_eq_true rfl, Nat.le_of_ble_eq_true rfl⟩ dL_set_5) hFc hS (fun r8 u8 H1 locs1 hpost hP1 hD1 hS1 hk1 => ?_)
    have hJ := va_join (wr := [(o, .inl (cy 4, 1, .inr (.inl fO)))]) hP hD [1, 2, 3, 4, 5, 6, 7, 8, 9, 10, 11, 12, 13, 14, 15, 16, 17, 18, 19, 20, 21, 22, 23, 24, 25, 26, 27, 28, 29, 30, 31, 32, 33, 34, 35, 36, 37, 38, 39, 40, 41, 42, 43, 44, 45, 46, 47, 48] [0] rfl rfl (by decide) (by decide) hk1 hFc hP1 hD1
    obtain ⟨hP, hD⟩ := hJ
    have hS := hS1
    refine lv_i2l hx hb dL_set_8 rfl ?_
    refine va_last hx hb hK hP hD hS 0 4 rfl rfl (i := iI 0) (vp_iI (by decide)) dL_set_9 (fun H1 locs1 hP hD hS => ?_)
    refine lv_goto (tgt := 17) hx hb dL_set_10 (by decide) ?_
    refine k_iconst hx hb dL_set_17 ?_
    exact W.iret (v := iI 0) hx hb hr (fun t9 ht _ => ⟨⟨iI 0, (u8, vp_updL fO (iI 0).toNatClampNeg (iI r8).toInt64), rfl, ⟨0, rfl, rfl, r8, out_0 fO _, hpost⟩, by rw [ht]; exact hP, hD⟩, hS.F ht⟩) hS.2.2 dL_set_18 hlocks
  exact hbody s.heap [] hP hS ls hl
set_option maxHeartbeats 4000000 in
set_option maxRecDepth 100000 in
theorem c_L_set_t2 (l : Launch) (hl9 : l.stackTraces = false) (sz : Nat) (o : Nat) (D : va_G) (cy : Nat → ClassId) (a : Nat → Nat) (P : Nat → Int → Int) (w v : Int) (hrw : -2147483648 ≤ w ∧ w ≤ 2147483647) (hrv : -2147483648 ≤ v ∧ v ≤ 2147483647) (hno : ¬ setOK w v) : Met l yL_set wsL_set { frames := 8, cells := 1, slots := 6, locals := 140 } (mPre (GX D cy) D (obplW cy a P) sz ([.ref (a 100), .int (iI w), .int (iI v), .ref o] : List Value)) (kQi D (obplW cy a P) sz (fun _ : Unit => obplW cy a P) (fun r _ => r = 1)) 1 6 (va_A (obplW cy a P) sz) := by
  refine kMW_start (cc := cL_set) (maxL := 5) (ret := (some .int)) (by decide) rfl (Nat.le_of_ble_eq_true rfl) ?_
  intro p e s m below meth c hx hb hr hlocks hml hts hown htab hA hG hP hD hS ls hl
  have hK := hG.1.1.1
  have hl : lv_has ls 5 [(0, .ref (a 100)), (1, .int (iI w)), (2, .int (iI v)), (3, .ref o)] := hl
  have hbody : ∀ (H : Heap) (locs : List Loc) (hP : va_P D vwCl (obplW cy a P) H) (hS : va_S (va_A (obplW cy a P) sz) s.heap H locs) (ls : Array Slot) (hl : lv_has ls 5 [(0, .ref (a 100)), (1, .int (iI w)), (2, .int (iI v)), (3, .ref o)]), W p l e { frames := 8, cells := 1, slots := 6, locals := 140 } s m ([.ref (a 100), .int (iI w), .int (iI v), .ref o] : List Value).toArray below meth c H locs 0 0 (MQ below (kQi D (obplW cy a P) sz (fun _ : Unit => obplW cy a P) (fun r _ => r = 1)) ([.ref (a 100), .int (iI w), .int (iI v), .ref o] : List Value).toArray s 1 6 (va_A (obplW cy a P) sz)) (F0 m 0 ls []) := by
    intro H locs hP hS ls hl
    refine lv_aload_n hx hb dL_set_0 rfl (lv_at hl 3 rfl) ?_
    refine k_iconst hx hb dL_set_1 ?_
    refine lv_aload_n hx hb dL_set_2 rfl (lv_at hl 0 rfl) ?_
    refine lv_iload_n hx hb dL_set_3 rfl (lv_at hl 1 rfl) ?_
    refine lv_iload_n hx hb dL_set_4 rfl (lv_at hl 2 rfl) ?_
    refine k_thV (As := [.int (iI w), .int (iI v)]) (rest := [.int (iI 0), .ref o]) ⟨hx, hb, hml, hown, hts⟩ (c_X6_set_t2 l hl9 D cy a P w v hrw hrv hno) gL_set_X6_set rfl ⟨rfl, rfl⟩ 2 rfl (by decide +kernel) ⟨Nat.le_of_ble_eq_true rfl, Nat.le_of_ble_eq_true rfl⟩ (GX_ok D cy) ((GX_ok D cy).2.2.2 _ _ _ _ (fun _ h => h.elim) ((GX_ok D cy).1 _ _ _ _ hS.2.1 hG)) hP (va_recv hK hP (ci := 5) (q0 := 0) rfl rfl) hl.1 rfl (Nat.le_of_ble_eq_true rfl) ⟨Nat.le_of_ble_eq_true rfl, Nat.le_of_ble_eq_true rfl⟩ dL_set_5 (fun ce q9 H1 z1 o1 e1 v1 f1 => ?_)
    refine vx_catch (E := exN 1) (name := exN 1) hown (tableOf []) ⟨0, 10, 13, 25⟩ (tableOf []) (by rw [htab]; rfl) (fun z h => by cases h) (by decide) (by decide) (hts (.classLink RL 25 (exN 1)) (by decide +kernel)) (va_Nw.use rfl (hG.2.1 1 (by decide)).2.1) e1 v1 f1 ?_
    have hP1 := P_grow hP o1
    have hS1 := S_grow hS z1 o1
    refine lv_astore (lv' := [(4, .ref q9), (0, .ref (a 100)), (1, .int (iI w)), (2, .int (iI v)), (3, .ref o)]) hx hb dL_set_13 hl (by decide) rfl (fun ls hl => ?_)
    refine k_iconst hx hb dL_set_15 ?_
    exact W.iret (v := iI 1) hx hb hr (fun t9 ht _ => ⟨⟨iI 1, (), rfl, ⟨1, rfl, rfl⟩, by rw [ht]; exact hP1, hD⟩, hS1.F ht⟩) hS1.2.2 dL_set_16 hlocks
  exact hbody s.heap [] hP hS ls hl
set_option maxHeartbeats 4000000 in
set_option maxRecDepth 100000 in
theorem c_L_setPole (l : Launch) (sz : Nat) (o : Nat) (fO : Nat → Int64) (D : va_G) (cy : Nat → ClassId) (a : Nat → Nat) (P : Nat → Int → Int) (x y : Int) (hI : Inv (mO P)) (hsv : 0 ≤ P 50 1 ∧ P 50 1 ≤ 4) (hrx : -2147483648 ≤ x ∧ x ≤ 2147483647) (hry : -2147483648 ≤ y ∧ y ≤ 2147483647) (hpo : poleOK x y) : Met l yL_setPole wsL_setPole { frames := 6, cells := 0, slots := 0, locals := 154 } (mPre (GG D cy) D (ouW cy o fO (obhsW cy a P)) sz ([.ref (a 100), .int (iI x), .int (iI y), .ref o] : List Value)) (kQi D (ouW cy o fO (obhsW cy a P)) sz (fun u8 : ((Nat → Nat) × (Nat → Int → Int)) × (Nat → Int64) => ouW cy o u8.2 (obhsW cy (pgm a u8.1.1) u8.1.2)) (ouP (fun r9 u9 => r9 = pcost (tPo (mO P) x y) ∧ opd P u9.2 (tPo (mO P) x y)))) 0 0 (va_A (ouW cy o fO (obhsW cy a P)) sz) := by
  refine kMW_start (cc := cL_setPole) (maxL := 5) (ret := (some .int)) (by decide) rfl (Nat.le_of_ble_eq_true rfl) ?_
  intro p e s m below meth c hx hb hr hlocks hml hts hown htab hA hG hP hD hS ls hl
  have hK := hG.1
  have hl : lv_has ls 5 [(0, .ref (a 100)), (1, .int (iI x)), (2, .int (iI y)), (3, .ref o)] := hl
  have hbody : ∀ (H : Heap) (locs : List Loc) (hP : va_P D vwCl (ouW cy o fO (obhsW cy a P)) H) (hS : va_S (va_A (ouW cy o fO (obhsW cy a P)) sz) s.heap H locs) (ls : Array Slot) (hl : lv_has ls 5 [(0, .ref (a 100)), (1, .int (iI x)), (2, .int (iI y)), (3, .ref o)]), W p l e { frames := 6, cells := 0, slots := 0, locals := 154 } s m ([.ref (a 100), .int (iI x), .int (iI y), .ref o] : List Value).toArray below meth c H locs 0 0 (MQ below (kQi D (ouW cy o fO (obhsW cy a P)) sz (fun u8 : ((Nat → Nat) × (Nat → Int → Int)) × (Nat → Int64) => ouW cy o u8.2 (obhsW cy (pgm a u8.1.1) u8.1.2)) (ouP (fun r9 u9 => r9 = pcost (tPo (mO P) x y) ∧ opd P u9.2 (tPo (mO P) x y)))) ([.ref (a 100), .int (iI x), .int (iI y), .ref o] : List Value).toArray s 0 0 (va_A (ouW cy o fO (obhsW cy a P)) sz)) (F0 m 0 ls []) := by
    intro H locs hP hS ls hl
    refine lv_aload_n hx hb dL_setPole_0 rfl (lv_at hl 3 rfl) ?_
    refine k_iconst hx hb dL_setPole_1 ?_
    refine lv_aload_n hx hb dL_setPole_2 rfl (lv_at hl 0 rfl) ?_
    refine lv_iload_n hx hb dL_setPole_3 rfl (lv_at hl 1 rfl) ?_
    refine lv_iload_n hx hb dL_setPole_4 rfl (lv_at hl 2 rfl) ?_
    have hPc := hP.sub (ws' := obhsW cy a P) [1, 2, 3, 4, 5, 6, 7, 8, 9, 10, 11, 12, 13, 14, 15, 16, 17, 18, 19, 20, 21, 22, 23, 24, 25, 26, 27, 28, 29, 30, 31, 32, 33, 34, 35, 36, 37, 38, 39, 40, 41, 42, 43, 44, 45, 46, 47, 48] rfl
    have hDc := hD.sub (ws' := obhsW cy a P) [1, 2, 3, 4, 5, 6, 7, 8, 9, 10, 11, 12, 13, 14, 15, 16, 17, 18, 19, 20, 21, 22, 23, 24, 25, 26, 27, 28, 29, 30, 31, 32, 33, 34, 35, 36, 37, 38, 39, 40, 41, 42, 43, 44, 45, 46, 47, 48] (by decide) rfl
    have hFc := va_free (wc := obhsW cy a P) hD hS hA [1, 2, 3, 4, 5, 6, 7, 8, 9, 10, 11, 12, 13, 14, 15, 16, 17, 18, 19, 20, 21, 22, 23, 24, 25, 26, 27, 28, 29, 30, 31, 32, 33, 34, 35, 36, 37, 38, 39, 40, 41, 42, 43, 44, 45, 46, 47, 48] rfl
    refine k_mui (k_runV (As := [.int (iI x), .int (iI y)]) (rest := [.int (iI 0), .ref o]) ⟨hx, hb, hml, hown, hts⟩ (c_X6_setPole l D cy H.size a P x y hI hsv hrx hry hpo) gL_setPole_X6_setPole rfl ⟨rfl, rfl⟩ 2 rfl (by decide +kernel) ⟨Nat.le_of_ble_eq_true rfl, Nat.le_of_ble_eq_true rfl⟩ (GG_ok D cy) hG hS hFc hPc hDc (va_recv hK hP (ci := 5) (q0 := 1) rfl rfl) hl.1 rfl (Nat.le_of_ble_eq_true rfl) ⟨Nat.le_of_ble_eq_true rfl, Nat.le_of_ble_eq_true rfl⟩ dL_setPole_5) hFc hS (fun r8 u8 H1 locs1 hpost hP1 hD1 hS1 hk1 => ?_)
    have hJ := va_join (wr := [(o, .inl (cy 4, 1, .inr (.inl fO)))]) hP hD [1, 2, 3, 4, 5, 6, 7, 8, 9, 10, 11, 12, 13, 14, 15, 16, 17, 18, 19, 20, 21, 22, 23, 24, 25, 26, 27, 28, 29, 30, 31, 32, 33, 34, 35, 36, 37, 38, 39, 40, 41, 42, 43, 44, 45, 46, 47, 48] [0] rfl rfl (by decide) (by decide) hk1 hFc hP1 hD1
    obtain ⟨hP, hD⟩ := hJ
    have hS := hS1
    refine lv_i2l hx hb dL_setPole_8 rfl ?_
    refine va_last hx hb hK hP hD hS 0 4 rfl rfl (i := iI 0) (vp_iI (by decide)) dL_setPole_9 (fun H1 locs1 hP hD hS => ?_)
    refine lv_goto (tgt := 17) hx hb dL_setPole_10 (by decide) ?_
    refine k_iconst hx hb dL_setPole_17 ?_
    exact W.iret (v := iI 0) hx hb hr (fun t9 ht _ => ⟨⟨iI 0, (u8, vp_updL fO (iI 0).toNatClampNeg (iI r8).toInt64), rfl, ⟨0, rfl, rfl, r8, out_0 fO _, hpost⟩, by rw [ht]; exact hP, hD⟩, hS.F ht⟩) hS.2.2 dL_setPole_18 hlocks
  exact hbody s.heap [] hP hS ls hl
set_option maxHeartbeats 4000000 in
set_option maxRecDepth 100000 in
theorem c_L_setPole_t2 (l : Launch) (hl9 : l.stackTraces = false) (sz : Nat) (o : Nat) (D : va_G) (cy : Nat → ClassId) (a : Nat → Nat) (P : Nat → Int → Int) (x y : Int) (hrx : -2147483648 ≤ x ∧ x ≤ 2147483647) (hry : -2147483648 ≤ y ∧ y ≤ 2147483647) (hno : ¬ poleOK x y) : Met l yL_setPole wsL_setPole { frames := 8, cells := 1, slots := 6, locals := 140 } (mPre (GX D cy) D (obplW cy a P) sz ([.ref (a 100), .int (iI x), .int (iI y), .ref o] : List Value)) (kQi D (obplW cy a P) sz (fun _ : Unit => obplW cy a P) (fun r _ => r = 1)) 1 6 (va_A (obplW cy a P) sz) := by
  refine kMW_start (cc := cL_setPole) (maxL := 5) (ret := (some .int)) (by decide) rfl (Nat.le_of_ble_eq_true rfl) ?_
  intro p e s m below meth c hx hb hr hlocks hml hts hown htab hA hG hP hD hS ls hl
  have hK := hG.1.1.1
  have hl : lv_has ls 5 [(0, .ref (a 100)), (1, .int (iI x)), (2, .int (iI y)), (3, .ref o)] := hl
  have hbody : ∀ (H : Heap) (locs : List Loc) (hP : va_P D vwCl (obplW cy a P) H) (hS : va_S (va_A (obplW cy a P) sz) s.heap H locs) (ls : Array Slot) (hl : lv_has ls 5 [(0, .ref (a 100)), (1, .int (iI x)), (2, .int (iI y)), (3, .ref o)]), W p l e { frames := 8, cells := 1, slots := 6, locals := 140 } s m ([.ref (a 100), .int (iI x), .int (iI y), .ref o] : List Value).toArray below meth c H locs 0 0 (MQ below (kQi D (obplW cy a P) sz (fun _ : Unit => obplW cy a P) (fun r _ => r = 1)) ([.ref (a 100), .int (iI x), .int (iI y), .ref o] : List Value).toArray s 1 6 (va_A (obplW cy a P) sz)) (F0 m 0 ls []) := by
    intro H locs hP hS ls hl
    refine lv_aload_n hx hb dL_setPole_0 rfl (lv_at hl 3 rfl) ?_
    refine k_iconst hx hb dL_setPole_1 ?_
    refine lv_aload_n hx hb dL_setPole_2 rfl (lv_at hl 0 rfl) ?_
    refine lv_iload_n hx hb dL_setPole_3 rfl (lv_at hl 1 rfl) ?_
    refine lv_iload_n hx hb dL_setPole_4 rfl (lv_at hl 2 rfl) ?_
    refine k_thV (As := [.int (iI x), .int (iI y)]) (rest := [.int (iI 0), .ref o]) ⟨hx, hb, hml, hown, hts⟩ (c_X6_setPole_t2 l hl9 D cy a P x y hrx hry hno) gL_setPole_X6_setPole rfl ⟨rfl, rfl⟩ 2 rfl (by decide +kernel) ⟨Nat.le_of_ble_eq_true rfl, Nat.le_of_ble_eq_true rfl⟩ (GX_ok D cy) ((GX_ok D cy).2.2.2 _ _ _ _ (fun _ h => h.elim) ((GX_ok D cy).1 _ _ _ _ hS.2.1 hG)) hP (va_recv hK hP (ci := 5) (q0 := 0) rfl rfl) hl.1 rfl (Nat.le_of_ble_eq_true rfl) ⟨Nat.le_of_ble_eq_true rfl, Nat.le_of_ble_eq_true rfl⟩ dL_setPole_5 (fun ce q9 H1 z1 o1 e1 v1 f1 => ?_)
    refine vx_catch (E := exN 1) (name := exN 1) hown (tableOf []) ⟨0, 10, 13, 25⟩ (tableOf []) (by rw [htab]; rfl) (fun z h => by cases h) (by decide) (by decide) (hts (.classLink RL 25 (exN 1)) (by decide +kernel)) (va_Nw.use rfl (hG.2.1 1 (by decide)).2.1) e1 v1 f1 ?_
    have hP1 := P_grow hP o1
    have hS1 := S_grow hS z1 o1
    refine lv_astore (lv' := [(4, .ref q9), (0, .ref (a 100)), (1, .int (iI x)), (2, .int (iI y)), (3, .ref o)]) hx hb dL_setPole_13 hl (by decide) rfl (fun ls hl => ?_)
    refine k_iconst hx hb dL_setPole_15 ?_
    exact W.iret (v := iI 1) hx hb hr (fun t9 ht _ => ⟨⟨iI 1, (), rfl, ⟨1, rfl, rfl⟩, by rw [ht]; exact hP1, hD⟩, hS1.F ht⟩) hS1.2.2 dL_setPole_16 hlocks
  exact hbody s.heap [] hP hS ls hl
set_option maxHeartbeats 4000000 in
set_option maxRecDepth 100000 in
theorem c_L_search (l : Launch) (sz : Nat) (o : Nat) (fO : Nat → Int64) (D : va_G) (cy : Nat → ClassId) (a : Nat → Nat) (P : Nat → Int → Int) (s9 : Int) (hI : Inv (mO P)) (hsv : 0 ≤ P 50 1 ∧ P 50 1 ≤ 4) (hs9 : 1 ≤ s9 ∧ s9 ≤ 512) : Met l yL_search wsL_search { frames := 6, cells := 0, slots := 0, locals := 165 } (mPre (GG D cy) D (ouW cy o fO (obhsW cy a P)) sz ([.ref (a 100), .int (iI s9), .ref o] : List Value)) (kQi D (ouW cy o fO (obhsW cy a P)) sz (fun u8 : ((Nat → Nat) × (Nat → Int → Int)) × (Nat → Int64) => ouW cy o u8.2 (obhsW cy (pgm a u8.1.1) u8.1.2)) (ouP (fun r9 u9 => r9 = (srch (mO P) s9).2 ∧ opd P u9.2 ((srch (mO P) s9).1)))) 0 0 (va_A (ouW cy o fO (obhsW cy a P)) sz) := by
  refine kMW_start (cc := cL_search) (maxL := 4) (ret := (some .int)) (by decide) rfl (Nat.le_of_ble_eq_true rfl) ?_
  intro p e s m below meth c hx hb hr hlocks hml hts hown htab hA hG hP hD hS ls hl
  have hK := hG.1
  have hl : lv_has ls 4 [(0, .ref (a 100)), (1, .int (iI s9)), (2, .ref o)] := hl
  have hbody : ∀ (H : Heap) (locs : List Loc) (hP : va_P D vwCl (ouW cy o fO (obhsW cy a P)) H) (hS : va_S (va_A (ouW cy o fO (obhsW cy a P)) sz) s.heap H locs) (ls : Array Slot) (hl : lv_has ls 4 [(0, .ref (a 100)), (1, .int (iI s9)), (2, .ref o)]), W p l e { frames := 6, cells := 0, slots := 0, locals := 165 } s m ([.ref (a 100), .int (iI s9), .ref o] : List Value).toArray below meth c H locs 0 0 (MQ below (kQi D (ouW cy o fO (obhsW cy a P)) sz (fun u8 : ((Nat → Nat) × (Nat → Int → Int)) × (Nat → Int64) => ouW cy o u8.2 (obhsW cy (pgm a u8.1.1) u8.1.2)) (ouP (fun r9 u9 => r9 = (srch (mO P) s9).2 ∧ opd P u9.2 ((srch (mO P) s9).1)))) ([.ref (a 100), .int (iI s9), .ref o] : List Value).toArray s 0 0 (va_A (ouW cy o fO (obhsW cy a P)) sz)) (F0 m 0 ls []) := by
    intro H locs hP hS ls hl
    refine lv_aload_n hx hb dL_search_0 rfl (lv_at hl 2 rfl) ?_
    refine k_iconst hx hb dL_search_1 ?_
    refine lv_aload_n hx hb dL_search_2 rfl (lv_at hl 0 rfl) ?_
    refine lv_iload_n hx hb dL_search_3 rfl (lv_at hl 1 rfl) ?_
    have hPc := hP.sub (ws' := obhsW cy a P) [1, 2, 3, 4, 5, 6, 7, 8, 9, 10, 11, 12, 13, 14, 15, 16, 17, 18, 19, 20, 21, 22, 23, 24, 25, 26, 27, 28, 29, 30, 31, 32, 33, 34, 35, 36, 37, 38, 39, 40, 41, 42, 43, 44, 45, 46, 47, 48] rfl
    have hDc := hD.sub (ws' := obhsW cy a P) [1, 2, 3, 4, 5, 6, 7, 8, 9, 10, 11, 12, 13, 14, 15, 16, 17, 18, 19, 20, 21, 22, 23, 24, 25, 26, 27, 28, 29, 30, 31, 32, 33, 34, 35, 36, 37, 38, 39, 40, 41, 42, 43, 44, 45, 46, 47, 48] (by decide) rfl
    have hFc := va_free (wc := obhsW cy a P) hD hS hA [1, 2, 3, 4, 5, 6, 7, 8, 9, 10, 11, 12, 13, 14, 15, 16, 17, 18, 19, 20, 21, 22, 23, 24, 25, 26, 27, 28, 29, 30, 31, 32, 33, 34, 35, 36, 37, 38, 39, 40, 41, 42, 43, 44, 45, 46, 47, 48] rfl
    refine k_mui (k_runV (As := [.int (iI s9)]) (rest := [.int (iI 0), .ref o]) ⟨hx, hb, hml, hown, hts⟩ (c_X6_search l D cy H.size a P s9 hI hsv hs9) gL_search_X6_search rfl ⟨rfl, rfl⟩ 1 rfl (by decide +kernel) ⟨Nat.le_of_ble_eq_true rfl, Nat.le_of_ble_eq_true rfl⟩ (GG_ok D cy) hG hS hFc hPc hDc (va_recv hK hP (ci := 5) (q0 := 1) rfl rfl) hl.1 rfl (Nat.le_of_ble_eq_true rfl) ⟨Nat.le_of_ble_eq_true rfl, Nat.le_of_ble_eq_true rfl⟩ dL_search_4) hFc hS (fun r8 u8 H1 locs1 hpost hP1 hD1 hS1 hk1 => ?_)
    have hJ := va_join (wr := [(o, .inl (cy 4, 1, .inr (.inl fO)))]) hP hD [1, 2, 3, 4, 5, 6, 7, 8, 9, 10, 11, 12, 13, 14, 15, 16, 17, 18, 19, 20, 21, 22, 23, 24, 25, 26, 27, 28, 29, 30, 31, 32, 33, 34, 35, 36, 37, 38, 39, 40, 41, 42, 43, 44, 45, 46, 47, 48] [0] rfl rfl (by decide) (by decide) hk1 hFc hP1 hD1
    obtain ⟨hP, hD⟩ := hJ
    have hS := hS1
    refine lv_i2l hx hb dL_search_7 rfl ?_
    refine va_last hx hb hK hP hD hS 0 4 rfl rfl (i := iI 0) (vp_iI (by decide)) dL_search_8 (fun H1 locs1 hP hD hS => ?_)
    refine lv_goto (tgt := 15) hx hb dL_search_9 (by decide) ?_
    refine k_iconst hx hb dL_search_15 ?_
    exact W.iret (v := iI 0) hx hb hr (fun t9 ht _ => ⟨⟨iI 0, (u8, vp_updL fO (iI 0).toNatClampNeg (iI r8).toInt64), rfl, ⟨0, rfl, rfl, r8, out_0 fO _, hpost⟩, by rw [ht]; exact hP, hD⟩, hS.F ht⟩) hS.2.2 dL_search_16 hlocks
  exact hbody s.heap [] hP hS ls hl
set_option maxHeartbeats 4000000 in
set_option maxRecDepth 100000 in
theorem c_L_search_t2 (l : Launch) (hl9 : l.stackTraces = false) (sz : Nat) (o : Nat) (D : va_G) (cy : Nat → ClassId) (a : Nat → Nat) (P : Nat → Int → Int) (s9 : Int) (hrs9 : -2147483648 ≤ s9 ∧ s9 ≤ 2147483647) (hno : ¬ (1 ≤ s9 ∧ s9 ≤ 512)) : Met l yL_search wsL_search { frames := 8, cells := 1, slots := 6, locals := 139 } (mPre (GX D cy) D (obplW cy a P) sz ([.ref (a 100), .int (iI s9), .ref o] : List Value)) (kQi D (obplW cy a P) sz (fun _ : Unit => obplW cy a P) (fun r _ => r = 1)) 1 6 (va_A (obplW cy a P) sz) := by
  refine kMW_start (cc := cL_search) (maxL := 4) (ret := (some .int)) (by decide) rfl (Nat.le_of_ble_eq_true rfl) ?_
  intro p e s m below meth c hx hb hr hlocks hml hts hown htab hA hG hP hD hS ls hl
  have hK := hG.1.1.1
  have hl : lv_has ls 4 [(0, .ref (a 100)), (1, .int (iI s9)), (2, .ref o)] := hl
  have hbody : ∀ (H : Heap) (locs : List Loc) (hP : va_P D vwCl (obplW cy a P) H) (hS : va_S (va_A (obplW cy a P) sz) s.heap H locs) (ls : Array Slot) (hl : lv_has ls 4 [(0, .ref (a 100)), (1, .int (iI s9)), (2, .ref o)]), W p l e { frames := 8, cells := 1, slots := 6, locals := 139 } s m ([.ref (a 100), .int (iI s9), .ref o] : List Value).toArray below meth c H locs 0 0 (MQ below (kQi D (obplW cy a P) sz (fun _ : Unit => obplW cy a P) (fun r _ => r = 1)) ([.ref (a 100), .int (iI s9), .ref o] : List Value).toArray s 1 6 (va_A (obplW cy a P) sz)) (F0 m 0 ls []) := by
    intro H locs hP hS ls hl
    refine lv_aload_n hx hb dL_search_0 rfl (lv_at hl 2 rfl) ?_
    refine k_iconst hx hb dL_search_1 ?_
    refine lv_aload_n hx hb dL_search_2 rfl (lv_at hl 0 rfl) ?_
    refine lv_iload_n hx hb dL_search_3 rfl (lv_at hl 1 rfl) ?_
    refine k_thV (As := [.int (iI s9)]) (rest := [.int (iI 0), .ref o]) ⟨hx, hb, hml, hown, hts⟩ (c_X6_search_t2 l hl9 D cy a P s9 hrs9 hno) gL_search_X6_search rfl ⟨rfl, rfl⟩ 1 rfl (by decide +kernel) ⟨Nat.le_of_ble_eq_true rfl, Nat.le_of_ble_eq_true rfl⟩ (GX_ok D cy) ((GX_ok D cy).2.2.2 _ _ _ _ (fun _ h => h.elim) ((GX_ok D cy).1 _ _ _ _ hS.2.1 hG)) hP (va_recv hK hP (ci := 5) (q0 := 0) rfl rfl) hl.1 rfl (Nat.le_of_ble_eq_true rfl) ⟨Nat.le_of_ble_eq_true rfl, Nat.le_of_ble_eq_true rfl⟩ dL_search_4 (fun ce q9 H1 z1 o1 e1 v1 f1 => ?_)
    refine vx_catch (E := exN 1) (name := exN 1) hown (tableOf []) ⟨0, 9, 12, 25⟩ (tableOf []) (by rw [htab]; rfl) (fun z h => by cases h) (by decide) (by decide) (hts (.classLink RL 25 (exN 1)) (by decide +kernel)) (va_Nw.use rfl (hG.2.1 1 (by decide)).2.1) e1 v1 f1 ?_
    have hP1 := P_grow hP o1
    have hS1 := S_grow hS z1 o1
    refine lv_astore_n (lv' := [(3, .ref q9), (0, .ref (a 100)), (1, .int (iI s9)), (2, .ref o)]) hx hb dL_search_12 rfl hl (by decide) rfl (fun ls hl => ?_)
    refine k_iconst hx hb dL_search_13 ?_
    exact W.iret (v := iI 1) hx hb hr (fun t9 ht _ => ⟨⟨iI 1, (), rfl, ⟨1, rfl, rfl⟩, by rw [ht]; exact hP1, hD⟩, hS1.F ht⟩) hS1.2.2 dL_search_14 hlocks
  exact hbody s.heap [] hP hS ls hl
set_option maxHeartbeats 4000000 in
set_option maxRecDepth 100000 in
theorem c_L_addStar (l : Launch) (sz : Nat) (o : Nat) (fO : Nat → Int64) (D : va_G) (cy : Nat → ClassId) (a : Nat → Nat) (P : Nat → Int → Int) (x y z : Int) (hI : Inv (mO P)) (hsv : 0 ≤ P 50 1 ∧ P 50 1 ≤ 4) (hrx : -2147483648 ≤ x ∧ x ≤ 2147483647) (hry : -2147483648 ≤ y ∧ y ≤ 2147483647) (hrz : -2147483648 ≤ z ∧ z ≤ 2147483647) (hsk : starOK x y z) (hok : P 0 1 < 12) : Met l yL_addStar wsL_addStar { frames := 6, cells := 0, slots := 0, locals := 136 } (mPre (GG D cy) D (ouW cy o fO (obhsW cy a P)) sz ([.ref (a 100), .int (iI x), .int (iI y), .int (iI z), .ref o] : List Value)) (kQi D (ouW cy o fO (obhsW cy a P)) sz (fun u8 : ((Nat → Nat) × (Nat → Int → Int)) × (Nat → Int64) => ouW cy o u8.2 (obhsW cy (pgm a u8.1.1) u8.1.2)) (ouP (fun r9 u9 => r9 = P 0 1 ∧ opd P u9.2 (mO (cAS P x y z))))) 0 0 (va_A (ouW cy o fO (obhsW cy a P)) sz) := by
  refine kMW_start (cc := cL_addStar) (maxL := 6) (ret := (some .int)) (by decide) rfl (Nat.le_of_ble_eq_true rfl) ?_
  intro p e s m below meth c hx hb hr hlocks hml hts hown htab hA hG hP hD hS ls hl
  have hK := hG.1
  have hl : lv_has ls 6 [(0, .ref (a 100)), (1, .int (iI x)), (2, .int (iI y)), (3, .int (iI z)), (4, .ref o)] := hl
  have hbody : ∀ (H : Heap) (locs : List Loc) (hP : va_P D vwCl (ouW cy o fO (obhsW cy a P)) H) (hS : va_S (va_A (ouW cy o fO (obhsW cy a P)) sz) s.heap H locs) (ls : Array Slot) (hl : lv_has ls 6 [(0, .ref (a 100)), (1, .int (iI x)), (2, .int (iI y)), (3, .int (iI z)), (4, .ref o)]), W p l e { frames := 6, cells := 0, slots := 0, locals := 136 } s m ([.ref (a 100), .int (iI x), .int (iI y), .int (iI z), .ref o] : List Value).toArray below meth c H locs 0 0 (MQ below (kQi D (ouW cy o fO (obhsW cy a P)) sz (fun u8 : ((Nat → Nat) × (Nat → Int → Int)) × (Nat → Int64) => ouW cy o u8.2 (obhsW cy (pgm a u8.1.1) u8.1.2)) (ouP (fun r9 u9 => r9 = P 0 1 ∧ opd P u9.2 (mO (cAS P x y z))))) ([.ref (a 100), .int (iI x), .int (iI y), .int (iI z), .ref o] : List Value).toArray s 0 0 (va_A (ouW cy o fO (obhsW cy a P)) sz)) (F0 m 0 ls []) := by
    intro H locs hP hS ls hl
    refine lv_aload hx hb dL_addStar_0 (lv_at hl 4 rfl) ?_
    refine k_iconst hx hb dL_addStar_2 ?_
    refine lv_aload_n hx hb dL_addStar_3 rfl (lv_at hl 0 rfl) ?_
    refine lv_iload_n hx hb dL_addStar_4 rfl (lv_at hl 1 rfl) ?_
    refine lv_iload_n hx hb dL_addStar_5 rfl (lv_at hl 2 rfl) ?_
    refine lv_iload_n hx hb dL_addStar_6 rfl (lv_at hl 3 rfl) ?_
    have hPc := hP.sub (ws' := obhsW cy a P) [1, 2, 3, 4, 5, 6, 7, 8, 9, 10, 11, 12, 13, 14, 15, 16, 17, 18, 19, 20, 21, 22, 23, 24, 25, 26, 27, 28, 29, 30, 31, 32, 33, 34, 35, 36, 37, 38, 39, 40, 41, 42, 43, 44, 45, 46, 47, 48] rfl
    have hDc := hD.sub (ws' := obhsW cy a P) [1, 2, 3, 4, 5, 6, 7, 8, 9, 10, 11, 12, 13, 14, 15, 16, 17, 18, 19, 20, 21, 22, 23, 24, 25, 26, 27, 28, 29, 30, 31, 32, 33, 34, 35, 36, 37, 38, 39, 40, 41, 42, 43, 44, 45, 46, 47, 48] (by decide) rfl
    have hFc := va_free (wc := obhsW cy a P) hD hS hA [1, 2, 3, 4, 5, 6, 7, 8, 9, 10, 11, 12, 13, 14, 15, 16, 17, 18, 19, 20, 21, 22, 23, 24, 25, 26, 27, 28, 29, 30, 31, 32, 33, 34, 35, 36, 37, 38, 39, 40, 41, 42, 43, 44, 45, 46, 47, 48] rfl
    refine k_mui (k_runV (As := [.int (iI x), .int (iI y), .int (iI z)]) (rest := [.int (iI 0), .ref o]) ⟨hx, hb, hml, hown, hts⟩ (c_X6_addStar l D cy H.size a P x y z hI hsv hrx hry hrz hsk hok) gL_addStar_X6_addStar rfl ⟨rfl, rfl⟩ 3 rfl (by decide +kernel) ⟨Nat.le_of_ble_eq_true rfl, Nat.le_of_ble_eq_true rfl⟩ (GG_ok D cy) hG hS hFc hPc hDc (va_recv hK hP (ci := 5) (q0 := 1) rfl rfl) hl.1 rfl (Nat.le_of_ble_eq_true rfl) ⟨Nat.le_of_ble_eq_true rfl, Nat.le_of_ble_eq_true rfl⟩ dL_addStar_7) hFc hS (fun r8 u8 H1 locs1 hpost hP1 hD1 hS1 hk1 => ?_)
    have hJ := va_join (wr := [(o, .inl (cy 4, 1, .inr (.inl fO)))]) hP hD [1, 2, 3, 4, 5, 6, 7, 8, 9, 10, 11, 12, 13, 14, 15, 16, 17, 18, 19, 20, 21, 22, 23, 24, 25, 26, 27, 28, 29, 30, 31, 32, 33, 34, 35, 36, 37, 38, 39, 40, 41, 42, 43, 44, 45, 46, 47, 48] [0] rfl rfl (by decide) (by decide) hk1 hFc hP1 hD1
    obtain ⟨hP, hD⟩ := hJ
    have hS := hS1
    refine lv_i2l hx hb dL_addStar_10 rfl ?_
    refine va_last hx hb hK hP hD hS 0 4 rfl rfl (i := iI 0) (vp_iI (by decide)) dL_addStar_11 (fun H1 locs1 hP hD hS => ?_)
    refine lv_goto (tgt := 23) hx hb dL_addStar_12 (by decide) ?_
    refine k_iconst hx hb dL_addStar_23 ?_
    exact W.iret (v := iI 0) hx hb hr (fun t9 ht _ => ⟨⟨iI 0, (u8, vp_updL fO (iI 0).toNatClampNeg (iI r8).toInt64), rfl, ⟨0, rfl, rfl, r8, out_0 fO _, hpost⟩, by rw [ht]; exact hP, hD⟩, hS.F ht⟩) hS.2.2 dL_addStar_24 hlocks
  exact hbody s.heap [] hP hS ls hl
set_option maxHeartbeats 4000000 in
set_option maxRecDepth 100000 in
theorem c_L_addStar_t2 (l : Launch) (hl9 : l.stackTraces = false) (sz : Nat) (o : Nat) (D : va_G) (cy : Nat → ClassId) (a : Nat → Nat) (P : Nat → Int → Int) (x y z : Int) (hI : Inv (mO P)) (hrx : -2147483648 ≤ x ∧ x ≤ 2147483647) (hry : -2147483648 ≤ y ∧ y ≤ 2147483647) (hrz : -2147483648 ≤ z ∧ z ≤ 2147483647) (hno : ¬ starOK x y z) : Met l yL_addStar wsL_addStar { frames := 8, cells := 1, slots := 6, locals := 141 } (mPre (GX D cy) D (obplW cy a P) sz ([.ref (a 100), .int (iI x), .int (iI y), .int (iI z), .ref o] : List Value)) (kQi D (obplW cy a P) sz (fun _ : Unit => obplW cy a P) (fun r _ => r = 1)) 1 6 (va_A (obplW cy a P) sz) := by
  refine kMW_start (cc := cL_addStar) (maxL := 6) (ret := (some .int)) (by decide) rfl (Nat.le_of_ble_eq_true rfl) ?_
  intro p e s m below meth c hx hb hr hlocks hml hts hown htab hA hG hP hD hS ls hl
  have hK := hG.1.1.1
  have hl : lv_has ls 6 [(0, .ref (a 100)), (1, .int (iI x)), (2, .int (iI y)), (3, .int (iI z)), (4, .ref o)] := hl
  have hbody : ∀ (H : Heap) (locs : List Loc) (hP : va_P D vwCl (obplW cy a P) H) (hS : va_S (va_A (obplW cy a P) sz) s.heap H locs) (ls : Array Slot) (hl : lv_has ls 6 [(0, .ref (a 100)), (1, .int (iI x)), (2, .int (iI y)), (3, .int (iI z)), (4, .ref o)]), W p l e { frames := 8, cells := 1, slots := 6, locals := 141 } s m ([.ref (a 100), .int (iI x), .int (iI y), .int (iI z), .ref o] : List Value).toArray below meth c H locs 0 0 (MQ below (kQi D (obplW cy a P) sz (fun _ : Unit => obplW cy a P) (fun r _ => r = 1)) ([.ref (a 100), .int (iI x), .int (iI y), .int (iI z), .ref o] : List Value).toArray s 1 6 (va_A (obplW cy a P) sz)) (F0 m 0 ls []) := by
    intro H locs hP hS ls hl
    refine lv_aload hx hb dL_addStar_0 (lv_at hl 4 rfl) ?_
    refine k_iconst hx hb dL_addStar_2 ?_
    refine lv_aload_n hx hb dL_addStar_3 rfl (lv_at hl 0 rfl) ?_
    refine lv_iload_n hx hb dL_addStar_4 rfl (lv_at hl 1 rfl) ?_
    refine lv_iload_n hx hb dL_addStar_5 rfl (lv_at hl 2 rfl) ?_
    refine lv_iload_n hx hb dL_addStar_6 rfl (lv_at hl 3 rfl) ?_
    refine k_thV (As := [.int (iI x), .int (iI y), .int (iI z)]) (rest := [.int (iI 0), .ref o]) ⟨hx, hb, hml, hown, hts⟩ (c_X6_addStar_t2 l hl9 D cy a P x y z hI hrx hry hrz hno) gL_addStar_X6_addStar rfl ⟨rfl, rfl⟩ 3 rfl (by decide +kernel) ⟨Nat.le_of_ble_eq_true rfl, Nat.le_of_ble_eq_true rfl⟩ (GX_ok D cy) ((GX_ok D cy).2.2.2 _ _ _ _ (fun _ h => h.elim) ((GX_ok D cy).1 _ _ _ _ hS.2.1 hG)) hP (va_recv hK hP (ci := 5) (q0 := 0) rfl rfl) hl.1 rfl (Nat.le_of_ble_eq_true rfl) ⟨Nat.le_of_ble_eq_true rfl, Nat.le_of_ble_eq_true rfl⟩ dL_addStar_7 (fun ce q9 H1 z1 o1 e1 v1 f1 => ?_)
    refine vx_catch (E := exN 1) (name := exN 1) hown (tableOf []) ⟨0, 12, 15, 25⟩ (tableOf [(0, 12, 19, 13)]) (by rw [htab]; rfl) (fun z h => by cases h) (by decide) (by decide) (hts (.classLink RL 25 (exN 1)) (by decide +kernel)) (va_Nw.use rfl (hG.2.1 1 (by decide)).2.1) e1 v1 f1 ?_
    have hP1 := P_grow hP o1
    have hS1 := S_grow hS z1 o1
    refine lv_astore (lv' := [(5, .ref q9), (0, .ref (a 100)), (1, .int (iI x)), (2, .int (iI y)), (3, .int (iI z)), (4, .ref o)]) hx hb dL_addStar_15 hl (by decide) rfl (fun ls hl => ?_)
    refine k_iconst hx hb dL_addStar_17 ?_
    exact W.iret (v := iI 1) hx hb hr (fun t9 ht _ => ⟨⟨iI 1, (), rfl, ⟨1, rfl, rfl⟩, by rw [ht]; exact hP1, hD⟩, hS1.F ht⟩) hS1.2.2 dL_addStar_18 hlocks
  exact hbody s.heap [] hP hS ls hl
set_option maxHeartbeats 4000000 in
set_option maxRecDepth 100000 in
theorem c_L_addStar_t3 (l : Launch) (hl9 : l.stackTraces = false) (sz : Nat) (o : Nat) (D : va_G) (cy : Nat → ClassId) (a : Nat → Nat) (P : Nat → Int → Int) (x y z : Int) (hI : Inv (mO P)) (hrx : -2147483648 ≤ x ∧ x ≤ 2147483647) (hry : -2147483648 ≤ y ∧ y ≤ 2147483647) (hrz : -2147483648 ≤ z ∧ z ≤ 2147483647) (hsk : starOK x y z) (hno : P 0 1 = 12) : Met l yL_addStar wsL_addStar { frames := 8, cells := 1, slots := 6, locals := 141 } (mPre (GX D cy) D (obplW cy a P) sz ([.ref (a 100), .int (iI x), .int (iI y), .int (iI z), .ref o] : List Value)) (kQi D (obplW cy a P) sz (fun _ : Unit => obplW cy a P) (fun r _ => r = 2)) 1 6 (va_A (obplW cy a P) sz) := by
  refine kMW_start (cc := cL_addStar) (maxL := 6) (ret := (some .int)) (by decide) rfl (Nat.le_of_ble_eq_true rfl) ?_
  intro p e s m below meth c hx hb hr hlocks hml hts hown htab hA hG hP hD hS ls hl
  have hK := hG.1.1.1
  have hl : lv_has ls 6 [(0, .ref (a 100)), (1, .int (iI x)), (2, .int (iI y)), (3, .int (iI z)), (4, .ref o)] := hl
  have hbody : ∀ (H : Heap) (locs : List Loc) (hP : va_P D vwCl (obplW cy a P) H) (hS : va_S (va_A (obplW cy a P) sz) s.heap H locs) (ls : Array Slot) (hl : lv_has ls 6 [(0, .ref (a 100)), (1, .int (iI x)), (2, .int (iI y)), (3, .int (iI z)), (4, .ref o)]), W p l e { frames := 8, cells := 1, slots := 6, locals := 141 } s m ([.ref (a 100), .int (iI x), .int (iI y), .int (iI z), .ref o] : List Value).toArray below meth c H locs 0 0 (MQ below (kQi D (obplW cy a P) sz (fun _ : Unit => obplW cy a P) (fun r _ => r = 2)) ([.ref (a 100), .int (iI x), .int (iI y), .int (iI z), .ref o] : List Value).toArray s 1 6 (va_A (obplW cy a P) sz)) (F0 m 0 ls []) := by
    intro H locs hP hS ls hl
    refine lv_aload hx hb dL_addStar_0 (lv_at hl 4 rfl) ?_
    refine k_iconst hx hb dL_addStar_2 ?_
    refine lv_aload_n hx hb dL_addStar_3 rfl (lv_at hl 0 rfl) ?_
    refine lv_iload_n hx hb dL_addStar_4 rfl (lv_at hl 1 rfl) ?_
    refine lv_iload_n hx hb dL_addStar_5 rfl (lv_at hl 2 rfl) ?_
    refine lv_iload_n hx hb dL_addStar_6 rfl (lv_at hl 3 rfl) ?_
    refine k_thV (As := [.int (iI x), .int (iI y), .int (iI z)]) (rest := [.int (iI 0), .ref o]) ⟨hx, hb, hml, hown, hts⟩ (c_X6_addStar_t3 l hl9 D cy a P x y z hI hrx hry hrz hsk hno) gL_addStar_X6_addStar rfl ⟨rfl, rfl⟩ 3 rfl (by decide +kernel) ⟨Nat.le_of_ble_eq_true rfl, Nat.le_of_ble_eq_true rfl⟩ (GX_ok D cy) ((GX_ok D cy).2.2.2 _ _ _ _ (fun _ h => h.elim) ((GX_ok D cy).1 _ _ _ _ hS.2.1 hG)) hP (va_recv hK hP (ci := 5) (q0 := 0) rfl rfl) hl.1 rfl (Nat.le_of_ble_eq_true rfl) ⟨Nat.le_of_ble_eq_true rfl, Nat.le_of_ble_eq_true rfl⟩ dL_addStar_7 (fun ce q9 H1 z1 o1 e1 v1 f1 => ?_)
    refine vx_catch (E := exN 2) (name := exN 2) hown (tableOf [(0, 12, 15, 25)]) ⟨0, 12, 19, 13⟩ (tableOf []) (by rw [htab]; rfl) (fun z h => by
      rcases List.mem_cons.mp h with rfl | h
      · exact Or.inr ⟨by decide, exN 1, hts (.classLink RL 25 (exN 1)) (by decide +kernel), (hG.2.1 2 (by decide)).2.2 1 (by decide) (by decide)⟩
      cases h) (by decide) (by decide) (hts (.classLink RL 13 (exN 2)) (by decide +kernel)) (va_Nw.use rfl (hG.2.1 2 (by decide)).2.1) e1 v1 f1 ?_
    have hP1 := P_grow hP o1
    have hS1 := S_grow hS z1 o1
    refine lv_astore (lv' := [(5, .ref q9), (0, .ref (a 100)), (1, .int (iI x)), (2, .int (iI y)), (3, .int (iI z)), (4, .ref o)]) hx hb dL_addStar_19 hl (by decide) rfl (fun ls hl => ?_)
    refine k_iconst hx hb dL_addStar_21 ?_
    exact W.iret (v := iI 2) hx hb hr (fun t9 ht _ => ⟨⟨iI 2, (), rfl, ⟨2, rfl, rfl⟩, by rw [ht]; exact hP1, hD⟩, hS1.F ht⟩) hS1.2.2 dL_addStar_22 hlocks
  exact hbody s.heap [] hP hS ls hl
set_option maxHeartbeats 4000000 in
set_option maxRecDepth 100000 in
theorem c_L_removeStar (l : Launch) (sz : Nat) (o : Nat) (fO : Nat → Int64) (D : va_G) (cy : Nat → ClassId) (a : Nat → Nat) (P : Nat → Int → Int) (u : Int) (hI : Inv (mO P)) (hsv : 0 ≤ P 50 1 ∧ P 50 1 ≤ 4) (h0u : 0 ≤ u) (h1u : u < P 0 1) : Met l yL_removeStar wsL_removeStar { frames := 6, cells := 0, slots := 0, locals := 134 } (mPre (GG D cy) D (ouW cy o fO (obhsW cy a P)) sz ([.ref (a 100), .int (iI u), .ref o] : List Value)) (kQi D (ouW cy o fO (obhsW cy a P)) sz (fun u8 : ((Nat → Nat) × (Nat → Int → Int)) × (Nat → Int64) => ouW cy o u8.2 (obhsW cy (pgm a u8.1.1) u8.1.2)) (ouP (fun r9 u9 => r9 = P 0 1 - 1 ∧ opd P u9.2 (mO (cRS P u))))) 0 0 (va_A (ouW cy o fO (obhsW cy a P)) sz) := by
  refine kMW_start (cc := cL_removeStar) (maxL := 4) (ret := (some .int)) (by decide) rfl (Nat.le_of_ble_eq_true rfl) ?_
  intro p e s m below meth c hx hb hr hlocks hml hts hown htab hA hG hP hD hS ls hl
  have hK := hG.1
  have hl : lv_has ls 4 [(0, .ref (a 100)), (1, .int (iI u)), (2, .ref o)] := hl
  have hbody : ∀ (H : Heap) (locs : List Loc) (hP : va_P D vwCl (ouW cy o fO (obhsW cy a P)) H) (hS : va_S (va_A (ouW cy o fO (obhsW cy a P)) sz) s.heap H locs) (ls : Array Slot) (hl : lv_has ls 4 [(0, .ref (a 100)), (1, .int (iI u)), (2, .ref o)]), W p l e { frames := 6, cells := 0, slots := 0, locals := 134 } s m ([.ref (a 100), .int (iI u), .ref o] : List Value).toArray below meth c H locs 0 0 (MQ below (kQi D (ouW cy o fO (obhsW cy a P)) sz (fun u8 : ((Nat → Nat) × (Nat → Int → Int)) × (Nat → Int64) => ouW cy o u8.2 (obhsW cy (pgm a u8.1.1) u8.1.2)) (ouP (fun r9 u9 => r9 = P 0 1 - 1 ∧ opd P u9.2 (mO (cRS P u))))) ([.ref (a 100), .int (iI u), .ref o] : List Value).toArray s 0 0 (va_A (ouW cy o fO (obhsW cy a P)) sz)) (F0 m 0 ls []) := by
    intro H locs hP hS ls hl
    refine lv_aload_n hx hb dL_removeStar_0 rfl (lv_at hl 2 rfl) ?_
    refine k_iconst hx hb dL_removeStar_1 ?_
    refine lv_aload_n hx hb dL_removeStar_2 rfl (lv_at hl 0 rfl) ?_
    refine lv_iload_n hx hb dL_removeStar_3 rfl (lv_at hl 1 rfl) ?_
    have hPc := hP.sub (ws' := obhsW cy a P) [1, 2, 3, 4, 5, 6, 7, 8, 9, 10, 11, 12, 13, 14, 15, 16, 17, 18, 19, 20, 21, 22, 23, 24, 25, 26, 27, 28, 29, 30, 31, 32, 33, 34, 35, 36, 37, 38, 39, 40, 41, 42, 43, 44, 45, 46, 47, 48] rfl
    have hDc := hD.sub (ws' := obhsW cy a P) [1, 2, 3, 4, 5, 6, 7, 8, 9, 10, 11, 12, 13, 14, 15, 16, 17, 18, 19, 20, 21, 22, 23, 24, 25, 26, 27, 28, 29, 30, 31, 32, 33, 34, 35, 36, 37, 38, 39, 40, 41, 42, 43, 44, 45, 46, 47, 48] (by decide) rfl
    have hFc := va_free (wc := obhsW cy a P) hD hS hA [1, 2, 3, 4, 5, 6, 7, 8, 9, 10, 11, 12, 13, 14, 15, 16, 17, 18, 19, 20, 21, 22, 23, 24, 25, 26, 27, 28, 29, 30, 31, 32, 33, 34, 35, 36, 37, 38, 39, 40, 41, 42, 43, 44, 45, 46, 47, 48] rfl
    refine k_mui (k_runV (As := [.int (iI u)]) (rest := [.int (iI 0), .ref o]) ⟨hx, hb, hml, hown, hts⟩ (c_X6_removeStar l D cy H.size a P u hI hsv h0u h1u) gL_removeStar_X6_removeStar rfl ⟨rfl, rfl⟩ 1 rfl (by decide +kernel) ⟨Nat.le_of_ble_eq_true rfl, Nat.le_of_ble_eq_true rfl⟩ (GG_ok D cy) hG hS hFc hPc hDc (va_recv hK hP (ci := 5) (q0 := 1) rfl rfl) hl.1 rfl (Nat.le_of_ble_eq_true rfl) ⟨Nat.le_of_ble_eq_true rfl, Nat.le_of_ble_eq_true rfl⟩ dL_removeStar_4) hFc hS (fun r8 u8 H1 locs1 hpost hP1 hD1 hS1 hk1 => ?_)
    have hJ := va_join (wr := [(o, .inl (cy 4, 1, .inr (.inl fO)))]) hP hD [1, 2, 3, 4, 5, 6, 7, 8, 9, 10, 11, 12, 13, 14, 15, 16, 17, 18, 19, 20, 21, 22, 23, 24, 25, 26, 27, 28, 29, 30, 31, 32, 33, 34, 35, 36, 37, 38, 39, 40, 41, 42, 43, 44, 45, 46, 47, 48] [0] rfl rfl (by decide) (by decide) hk1 hFc hP1 hD1
    obtain ⟨hP, hD⟩ := hJ
    have hS := hS1
    refine lv_i2l hx hb dL_removeStar_7 rfl ?_
    refine va_last hx hb hK hP hD hS 0 4 rfl rfl (i := iI 0) (vp_iI (by decide)) dL_removeStar_8 (fun H1 locs1 hP hD hS => ?_)
    refine lv_goto (tgt := 15) hx hb dL_removeStar_9 (by decide) ?_
    refine k_iconst hx hb dL_removeStar_15 ?_
    exact W.iret (v := iI 0) hx hb hr (fun t9 ht _ => ⟨⟨iI 0, (u8, vp_updL fO (iI 0).toNatClampNeg (iI r8).toInt64), rfl, ⟨0, rfl, rfl, r8, out_0 fO _, hpost⟩, by rw [ht]; exact hP, hD⟩, hS.F ht⟩) hS.2.2 dL_removeStar_16 hlocks
  exact hbody s.heap [] hP hS ls hl
set_option maxHeartbeats 4000000 in
set_option maxRecDepth 100000 in
theorem c_L_removeStar_t1 (l : Launch) (hl9 : l.stackTraces = false) (sz : Nat) (o : Nat) (D : va_G) (cy : Nat → ClassId) (a : Nat → Nat) (P : Nat → Int → Int) (u : Int) (hI : Inv (mO P)) (hru : -2147483648 ≤ u ∧ u ≤ 2147483647) (hno : ¬ (0 ≤ u ∧ u < P 0 1)) : Met l yL_removeStar wsL_removeStar { frames := 8, cells := 1, slots := 6, locals := 139 } (mPre (GX D cy) D (obplW cy a P) sz ([.ref (a 100), .int (iI u), .ref o] : List Value)) (kQi D (obplW cy a P) sz (fun _ : Unit => obplW cy a P) (fun r _ => r = 1)) 1 6 (va_A (obplW cy a P) sz) := by
  refine kMW_start (cc := cL_removeStar) (maxL := 4) (ret := (some .int)) (by decide) rfl (Nat.le_of_ble_eq_true rfl) ?_
  intro p e s m below meth c hx hb hr hlocks hml hts hown htab hA hG hP hD hS ls hl
  have hK := hG.1.1.1
  have hl : lv_has ls 4 [(0, .ref (a 100)), (1, .int (iI u)), (2, .ref o)] := hl
  have hbody : ∀ (H : Heap) (locs : List Loc) (hP : va_P D vwCl (obplW cy a P) H) (hS : va_S (va_A (obplW cy a P) sz) s.heap H locs) (ls : Array Slot) (hl : lv_has ls 4 [(0, .ref (a 100)), (1, .int (iI u)), (2, .ref o)]), W p l e { frames := 8, cells := 1, slots := 6, locals := 139 } s m ([.ref (a 100), .int (iI u), .ref o] : List Value).toArray below meth c H locs 0 0 (MQ below (kQi D (obplW cy a P) sz (fun _ : Unit => obplW cy a P) (fun r _ => r = 1)) ([.ref (a 100), .int (iI u), .ref o] : List Value).toArray s 1 6 (va_A (obplW cy a P) sz)) (F0 m 0 ls []) := by
    intro H locs hP hS ls hl
    refine lv_aload_n hx hb dL_removeStar_0 rfl (lv_at hl 2 rfl) ?_
    refine k_iconst hx hb dL_removeStar_1 ?_
    refine lv_aload_n hx hb dL_removeStar_2 rfl (lv_at hl 0 rfl) ?_
    refine lv_iload_n hx hb dL_removeStar_3 rfl (lv_at hl 1 rfl) ?_
    refine k_thV (As := [.int (iI u)]) (rest := [.int (iI 0), .ref o]) ⟨hx, hb, hml, hown, hts⟩ (c_X6_removeStar_t1 l hl9 D cy a P u hI hru hno) gL_removeStar_X6_removeStar rfl ⟨rfl, rfl⟩ 1 rfl (by decide +kernel) ⟨Nat.le_of_ble_eq_true rfl, Nat.le_of_ble_eq_true rfl⟩ (GX_ok D cy) ((GX_ok D cy).2.2.2 _ _ _ _ (fun _ h => h.elim) ((GX_ok D cy).1 _ _ _ _ hS.2.1 hG)) hP (va_recv hK hP (ci := 5) (q0 := 0) rfl rfl) hl.1 rfl (Nat.le_of_ble_eq_true rfl) ⟨Nat.le_of_ble_eq_true rfl, Nat.le_of_ble_eq_true rfl⟩ dL_removeStar_4 (fun ce q9 H1 z1 o1 e1 v1 f1 => ?_)
    refine vx_catch (E := exN 0) (name := exN 0) hown (tableOf []) ⟨0, 9, 12, 19⟩ (tableOf []) (by rw [htab]; rfl) (fun z h => by cases h) (by decide) (by decide) (hts (.classLink RL 19 (exN 0)) (by decide +kernel)) (va_Nw.use rfl (hG.2.1 0 (by decide)).2.1) e1 v1 f1 ?_
    have hP1 := P_grow hP o1
    have hS1 := S_grow hS z1 o1
    refine lv_astore_n (lv' := [(3, .ref q9), (0, .ref (a 100)), (1, .int (iI u)), (2, .ref o)]) hx hb dL_removeStar_12 rfl hl (by decide) rfl (fun ls hl => ?_)
    refine k_iconst hx hb dL_removeStar_13 ?_
    exact W.iret (v := iI 1) hx hb hr (fun t9 ht _ => ⟨⟨iI 1, (), rfl, ⟨1, rfl, rfl⟩, by rw [ht]; exact hP1, hD⟩, hS1.F ht⟩) hS1.2.2 dL_removeStar_14 hlocks
  exact hbody s.heap [] hP hS ls hl
set_option maxHeartbeats 4000000 in
set_option maxRecDepth 100000 in
theorem c_L_point (l : Launch) (sz : Nat) (o : Nat) (fO : Nat → Int64) (D : va_G) (cy : Nat → ClassId) (a : Nat → Nat) (P : Nat → Int → Int) (t q w : Int) (hI : Inv (mO P)) (h0 : 0 ≤ t) (h1 : t < P 0 0) (h2 : 0 ≤ q) (h3 : q < P 1 t) (hw : 0 ≤ w ∧ w ≤ 6) : Met l yL_point wsL_point { frames := 5, cells := 0, slots := 0, locals := 128 } (mPre (GG D cy) D (ouW cy o fO (obplW cy a P)) sz ([.ref (a 100), .int (iI t), .int (iI q), .int (iI w), .ref o] : List Value)) (kQi D (ouW cy o fO (obplW cy a P)) sz (fun u8 : Unit × (Nat → Int64) => ouW cy o u8.2 (obplW cy a P)) (ouP (fun r9 _ => (fun r => r = ptV (mO P) t q w) r9))) 0 0 (va_A (ouW cy o fO (obplW cy a P)) sz) := by
  refine kMW_start (cc := cL_point) (maxL := 6) (ret := (some .int)) (by decide) rfl (Nat.le_of_ble_eq_true rfl) ?_
  intro p e s m below meth c hx hb hr hlocks hml hts hown htab hA hG hP hD hS ls hl
  have hK := hG.1
  have hl : lv_has ls 6 [(0, .ref (a 100)), (1, .int (iI t)), (2, .int (iI q)), (3, .int (iI w)), (4, .ref o)] := hl
  have hbody : ∀ (H : Heap) (locs : List Loc) (hP : va_P D vwCl (ouW cy o fO (obplW cy a P)) H) (hS : va_S (va_A (ouW cy o fO (obplW cy a P)) sz) s.heap H locs) (ls : Array Slot) (hl : lv_has ls 6 [(0, .ref (a 100)), (1, .int (iI t)), (2, .int (iI q)), (3, .int (iI w)), (4, .ref o)]), W p l e { frames := 5, cells := 0, slots := 0, locals := 128 } s m ([.ref (a 100), .int (iI t), .int (iI q), .int (iI w), .ref o] : List Value).toArray below meth c H locs 0 0 (MQ below (kQi D (ouW cy o fO (obplW cy a P)) sz (fun u8 : Unit × (Nat → Int64) => ouW cy o u8.2 (obplW cy a P)) (ouP (fun r9 _ => (fun r => r = ptV (mO P) t q w) r9))) ([.ref (a 100), .int (iI t), .int (iI q), .int (iI w), .ref o] : List Value).toArray s 0 0 (va_A (ouW cy o fO (obplW cy a P)) sz)) (F0 m 0 ls []) := by
    intro H locs hP hS ls hl
    refine lv_aload hx hb dL_point_0 (lv_at hl 4 rfl) ?_
    refine k_iconst hx hb dL_point_2 ?_
    refine lv_aload_n hx hb dL_point_3 rfl (lv_at hl 0 rfl) ?_
    refine lv_iload_n hx hb dL_point_4 rfl (lv_at hl 1 rfl) ?_
    refine lv_iload_n hx hb dL_point_5 rfl (lv_at hl 2 rfl) ?_
    refine lv_iload_n hx hb dL_point_6 rfl (lv_at hl 3 rfl) ?_
    refine k_roV (As := [.int (iI t), .int (iI q), .int (iI w)]) (rest := [.int (iI 0), .ref o]) ⟨hx, hb, hml, hown, hts⟩ (c_X6_point l D cy a P t q w hI h0 h1 h2 h3 hw) gL_point_X6_point rfl ⟨rfl, rfl⟩ 3 rfl (by decide +kernel) ⟨Nat.le_of_ble_eq_true rfl, Nat.le_of_ble_eq_true rfl⟩ (GG_ok D cy) ((GG_ok D cy).2.2.2 _ _ _ _ (fun _ h => h.elim) ((GG_ok D cy).1 _ _ _ _ hS.2.1 hG)) (hP.sub (ws' := obplW cy a P) [1, 2, 3, 4, 5, 6, 7, 8, 9, 10] rfl) (va_recv hK hP (ci := 5) (q0 := 1) rfl rfl) hl.1 rfl (Nat.le_of_ble_eq_true rfl) ⟨Nat.le_of_ble_eq_true rfl, Nat.le_of_ble_eq_true rfl⟩ dL_point_7 (fun r8 hpost => ?_)
    refine lv_i2l hx hb dL_point_10 rfl ?_
    refine va_last hx hb hK hP hD hS 0 4 rfl rfl (i := iI 0) (vp_iI (by decide)) dL_point_11 (fun H1 locs1 hP hD hS => ?_)
    refine lv_goto (tgt := 23) hx hb dL_point_12 (by decide) ?_
    refine k_iconst hx hb dL_point_23 ?_
    exact W.iret (v := iI 0) hx hb hr (fun t9 ht _ => ⟨⟨iI 0, ((), vp_updL fO (iI 0).toNatClampNeg (iI r8).toInt64), rfl, ⟨0, rfl, rfl, r8, out_0 fO _, hpost⟩, by rw [ht]; exact hP, hD⟩, hS.F ht⟩) hS.2.2 dL_point_24 hlocks
  exact hbody s.heap [] hP hS ls hl
set_option maxHeartbeats 4000000 in
set_option maxRecDepth 100000 in
theorem c_L_point_t1 (l : Launch) (hl9 : l.stackTraces = false) (sz : Nat) (o : Nat) (D : va_G) (cy : Nat → ClassId) (a : Nat → Nat) (P : Nat → Int → Int) (t q w : Int) (hI : Inv (mO P)) (hrt : -2147483648 ≤ t ∧ t ≤ 2147483647) (hrq : -2147483648 ≤ q ∧ q ≤ 2147483647) (hno : ¬ ((0 ≤ t ∧ t < P 0 0) ∧ 0 ≤ q ∧ q < P 1 t)) : Met l yL_point wsL_point { frames := 8, cells := 1, slots := 6, locals := 141 } (mPre (GX D cy) D (obplW cy a P) sz ([.ref (a 100), .int (iI t), .int (iI q), .int (iI w), .ref o] : List Value)) (kQi D (obplW cy a P) sz (fun _ : Unit => obplW cy a P) (fun r _ => r = 1)) 1 6 (va_A (obplW cy a P) sz) := by
  refine kMW_start (cc := cL_point) (maxL := 6) (ret := (some .int)) (by decide) rfl (Nat.le_of_ble_eq_true rfl) ?_
  intro p e s m below meth c hx hb hr hlocks hml hts hown htab hA hG hP hD hS ls hl
  have hK := hG.1.1.1
  have hl : lv_has ls 6 [(0, .ref (a 100)), (1, .int (iI t)), (2, .int (iI q)), (3, .int (iI w)), (4, .ref o)] := hl
  have hbody : ∀ (H : Heap) (locs : List Loc) (hP : va_P D vwCl (obplW cy a P) H) (hS : va_S (va_A (obplW cy a P) sz) s.heap H locs) (ls : Array Slot) (hl : lv_has ls 6 [(0, .ref (a 100)), (1, .int (iI t)), (2, .int (iI q)), (3, .int (iI w)), (4, .ref o)]), W p l e { frames := 8, cells := 1, slots := 6, locals := 141 } s m ([.ref (a 100), .int (iI t), .int (iI q), .int (iI w), .ref o] : List Value).toArray below meth c H locs 0 0 (MQ below (kQi D (obplW cy a P) sz (fun _ : Unit => obplW cy a P) (fun r _ => r = 1)) ([.ref (a 100), .int (iI t), .int (iI q), .int (iI w), .ref o] : List Value).toArray s 1 6 (va_A (obplW cy a P) sz)) (F0 m 0 ls []) := by
    intro H locs hP hS ls hl
    refine lv_aload hx hb dL_point_0 (lv_at hl 4 rfl) ?_
    refine k_iconst hx hb dL_point_2 ?_
    refine lv_aload_n hx hb dL_point_3 rfl (lv_at hl 0 rfl) ?_
    refine lv_iload_n hx hb dL_point_4 rfl (lv_at hl 1 rfl) ?_
    refine lv_iload_n hx hb dL_point_5 rfl (lv_at hl 2 rfl) ?_
    refine lv_iload_n hx hb dL_point_6 rfl (lv_at hl 3 rfl) ?_
    refine k_thV (As := [.int (iI t), .int (iI q), .int (iI w)]) (rest := [.int (iI 0), .ref o]) ⟨hx, hb, hml, hown, hts⟩ (c_X6_point_t1 l hl9 D cy a P t q w hI hrt hrq hno) gL_point_X6_point rfl ⟨rfl, rfl⟩ 3 rfl (by decide +kernel) ⟨Nat.le_of_ble_eq_true rfl, Nat.le_of_ble_eq_true rfl⟩ (GX_ok D cy) ((GX_ok D cy).2.2.2 _ _ _ _ (fun _ h => h.elim) ((GX_ok D cy).1 _ _ _ _ hS.2.1 hG)) hP (va_recv hK hP (ci := 5) (q0 := 0) rfl rfl) hl.1 rfl (Nat.le_of_ble_eq_true rfl) ⟨Nat.le_of_ble_eq_true rfl, Nat.le_of_ble_eq_true rfl⟩ dL_point_7 (fun ce q9 H1 z1 o1 e1 v1 f1 => ?_)
    refine vx_catch (E := exN 0) (name := exN 0) hown (tableOf []) ⟨0, 12, 15, 19⟩ (tableOf [(0, 12, 19, 25)]) (by rw [htab]; rfl) (fun z h => by cases h) (by decide) (by decide) (hts (.classLink RL 19 (exN 0)) (by decide +kernel)) (va_Nw.use rfl (hG.2.1 0 (by decide)).2.1) e1 v1 f1 ?_
    have hP1 := P_grow hP o1
    have hS1 := S_grow hS z1 o1
    refine lv_astore (lv' := [(5, .ref q9), (0, .ref (a 100)), (1, .int (iI t)), (2, .int (iI q)), (3, .int (iI w)), (4, .ref o)]) hx hb dL_point_15 hl (by decide) rfl (fun ls hl => ?_)
    refine k_iconst hx hb dL_point_17 ?_
    exact W.iret (v := iI 1) hx hb hr (fun t9 ht _ => ⟨⟨iI 1, (), rfl, ⟨1, rfl, rfl⟩, by rw [ht]; exact hP1, hD⟩, hS1.F ht⟩) hS1.2.2 dL_point_18 hlocks
  exact hbody s.heap [] hP hS ls hl
set_option maxHeartbeats 4000000 in
set_option maxRecDepth 100000 in
theorem c_L_point_t2 (l : Launch) (hl9 : l.stackTraces = false) (sz : Nat) (o : Nat) (D : va_G) (cy : Nat → ClassId) (a : Nat → Nat) (P : Nat → Int → Int) (t q w : Int) (hI : Inv (mO P)) (h0 : 0 ≤ t) (h1 : t < P 0 0) (h2 : 0 ≤ q) (h3 : q < P 1 t) (hrw : -2147483648 ≤ w ∧ w ≤ 2147483647) (hno : ¬ (0 ≤ w ∧ w ≤ 6)) : Met l yL_point wsL_point { frames := 8, cells := 1, slots := 6, locals := 141 } (mPre (GX D cy) D (obplW cy a P) sz ([.ref (a 100), .int (iI t), .int (iI q), .int (iI w), .ref o] : List Value)) (kQi D (obplW cy a P) sz (fun _ : Unit => obplW cy a P) (fun r _ => r = 2)) 1 6 (va_A (obplW cy a P) sz) := by
  refine kMW_start (cc := cL_point) (maxL := 6) (ret := (some .int)) (by decide) rfl (Nat.le_of_ble_eq_true rfl) ?_
  intro p e s m below meth c hx hb hr hlocks hml hts hown htab hA hG hP hD hS ls hl
  have hK := hG.1.1.1
  have hl : lv_has ls 6 [(0, .ref (a 100)), (1, .int (iI t)), (2, .int (iI q)), (3, .int (iI w)), (4, .ref o)] := hl
  have hbody : ∀ (H : Heap) (locs : List Loc) (hP : va_P D vwCl (obplW cy a P) H) (hS : va_S (va_A (obplW cy a P) sz) s.heap H locs) (ls : Array Slot) (hl : lv_has ls 6 [(0, .ref (a 100)), (1, .int (iI t)), (2, .int (iI q)), (3, .int (iI w)), (4, .ref o)]), W p l e { frames := 8, cells := 1, slots := 6, locals := 141 } s m ([.ref (a 100), .int (iI t), .int (iI q), .int (iI w), .ref o] : List Value).toArray below meth c H locs 0 0 (MQ below (kQi D (obplW cy a P) sz (fun _ : Unit => obplW cy a P) (fun r _ => r = 2)) ([.ref (a 100), .int (iI t), .int (iI q), .int (iI w), .ref o] : List Value).toArray s 1 6 (va_A (obplW cy a P) sz)) (F0 m 0 ls []) := by
    intro H locs hP hS ls hl
    refine lv_aload hx hb dL_point_0 (lv_at hl 4 rfl) ?_
    refine k_iconst hx hb dL_point_2 ?_
    refine lv_aload_n hx hb dL_point_3 rfl (lv_at hl 0 rfl) ?_
    refine lv_iload_n hx hb dL_point_4 rfl (lv_at hl 1 rfl) ?_
    refine lv_iload_n hx hb dL_point_5 rfl (lv_at hl 2 rfl) ?_
    refine lv_iload_n hx hb dL_point_6 rfl (lv_at hl 3 rfl) ?_
    refine k_thV (As := [.int (iI t), .int (iI q), .int (iI w)]) (rest := [.int (iI 0), .ref o]) ⟨hx, hb, hml, hown, hts⟩ (c_X6_point_t2 l hl9 D cy a P t q w hI h0 h1 h2 h3 hrw hno) gL_point_X6_point rfl ⟨rfl, rfl⟩ 3 rfl (by decide +kernel) ⟨Nat.le_of_ble_eq_true rfl, Nat.le_of_ble_eq_true rfl⟩ (GX_ok D cy) ((GX_ok D cy).2.2.2 _ _ _ _ (fun _ h => h.elim) ((GX_ok D cy).1 _ _ _ _ hS.2.1 hG)) hP (va_recv hK hP (ci := 5) (q0 := 0) rfl rfl) hl.1 rfl (Nat.le_of_ble_eq_true rfl) ⟨Nat.le_of_ble_eq_true rfl, Nat.le_of_ble_eq_true rfl⟩ dL_point_7 (fun ce q9 H1 z1 o1 e1 v1 f1 => ?_)
    refine vx_catch (E := exN 1) (name := exN 1) hown (tableOf [(0, 12, 15, 19)]) ⟨0, 12, 19, 25⟩ (tableOf []) (by rw [htab]; rfl) (fun z h => by
      rcases List.mem_cons.mp h with rfl | h
      · exact Or.inr ⟨by decide, exN 0, hts (.classLink RL 19 (exN 0)) (by decide +kernel), (hG.2.1 1 (by decide)).2.2 0 (by decide) (by decide)⟩
      cases h) (by decide) (by decide) (hts (.classLink RL 25 (exN 1)) (by decide +kernel)) (va_Nw.use rfl (hG.2.1 1 (by decide)).2.1) e1 v1 f1 ?_
    have hP1 := P_grow hP o1
    have hS1 := S_grow hS z1 o1
    refine lv_astore (lv' := [(5, .ref q9), (0, .ref (a 100)), (1, .int (iI t)), (2, .int (iI q)), (3, .int (iI w)), (4, .ref o)]) hx hb dL_point_19 hl (by decide) rfl (fun ls hl => ?_)
    refine k_iconst hx hb dL_point_21 ?_
    exact W.iret (v := iI 2) hx hb hr (fun t9 ht _ => ⟨⟨iI 2, (), rfl, ⟨2, rfl, rfl⟩, by rw [ht]; exact hP1, hD⟩, hS1.F ht⟩) hS1.2.2 dL_point_22 hlocks
  exact hbody s.heap [] hP hS ls hl
set_option maxHeartbeats 4000000 in
set_option maxRecDepth 100000 in
theorem c_L_trail (l : Launch) (sz : Nat) (o : Nat) (fO : Nat → Int64) (D : va_G) (cy : Nat → ClassId) (a : Nat → Nat) (P : Nat → Int → Int) (t w : Int) (hI : Inv (mO P)) (hl0 : P 100 6 = 0 ∨ P 100 6 = 1) (hl1 : P 100 6 = 1 → lkd P) (h0 : 0 ≤ t) (h1 : t < P 0 0) (hw : 0 ≤ w ∧ w ≤ 8) : Met l yL_trail wsL_trail { frames := 7, cells := 0, slots := 0, locals := 178 } (mPre (GG D cy) D (ouW cy o fO (oblkW cy a P)) sz ([.ref (a 100), .int (iI t), .int (iI w), .ref o] : List Value)) (kQi D (ouW cy o fO (oblkW cy a P)) sz (fun u8 : (Nat → Int → Int) × (Nat → Int64) => ouW cy o u8.2 (oblkW cy a u8.1)) (ouP (fun r9 u9 => ∃ (zZ : Nat → Int → Int), (figOK (mO P) zZ (P 0 0) ∧ maOK (mO P) (P 8 8) (zZ 31) (zZ 32) (zZ 33) ∧ zZ 30 3 = (mat (mO P) (P 8 8)).2.2.1 ∧ zZ 30 4 = (mat (mO P) (P 8 8)).2.2.2) ∧ (r9 = trV (mO P) (mat (mO P) (P 8 8)).1 t w) ∧ (u9 = (upr (upr (upr (upr (upr (upr (upr (upr (upr (upr (upr (upr (upr (upr (upr (upr P 21 (zZ 21)) 22 (zZ 22)) 23 (zZ 23)) 24 (zZ 24)) 25 (zZ 25)) 26 (zZ 26)) 27 (zZ 27)) 28 (zZ 28)) 30 (zZ 30)) 31 (zZ 31)) 32 (zZ 32)) 33 (zZ 33)) 34 (zZ 34)) 35 (zZ 35)) 36 (zZ 36)) 100 (ups (P 100) 6 1)))))) 0 0 (va_A (ouW cy o fO (oblkW cy a P)) sz) := by
  refine kMW_start (cc := cL_trail) (maxL := 5) (ret := (some .int)) (by decide) rfl (Nat.le_of_ble_eq_true rfl) ?_
  intro p e s m below meth c hx hb hr hlocks hml hts hown htab hA hG hP hD hS ls hl
  have hK := hG.1
  have hl : lv_has ls 5 [(0, .ref (a 100)), (1, .int (iI t)), (2, .int (iI w)), (3, .ref o)] := hl
  have hbody : ∀ (H : Heap) (locs : List Loc) (hP : va_P D vwCl (ouW cy o fO (oblkW cy a P)) H) (hS : va_S (va_A (ouW cy o fO (oblkW cy a P)) sz) s.heap H locs) (ls : Array Slot) (hl : lv_has ls 5 [(0, .ref (a 100)), (1, .int (iI t)), (2, .int (iI w)), (3, .ref o)]), W p l e { frames := 7, cells := 0, slots := 0, locals := 178 } s m ([.ref (a 100), .int (iI t), .int (iI w), .ref o] : List Value).toArray below meth c H locs 0 0 (MQ below (kQi D (ouW cy o fO (oblkW cy a P)) sz (fun u8 : (Nat → Int → Int) × (Nat → Int64) => ouW cy o u8.2 (oblkW cy a u8.1)) (ouP (fun r9 u9 => ∃ (zZ : Nat → Int → Int), (figOK (mO P) zZ (P 0 0) ∧ maOK (mO P) (P 8 8) (zZ 31) (zZ 32) (zZ 33) ∧ zZ 30 3 = (mat (mO P) (P 8 8)).2.2.1 ∧ zZ 30 4 = (mat (mO P) (P 8 8)).2.2.2) ∧ (r9 = trV (mO P) (mat (mO P) (P 8 8)).1 t w) ∧ (u9 = (upr (upr (upr (upr (upr (upr (upr (upr (upr (upr (upr (upr (upr (upr (upr (upr P 21 (zZ 21)) 22 (zZ 22)) 23 (zZ 23)) 24 (zZ 24)) 25 (zZ 25)) 26 (zZ 26)) 27 (zZ 27)) 28 (zZ 28)) 30 (zZ 30)) 31 (zZ 31)) 32 (zZ 32)) 33 (zZ 33)) 34 (zZ 34)) 35 (zZ 35)) 36 (zZ 36)) 100 (ups (P 100) 6 1)))))) ([.ref (a 100), .int (iI t), .int (iI w), .ref o] : List Value).toArray s 0 0 (va_A (ouW cy o fO (oblkW cy a P)) sz)) (F0 m 0 ls []) := by
    intro H locs hP hS ls hl
    refine lv_aload_n hx hb dL_trail_0 rfl (lv_at hl 3 rfl) ?_
    refine k_iconst hx hb dL_trail_1 ?_
    refine lv_aload_n hx hb dL_trail_2 rfl (lv_at hl 0 rfl) ?_
    refine lv_iload_n hx hb dL_trail_3 rfl (lv_at hl 1 rfl) ?_
    refine lv_iload_n hx hb dL_trail_4 rfl (lv_at hl 2 rfl) ?_
    have hPc := hP.sub (ws' := oblkW cy a P) [1, 2, 3, 4, 5, 6, 7, 8, 9, 10, 11, 12, 13, 14, 15, 16, 17, 18, 19, 20, 21, 22, 23, 24, 25, 26] rfl
    have hDc := hD.sub (ws' := oblkW cy a P) [1, 2, 3, 4, 5, 6, 7, 8, 9, 10, 11, 12, 13, 14, 15, 16, 17, 18, 19, 20, 21, 22, 23, 24, 25, 26] (by decide) rfl
    have hFc := va_free (wc := oblkW cy a P) hD hS hA [1, 2, 3, 4, 5, 6, 7, 8, 9, 10, 11, 12, 13, 14, 15, 16, 17, 18, 19, 20, 21, 22, 23, 24, 25, 26] rfl
    refine k_mui (k_runV (As := [.int (iI t), .int (iI w)]) (rest := [.int (iI 0), .ref o]) ⟨hx, hb, hml, hown, hts⟩ (c_X6_trail l D cy H.size a P t w hI hl0 hl1 h0 h1 hw) gL_trail_X6_trail rfl ⟨rfl, rfl⟩ 2 rfl (by decide +kernel) ⟨Nat.le_of_ble_eq_true rfl, Nat.le_of_ble_eq_true rfl⟩ (GG_ok D cy) hG hS hFc hPc hDc (va_recv hK hP (ci := 5) (q0 := 1) rfl rfl) hl.1 rfl (Nat.le_of_ble_eq_true rfl) ⟨Nat.le_of_ble_eq_true rfl, Nat.le_of_ble_eq_true rfl⟩ dL_trail_5) hFc hS (fun r8 u8 H1 locs1 hpost hP1 hD1 hS1 hk1 => ?_)
    have hJ := va_join (wr := [(o, .inl (cy 4, 1, .inr (.inl fO)))]) hP hD [1, 2, 3, 4, 5, 6, 7, 8, 9, 10, 11, 12, 13, 14, 15, 16, 17, 18, 19, 20, 21, 22, 23, 24, 25, 26] [0] rfl rfl (by decide) (by decide) hk1 hFc hP1 hD1
    obtain ⟨hP, hD⟩ := hJ
    have hS := hS1
    refine lv_i2l hx hb dL_trail_8 rfl ?_
    refine va_last hx hb hK hP hD hS 0 4 rfl rfl (i := iI 0) (vp_iI (by decide)) dL_trail_9 (fun H1 locs1 hP hD hS => ?_)
    refine lv_goto (tgt := 21) hx hb dL_trail_10 (by decide) ?_
    refine k_iconst hx hb dL_trail_21 ?_
    exact W.iret (v := iI 0) hx hb hr (fun t9 ht _ => ⟨⟨iI 0, (u8, vp_updL fO (iI 0).toNatClampNeg (iI r8).toInt64), rfl, ⟨0, rfl, rfl, r8, out_0 fO _, hpost⟩, by rw [ht]; exact hP, hD⟩, hS.F ht⟩) hS.2.2 dL_trail_22 hlocks
  exact hbody s.heap [] hP hS ls hl
set_option maxHeartbeats 4000000 in
set_option maxRecDepth 100000 in
theorem c_L_trail_t1 (l : Launch) (hl9 : l.stackTraces = false) (sz : Nat) (o : Nat) (D : va_G) (cy : Nat → ClassId) (a : Nat → Nat) (P : Nat → Int → Int) (t w : Int) (hI : Inv (mO P)) (hrt : -2147483648 ≤ t ∧ t ≤ 2147483647) (hno : ¬ (0 ≤ t ∧ t < P 0 0)) : Met l yL_trail wsL_trail { frames := 8, cells := 1, slots := 6, locals := 140 } (mPre (GX D cy) D (obplW cy a P) sz ([.ref (a 100), .int (iI t), .int (iI w), .ref o] : List Value)) (kQi D (obplW cy a P) sz (fun _ : Unit => obplW cy a P) (fun r _ => r = 1)) 1 6 (va_A (obplW cy a P) sz) := by
  refine kMW_start (cc := cL_trail) (maxL := 5) (ret := (some .int)) (by decide) rfl (Nat.le_of_ble_eq_true rfl) ?_
  intro p e s m below meth c hx hb hr hlocks hml hts hown htab hA hG hP hD hS ls hl
  have hK := hG.1.1.1
  have hl : lv_has ls 5 [(0, .ref (a 100)), (1, .int (iI t)), (2, .int (iI w)), (3, .ref o)] := hl
  have hbody : ∀ (H : Heap) (locs : List Loc) (hP : va_P D vwCl (obplW cy a P) H) (hS : va_S (va_A (obplW cy a P) sz) s.heap H locs) (ls : Array Slot) (hl : lv_has ls 5 [(0, .ref (a 100)), (1, .int (iI t)), (2, .int (iI w)), (3, .ref o)]), W p l e { frames := 8, cells := 1, slots := 6, locals := 140 } s m ([.ref (a 100), .int (iI t), .int (iI w), .ref o] : List Value).toArray below meth c H locs 0 0 (MQ below (kQi D (obplW cy a P) sz (fun _ : Unit => obplW cy a P) (fun r _ => r = 1)) ([.ref (a 100), .int (iI t), .int (iI w), .ref o] : List Value).toArray s 1 6 (va_A (obplW cy a P) sz)) (F0 m 0 ls []) := by
    intro H locs hP hS ls hl
    refine lv_aload_n hx hb dL_trail_0 rfl (lv_at hl 3 rfl) ?_
    refine k_iconst hx hb dL_trail_1 ?_
    refine lv_aload_n hx hb dL_trail_2 rfl (lv_at hl 0 rfl) ?_
    refine lv_iload_n hx hb dL_trail_3 rfl (lv_at hl 1 rfl) ?_
    refine lv_iload_n hx hb dL_trail_4 rfl (lv_at hl 2 rfl) ?_
    refine k_thV (As := [.int (iI t), .int (iI w)]) (rest := [.int (iI 0), .ref o]) ⟨hx, hb, hml, hown, hts⟩ (c_X6_trail_t1 l hl9 D cy a P t w hI hrt hno) gL_trail_X6_trail rfl ⟨rfl, rfl⟩ 2 rfl (by decide +kernel) ⟨Nat.le_of_ble_eq_true rfl, Nat.le_of_ble_eq_true rfl⟩ (GX_ok D cy) ((GX_ok D cy).2.2.2 _ _ _ _ (fun _ h => h.elim) ((GX_ok D cy).1 _ _ _ _ hS.2.1 hG)) hP (va_recv hK hP (ci := 5) (q0 := 0) rfl rfl) hl.1 rfl (Nat.le_of_ble_eq_true rfl) ⟨Nat.le_of_ble_eq_true rfl, Nat.le_of_ble_eq_true rfl⟩ dL_trail_5 (fun ce q9 H1 z1 o1 e1 v1 f1 => ?_)
    refine vx_catch (E := exN 0) (name := exN 0) hown (tableOf []) ⟨0, 10, 13, 19⟩ (tableOf [(0, 10, 17, 25)]) (by rw [htab]; rfl) (fun z h => by cases h) (by decide) (by decide) (hts (.classLink RL 19 (exN 0)) (by decide +kernel)) (va_Nw.use rfl (hG.2.1 0 (by decide)).2.1) e1 v1 f1 ?_
    have hP1 := P_grow hP o1
    have hS1 := S_grow hS z1 o1
    refine lv_astore (lv' := [(4, .ref q9), (0, .ref (a 100)), (1, .int (iI t)), (2, .int (iI w)), (3, .ref o)]) hx hb dL_trail_13 hl (by decide) rfl (fun ls hl => ?_)
    refine k_iconst hx hb dL_trail_15 ?_
    exact W.iret (v := iI 1) hx hb hr (fun t9 ht _ => ⟨⟨iI 1, (), rfl, ⟨1, rfl, rfl⟩, by rw [ht]; exact hP1, hD⟩, hS1.F ht⟩) hS1.2.2 dL_trail_16 hlocks
  exact hbody s.heap [] hP hS ls hl
set_option maxHeartbeats 4000000 in
set_option maxRecDepth 100000 in
theorem c_L_trail_t2 (l : Launch) (hl9 : l.stackTraces = false) (sz : Nat) (o : Nat) (D : va_G) (cy : Nat → ClassId) (a : Nat → Nat) (P : Nat → Int → Int) (t w : Int) (hI : Inv (mO P)) (h0 : 0 ≤ t) (h1 : t < P 0 0) (hrw : -2147483648 ≤ w ∧ w ≤ 2147483647) (hno : ¬ (0 ≤ w ∧ w ≤ 8)) : Met l yL_trail wsL_trail { frames := 8, cells := 1, slots := 6, locals := 140 } (mPre (GX D cy) D (obplW cy a P) sz ([.ref (a 100), .int (iI t), .int (iI w), .ref o] : List Value)) (kQi D (obplW cy a P) sz (fun _ : Unit => obplW cy a P) (fun r _ => r = 2)) 1 6 (va_A (obplW cy a P) sz) := by
  refine kMW_start (cc := cL_trail) (maxL := 5) (ret := (some .int)) (by decide) rfl (Nat.le_of_ble_eq_true rfl) ?_
  intro p e s m below meth c hx hb hr hlocks hml hts hown htab hA hG hP hD hS ls hl
  have hK := hG.1.1.1
  have hl : lv_has ls 5 [(0, .ref (a 100)), (1, .int (iI t)), (2, .int (iI w)), (3, .ref o)] := hl
  have hbody : ∀ (H : Heap) (locs : List Loc) (hP : va_P D vwCl (obplW cy a P) H) (hS : va_S (va_A (obplW cy a P) sz) s.heap H locs) (ls : Array Slot) (hl : lv_has ls 5 [(0, .ref (a 100)), (1, .int (iI t)), (2, .int (iI w)), (3, .ref o)]), W p l e { frames := 8, cells := 1, slots := 6, locals := 140 } s m ([.ref (a 100), .int (iI t), .int (iI w), .ref o] : List Value).toArray below meth c H locs 0 0 (MQ below (kQi D (obplW cy a P) sz (fun _ : Unit => obplW cy a P) (fun r _ => r = 2)) ([.ref (a 100), .int (iI t), .int (iI w), .ref o] : List Value).toArray s 1 6 (va_A (obplW cy a P) sz)) (F0 m 0 ls []) := by
    intro H locs hP hS ls hl
    refine lv_aload_n hx hb dL_trail_0 rfl (lv_at hl 3 rfl) ?_
    refine k_iconst hx hb dL_trail_1 ?_
    refine lv_aload_n hx hb dL_trail_2 rfl (lv_at hl 0 rfl) ?_
    refine lv_iload_n hx hb dL_trail_3 rfl (lv_at hl 1 rfl) ?_
    refine lv_iload_n hx hb dL_trail_4 rfl (lv_at hl 2 rfl) ?_
    refine k_thV (As := [.int (iI t), .int (iI w)]) (rest := [.int (iI 0), .ref o]) ⟨hx, hb, hml, hown, hts⟩ (c_X6_trail_t2 l hl9 D cy a P t w hI h0 h1 hrw hno) gL_trail_X6_trail rfl ⟨rfl, rfl⟩ 2 rfl (by decide +kernel) ⟨Nat.le_of_ble_eq_true rfl, Nat.le_of_ble_eq_true rfl⟩ (GX_ok D cy) ((GX_ok D cy).2.2.2 _ _ _ _ (fun _ h => h.elim) ((GX_ok D cy).1 _ _ _ _ hS.2.1 hG)) hP (va_recv hK hP (ci := 5) (q0 := 0) rfl rfl) hl.1 rfl (Nat.le_of_ble_eq_true rfl) ⟨Nat.le_of_ble_eq_true rfl, Nat.le_of_ble_eq_true rfl⟩ dL_trail_5 (fun ce q9 H1 z1 o1 e1 v1 f1 => ?_)
    refine vx_catch (E := exN 1) (name := exN 1) hown (tableOf [(0, 10, 13, 19)]) ⟨0, 10, 17, 25⟩ (tableOf []) (by rw [htab]; rfl) (fun z h => by
      rcases List.mem_cons.mp h with rfl | h
      · exact Or.inr ⟨by decide, exN 0, hts (.classLink RL 19 (exN 0)) (by decide +kernel), (hG.2.1 1 (by decide)).2.2 0 (by decide) (by decide)⟩
      cases h) (by decide) (by decide) (hts (.classLink RL 25 (exN 1)) (by decide +kernel)) (va_Nw.use rfl (hG.2.1 1 (by decide)).2.1) e1 v1 f1 ?_
    have hP1 := P_grow hP o1
    have hS1 := S_grow hS z1 o1
    refine lv_astore (lv' := [(4, .ref q9), (0, .ref (a 100)), (1, .int (iI t)), (2, .int (iI w)), (3, .ref o)]) hx hb dL_trail_17 hl (by decide) rfl (fun ls hl => ?_)
    refine k_iconst hx hb dL_trail_19 ?_
    exact W.iret (v := iI 2) hx hb hr (fun t9 ht _ => ⟨⟨iI 2, (), rfl, ⟨2, rfl, rfl⟩, by rw [ht]; exact hP1, hD⟩, hS1.F ht⟩) hS1.2.2 dL_trail_20 hlocks
  exact hbody s.heap [] hP hS ls hl
set_option maxHeartbeats 4000000 in
set_option maxRecDepth 100000 in
theorem c_L_star (l : Launch) (sz : Nat) (o : Nat) (fO : Nat → Int64) (D : va_G) (cy : Nat → ClassId) (a : Nat → Nat) (P : Nat → Int → Int) (u w : Int) (hI : Inv (mO P)) (hl0 : P 100 6 = 0 ∨ P 100 6 = 1) (hl1 : P 100 6 = 1 → lkd P) (h0u : 0 ≤ u) (h1u : u < P 0 1) (hw : 0 ≤ w ∧ w ≤ 6) : Met l yL_star wsL_star { frames := 7, cells := 0, slots := 0, locals := 178 } (mPre (GG D cy) D (ouW cy o fO (oblkW cy a P)) sz ([.ref (a 100), .int (iI u), .int (iI w), .ref o] : List Value)) (kQi D (ouW cy o fO (oblkW cy a P)) sz (fun u8 : (Nat → Int → Int) × (Nat → Int64) => ouW cy o u8.2 (oblkW cy a u8.1)) (ouP (fun r9 u9 => ∃ (zZ : Nat → Int → Int), (figOK (mO P) zZ (P 0 0) ∧ maOK (mO P) (P 8 8) (zZ 31) (zZ 32) (zZ 33) ∧ zZ 30 3 = (mat (mO P) (P 8 8)).2.2.1 ∧ zZ 30 4 = (mat (mO P) (P 8 8)).2.2.2) ∧ (r9 = stW (mO P) u w) ∧ (u9 = (upr (upr (upr (upr (upr (upr (upr (upr (upr (upr (upr (upr (upr (upr (upr (upr P 21 (zZ 21)) 22 (zZ 22)) 23 (zZ 23)) 24 (zZ 24)) 25 (zZ 25)) 26 (zZ 26)) 27 (zZ 27)) 28 (zZ 28)) 30 (zZ 30)) 31 (zZ 31)) 32 (zZ 32)) 33 (zZ 33)) 34 (zZ 34)) 35 (zZ 35)) 36 (zZ 36)) 100 (ups (P 100) 6 1)))))) 0 0 (va_A (ouW cy o fO (oblkW cy a P)) sz) := by
  refine kMW_start (cc := cL_star) (maxL := 5) (ret := (some .int)) (by decide) rfl (Nat.le_of_ble_eq_true rfl) ?_
  intro p e s m below meth c hx hb hr hlocks hml hts hown htab hA hG hP hD hS ls hl
  have hK := hG.1
  have hl : lv_has ls 5 [(0, .ref (a 100)), (1, .int (iI u)), (2, .int (iI w)), (3, .ref o)] := hl
  have hbody : ∀ (H : Heap) (locs : List Loc) (hP : va_P D vwCl (ouW cy o fO (oblkW cy a P)) H) (hS : va_S (va_A (ouW cy o fO (oblkW cy a P)) sz) s.heap H locs) (ls : Array Slot) (hl : lv_has ls 5 [(0, .ref (a 100)), (1, .int (iI u)), (2, .int (iI w)), (3, .ref o)]), W p l e { frames := 7, cells := 0, slots := 0, locals := 178 } s m ([.ref (a 100), .int (iI u), .int (iI w), .ref o] : List Value).toArray below meth c H locs 0 0 (MQ below (kQi D (ouW cy o fO (oblkW cy a P)) sz (fun u8 : (Nat → Int → Int) × (Nat → Int64) => ouW cy o u8.2 (oblkW cy a u8.1)) (ouP (fun r9 u9 => ∃ (zZ : Nat → Int → Int), (figOK (mO P) zZ (P 0 0) ∧ maOK (mO P) (P 8 8) (zZ 31) (zZ 32) (zZ 33) ∧ zZ 30 3 = (mat (mO P) (P 8 8)).2.2.1 ∧ zZ 30 4 = (mat (mO P) (P 8 8)).2.2.2) ∧ (r9 = stW (mO P) u w) ∧ (u9 = (upr (upr (upr (upr (upr (upr (upr (upr (upr (upr (upr (upr (upr (upr (upr (upr P 21 (zZ 21)) 22 (zZ 22)) 23 (zZ 23)) 24 (zZ 24)) 25 (zZ 25)) 26 (zZ 26)) 27 (zZ 27)) 28 (zZ 28)) 30 (zZ 30)) 31 (zZ 31)) 32 (zZ 32)) 33 (zZ 33)) 34 (zZ 34)) 35 (zZ 35)) 36 (zZ 36)) 100 (ups (P 100) 6 1)))))) ([.ref (a 100), .int (iI u), .int (iI w), .ref o] : List Value).toArray s 0 0 (va_A (ouW cy o fO (oblkW cy a P)) sz)) (F0 m 0 ls []) := by
    intro H locs hP hS ls hl
    refine lv_aload_n hx hb dL_star_0 rfl (lv_at hl 3 rfl) ?_
    refine k_iconst hx hb dL_star_1 ?_
    refine lv_aload_n hx hb dL_star_2 rfl (lv_at hl 0 rfl) ?_
    refine lv_iload_n hx hb dL_star_3 rfl (lv_at hl 1 rfl) ?_
    refine lv_iload_n hx hb dL_star_4 rfl (lv_at hl 2 rfl) ?_
    have hPc := hP.sub (ws' := oblkW cy a P) [1, 2, 3, 4, 5, 6, 7, 8, 9, 10, 11, 12, 13, 14, 15, 16, 17, 18, 19, 20, 21, 22, 23, 24, 25, 26] rfl
    have hDc := hD.sub (ws' := oblkW cy a P) [1, 2, 3, 4, 5, 6, 7, 8, 9, 10, 11, 12, 13, 14, 15, 16, 17, 18, 19, 20, 21, 22, 23, 24, 25, 26] (by decide) rfl
    have hFc := va_free (wc := oblkW cy a P) hD hS hA [1, 2, 3, 4, 5, 6, 7, 8, 9, 10, 11, 12, 13, 14, 15, 16, 17, 18, 19, 20, 21, 22, 23, 24, 25, 26] rfl
    refine k_mui (k_runV (As := [.int (iI u), .int (iI w)]) (rest := [.int (iI 0), .ref o]) ⟨hx, hb, hml, hown, hts⟩ (c_X6_star l D cy H.size a P u w hI hl0 hl1 h0u h1u hw) gL_star_X6_star rfl ⟨rfl, rfl⟩ 2 rfl (by decide +kernel) ⟨Nat.le_of_ble_eq_true rfl, Nat.le_of_ble_eq_true rfl⟩ (GG_ok D cy) hG hS hFc hPc hDc (va_recv hK hP (ci := 5) (q0 := 1) rfl rfl) hl.1 rfl (Nat.le_of_ble_eq_true rfl) ⟨Nat.le_of_ble_eq_true rfl, Nat.le_of_ble_eq_true rfl⟩ dL_star_5) hFc hS (fun r8 u8 H1 locs1 hpost hP1 hD1 hS1 hk1 => ?_)
    have hJ := va_join (wr := [(o, .inl (cy 4, 1, .inr (.inl fO)))]) hP hD [1, 2, 3, 4, 5, 6, 7, 8, 9, 10, 11, 12, 13, 14, 15, 16, 17, 18, 19, 20, 21, 22, 23, 24, 25, 26] [0] rfl rfl (by decide) (by decide) hk1 hFc hP1 hD1
    obtain ⟨hP, hD⟩ := hJ
    have hS := hS1
    refine lv_i2l hx hb dL_star_8 rfl ?_
    refine va_last hx hb hK hP hD hS 0 4 rfl rfl (i := iI 0) (vp_iI (by decide)) dL_star_9 (fun H1 locs1 hP hD hS => ?_)
    refine lv_goto (tgt := 21) hx hb dL_star_10 (by decide) ?_
    refine k_iconst hx hb dL_star_21 ?_
    exact W.iret (v := iI 0) hx hb hr (fun t9 ht _ => ⟨⟨iI 0, (u8, vp_updL fO (iI 0).toNatClampNeg (iI r8).toInt64), rfl, ⟨0, rfl, rfl, r8, out_0 fO _, hpost⟩, by rw [ht]; exact hP, hD⟩, hS.F ht⟩) hS.2.2 dL_star_22 hlocks
  exact hbody s.heap [] hP hS ls hl
set_option maxHeartbeats 4000000 in
set_option maxRecDepth 100000 in
theorem c_L_star_t1 (l : Launch) (hl9 : l.stackTraces = false) (sz : Nat) (o : Nat) (D : va_G) (cy : Nat → ClassId) (a : Nat → Nat) (P : Nat → Int → Int) (u w : Int) (hI : Inv (mO P)) (hru : -2147483648 ≤ u ∧ u ≤ 2147483647) (hno : ¬ (0 ≤ u ∧ u < P 0 1)) : Met l yL_star wsL_star { frames := 8, cells := 1, slots := 6, locals := 140 } (mPre (GX D cy) D (obplW cy a P) sz ([.ref (a 100), .int (iI u), .int (iI w), .ref o] : List Value)) (kQi D (obplW cy a P) sz (fun _ : Unit => obplW cy a P) (fun r _ => r = 1)) 1 6 (va_A (obplW cy a P) sz) := by
  refine kMW_start (cc := cL_star) (maxL := 5) (ret := (some .int)) (by decide) rfl (Nat.le_of_ble_eq_true rfl) ?_
  intro p e s m below meth c hx hb hr hlocks hml hts hown htab hA hG hP hD hS ls hl
  have hK := hG.1.1.1
  have hl : lv_has ls 5 [(0, .ref (a 100)), (1, .int (iI u)), (2, .int (iI w)), (3, .ref o)] := hl
  have hbody : ∀ (H : Heap) (locs : List Loc) (hP : va_P D vwCl (obplW cy a P) H) (hS : va_S (va_A (obplW cy a P) sz) s.heap H locs) (ls : Array Slot) (hl : lv_has ls 5 [(0, .ref (a 100)), (1, .int (iI u)), (2, .int (iI w)), (3, .ref o)]), W p l e { frames := 8, cells := 1, slots := 6, locals := 140 } s m ([.ref (a 100), .int (iI u), .int (iI w), .ref o] : List Value).toArray below meth c H locs 0 0 (MQ below (kQi D (obplW cy a P) sz (fun _ : Unit => obplW cy a P) (fun r _ => r = 1)) ([.ref (a 100), .int (iI u), .int (iI w), .ref o] : List Value).toArray s 1 6 (va_A (obplW cy a P) sz)) (F0 m 0 ls []) := by
    intro H locs hP hS ls hl
    refine lv_aload_n hx hb dL_star_0 rfl (lv_at hl 3 rfl) ?_
    refine k_iconst hx hb dL_star_1 ?_
    refine lv_aload_n hx hb dL_star_2 rfl (lv_at hl 0 rfl) ?_
    refine lv_iload_n hx hb dL_star_3 rfl (lv_at hl 1 rfl) ?_
    refine lv_iload_n hx hb dL_star_4 rfl (lv_at hl 2 rfl) ?_
    refine k_thV (As := [.int (iI u), .int (iI w)]) (rest := [.int (iI 0), .ref o]) ⟨hx, hb, hml, hown, hts⟩ (c_X6_star_t1 l hl9 D cy a P u w hI hru hno) gL_star_X6_star rfl ⟨rfl, rfl⟩ 2 rfl (by decide +kernel) ⟨Nat.le_of_ble_eq_true rfl, Nat.le_of_ble_eq_true rfl⟩ (GX_ok D cy) ((GX_ok D cy).2.2.2 _ _ _ _ (fun _ h => h.elim) ((GX_ok D cy).1 _ _ _ _ hS.2.1 hG)) hP (va_recv hK hP (ci := 5) (q0 := 0) rfl rfl) hl.1 rfl (Nat.le_of_ble_eq_true rfl) ⟨Nat.le_of_ble_eq_true rfl, Nat.le_of_ble_eq_true rfl⟩ dL_star_5 (fun ce q9 H1 z1 o1 e1 v1 f1 => ?_)
    refine vx_catch (E := exN 0) (name := exN 0) hown (tableOf []) ⟨0, 10, 13, 19⟩ (tableOf [(0, 10, 17, 25)]) (by rw [htab]; rfl) (fun z h => by cases h) (by decide) (by decide) (hts (.classLink RL 19 (exN 0)) (by decide +kernel)) (va_Nw.use rfl (hG.2.1 0 (by decide)).2.1) e1 v1 f1 ?_
    have hP1 := P_grow hP o1
    have hS1 := S_grow hS z1 o1
    refine lv_astore (lv' := [(4, .ref q9), (0, .ref (a 100)), (1, .int (iI u)), (2, .int (iI w)), (3, .ref o)]) hx hb dL_star_13 hl (by decide) rfl (fun ls hl => ?_)
    refine k_iconst hx hb dL_star_15 ?_
    exact W.iret (v := iI 1) hx hb hr (fun t9 ht _ => ⟨⟨iI 1, (), rfl, ⟨1, rfl, rfl⟩, by rw [ht]; exact hP1, hD⟩, hS1.F ht⟩) hS1.2.2 dL_star_16 hlocks
  exact hbody s.heap [] hP hS ls hl
set_option maxHeartbeats 4000000 in
set_option maxRecDepth 100000 in
theorem c_L_star_t2 (l : Launch) (hl9 : l.stackTraces = false) (sz : Nat) (o : Nat) (D : va_G) (cy : Nat → ClassId) (a : Nat → Nat) (P : Nat → Int → Int) (u w : Int) (hI : Inv (mO P)) (h0u : 0 ≤ u) (h1u : u < P 0 1) (hrw : -2147483648 ≤ w ∧ w ≤ 2147483647) (hno : ¬ (0 ≤ w ∧ w ≤ 6)) : Met l yL_star wsL_star { frames := 8, cells := 1, slots := 6, locals := 140 } (mPre (GX D cy) D (obplW cy a P) sz ([.ref (a 100), .int (iI u), .int (iI w), .ref o] : List Value)) (kQi D (obplW cy a P) sz (fun _ : Unit => obplW cy a P) (fun r _ => r = 2)) 1 6 (va_A (obplW cy a P) sz) := by
  refine kMW_start (cc := cL_star) (maxL := 5) (ret := (some .int)) (by decide) rfl (Nat.le_of_ble_eq_true rfl) ?_
  intro p e s m below meth c hx hb hr hlocks hml hts hown htab hA hG hP hD hS ls hl
  have hK := hG.1.1.1
  have hl : lv_has ls 5 [(0, .ref (a 100)), (1, .int (iI u)), (2, .int (iI w)), (3, .ref o)] := hl
  have hbody : ∀ (H : Heap) (locs : List Loc) (hP : va_P D vwCl (obplW cy a P) H) (hS : va_S (va_A (obplW cy a P) sz) s.heap H locs) (ls : Array Slot) (hl : lv_has ls 5 [(0, .ref (a 100)), (1, .int (iI u)), (2, .int (iI w)), (3, .ref o)]), W p l e { frames := 8, cells := 1, slots := 6, locals := 140 } s m ([.ref (a 100), .int (iI u), .int (iI w), .ref o] : List Value).toArray below meth c H locs 0 0 (MQ below (kQi D (obplW cy a P) sz (fun _ : Unit => obplW cy a P) (fun r _ => r = 2)) ([.ref (a 100), .int (iI u), .int (iI w), .ref o] : List Value).toArray s 1 6 (va_A (obplW cy a P) sz)) (F0 m 0 ls []) := by
    intro H locs hP hS ls hl
    refine lv_aload_n hx hb dL_star_0 rfl (lv_at hl 3 rfl) ?_
    refine k_iconst hx hb dL_star_1 ?_
    refine lv_aload_n hx hb dL_star_2 rfl (lv_at hl 0 rfl) ?_
    refine lv_iload_n hx hb dL_star_3 rfl (lv_at hl 1 rfl) ?_
    refine lv_iload_n hx hb dL_star_4 rfl (lv_at hl 2 rfl) ?_
    refine k_thV (As := [.int (iI u), .int (iI w)]) (rest := [.int (iI 0), .ref o]) ⟨hx, hb, hml, hown, hts⟩ (c_X6_star_t2 l hl9 D cy a P u w hI h0u h1u hrw hno) gL_star_X6_star rfl ⟨rfl, rfl⟩ 2 rfl (by decide +kernel) ⟨Nat.le_of_ble_eq_true rfl, Nat.le_of_ble_eq_true rfl⟩ (GX_ok D cy) ((GX_ok D cy).2.2.2 _ _ _ _ (fun _ h => h.elim) ((GX_ok D cy).1 _ _ _ _ hS.2.1 hG)) hP (va_recv hK hP (ci := 5) (q0 := 0) rfl rfl) hl.1 rfl (Nat.le_of_ble_eq_true rfl) ⟨Nat.le_of_ble_eq_true rfl, Nat.le_of_ble_eq_true rfl⟩ dL_star_5 (fun ce q9 H1 z1 o1 e1 v1 f1 => ?_)
    refine vx_catch (E := exN 1) (name := exN 1) hown (tableOf [(0, 10, 13, 19)]) ⟨0, 10, 17, 25⟩ (tableOf []) (by rw [htab]; rfl) (fun z h => by
      rcases List.mem_cons.mp h with rfl | h
      · exact Or.inr ⟨by decide, exN 0, hts (.classLink RL 19 (exN 0)) (by decide +kernel), (hG.2.1 1 (by decide)).2.2 0 (by decide) (by decide)⟩
      cases h) (by decide) (by decide) (hts (.classLink RL 25 (exN 1)) (by decide +kernel)) (va_Nw.use rfl (hG.2.1 1 (by decide)).2.1) e1 v1 f1 ?_
    have hP1 := P_grow hP o1
    have hS1 := S_grow hS z1 o1
    refine lv_astore (lv' := [(4, .ref q9), (0, .ref (a 100)), (1, .int (iI u)), (2, .int (iI w)), (3, .ref o)]) hx hb dL_star_17 hl (by decide) rfl (fun ls hl => ?_)
    refine k_iconst hx hb dL_star_19 ?_
    exact W.iret (v := iI 2) hx hb hr (fun t9 ht _ => ⟨⟨iI 2, (), rfl, ⟨2, rfl, rfl⟩, by rw [ht]; exact hP1, hD⟩, hS1.F ht⟩) hS1.2.2 dL_star_20 hlocks
  exact hbody s.heap [] hP hS ls hl
set_option maxHeartbeats 4000000 in
set_option maxRecDepth 100000 in
theorem c_L_starAngle (l : Launch) (sz : Nat) (o : Nat) (fO : Nat → Int64) (D : va_G) (cy : Nat → ClassId) (a : Nat → Nat) (P : Nat → Int → Int) (u f : Int) (hI : Inv (mO P)) (h0u : 0 ≤ u) (h1u : u < P 0 1) (hf : 0 ≤ f ∧ f ≤ 1000) : Met l yL_starAngle wsL_starAngle { frames := 3, cells := 0, slots := 0, locals := 75 } (mPre (GG D cy) D (ouW cy o fO (obplW cy a P)) sz ([.ref (a 100), .int (iI u), .int (iI f), .ref o] : List Value)) (kQi D (ouW cy o fO (obplW cy a P)) sz (fun u8 : Unit × (Nat → Int64) => ouW cy o u8.2 (obplW cy a P)) (ouP (fun r9 _ => (fun r => r = stAng (mO P) (P 8 8) u f) r9))) 0 0 (va_A (ouW cy o fO (obplW cy a P)) sz) := by
  refine kMW_start (cc := cL_starAngle) (maxL := 5) (ret := (some .int)) (by decide) rfl (Nat.le_of_ble_eq_true rfl) ?_
  intro p e s m below meth c hx hb hr hlocks hml hts hown htab hA hG hP hD hS ls hl
  have hK := hG.1
  have hl : lv_has ls 5 [(0, .ref (a 100)), (1, .int (iI u)), (2, .int (iI f)), (3, .ref o)] := hl
  have hbody : ∀ (H : Heap) (locs : List Loc) (hP : va_P D vwCl (ouW cy o fO (obplW cy a P)) H) (hS : va_S (va_A (ouW cy o fO (obplW cy a P)) sz) s.heap H locs) (ls : Array Slot) (hl : lv_has ls 5 [(0, .ref (a 100)), (1, .int (iI u)), (2, .int (iI f)), (3, .ref o)]), W p l e { frames := 3, cells := 0, slots := 0, locals := 75 } s m ([.ref (a 100), .int (iI u), .int (iI f), .ref o] : List Value).toArray below meth c H locs 0 0 (MQ below (kQi D (ouW cy o fO (obplW cy a P)) sz (fun u8 : Unit × (Nat → Int64) => ouW cy o u8.2 (obplW cy a P)) (ouP (fun r9 _ => (fun r => r = stAng (mO P) (P 8 8) u f) r9))) ([.ref (a 100), .int (iI u), .int (iI f), .ref o] : List Value).toArray s 0 0 (va_A (ouW cy o fO (obplW cy a P)) sz)) (F0 m 0 ls []) := by
    intro H locs hP hS ls hl
    refine lv_aload_n hx hb dL_starAngle_0 rfl (lv_at hl 3 rfl) ?_
    refine k_iconst hx hb dL_starAngle_1 ?_
    refine lv_aload_n hx hb dL_starAngle_2 rfl (lv_at hl 0 rfl) ?_
    refine lv_iload_n hx hb dL_starAngle_3 rfl (lv_at hl 1 rfl) ?_
    refine lv_iload_n hx hb dL_starAngle_4 rfl (lv_at hl 2 rfl) ?_
    refine k_roV (As := [.int (iI u), .int (iI f)]) (rest := [.int (iI 0), .ref o]) ⟨hx, hb, hml, hown, hts⟩ (c_X6_starAngle l D cy a P u f hI h0u h1u hf) gL_starAngle_X6_starAngle rfl ⟨rfl, rfl⟩ 2 rfl (by decide +kernel) ⟨Nat.le_of_ble_eq_true rfl, Nat.le_of_ble_eq_true rfl⟩ (GG_ok D cy) ((GG_ok D cy).2.2.2 _ _ _ _ (fun _ h => h.elim) ((GG_ok D cy).1 _ _ _ _ hS.2.1 hG)) (hP.sub (ws' := obplW cy a P) [1, 2, 3, 4, 5, 6, 7, 8, 9, 10] rfl) (va_recv hK hP (ci := 5) (q0 := 1) rfl rfl) hl.1 rfl (Nat.le_of_ble_eq_true rfl) ⟨Nat.le_of_ble_eq_true rfl, Nat.le_of_ble_eq_true rfl⟩ dL_starAngle_5 (fun r8 hpost => ?_)
    refine lv_i2l hx hb dL_starAngle_8 rfl ?_
    refine va_last hx hb hK hP hD hS 0 4 rfl rfl (i := iI 0) (vp_iI (by decide)) dL_starAngle_9 (fun H1 locs1 hP hD hS => ?_)
    refine lv_goto (tgt := 21) hx hb dL_starAngle_10 (by decide) ?_
    refine k_iconst hx hb dL_starAngle_21 ?_
    exact W.iret (v := iI 0) hx hb hr (fun t9 ht _ => ⟨⟨iI 0, ((), vp_updL fO (iI 0).toNatClampNeg (iI r8).toInt64), rfl, ⟨0, rfl, rfl, r8, out_0 fO _, hpost⟩, by rw [ht]; exact hP, hD⟩, hS.F ht⟩) hS.2.2 dL_starAngle_22 hlocks
  exact hbody s.heap [] hP hS ls hl
set_option maxHeartbeats 4000000 in
set_option maxRecDepth 100000 in
theorem c_L_starAngle_t1 (l : Launch) (hl9 : l.stackTraces = false) (sz : Nat) (o : Nat) (D : va_G) (cy : Nat → ClassId) (a : Nat → Nat) (P : Nat → Int → Int) (u f : Int) (hI : Inv (mO P)) (hru : -2147483648 ≤ u ∧ u ≤ 2147483647) (hno : ¬ (0 ≤ u ∧ u < P 0 1)) : Met l yL_starAngle wsL_starAngle { frames := 8, cells := 1, slots := 6, locals := 140 } (mPre (GX D cy) D (obplW cy a P) sz ([.ref (a 100), .int (iI u), .int (iI f), .ref o] : List Value)) (kQi D (obplW cy a P) sz (fun _ : Unit => obplW cy a P) (fun r _ => r = 1)) 1 6 (va_A (obplW cy a P) sz) := by
  refine kMW_start (cc := cL_starAngle) (maxL := 5) (ret := (some .int)) (by decide) rfl (Nat.le_of_ble_eq_true rfl) ?_
  intro p e s m below meth c hx hb hr hlocks hml hts hown htab hA hG hP hD hS ls hl
  have hK := hG.1.1.1
  have hl : lv_has ls 5 [(0, .ref (a 100)), (1, .int (iI u)), (2, .int (iI f)), (3, .ref o)] := hl
  have hbody : ∀ (H : Heap) (locs : List Loc) (hP : va_P D vwCl (obplW cy a P) H) (hS : va_S (va_A (obplW cy a P) sz) s.heap H locs) (ls : Array Slot) (hl : lv_has ls 5 [(0, .ref (a 100)), (1, .int (iI u)), (2, .int (iI f)), (3, .ref o)]), W p l e { frames := 8, cells := 1, slots := 6, locals := 140 } s m ([.ref (a 100), .int (iI u), .int (iI f), .ref o] : List Value).toArray below meth c H locs 0 0 (MQ below (kQi D (obplW cy a P) sz (fun _ : Unit => obplW cy a P) (fun r _ => r = 1)) ([.ref (a 100), .int (iI u), .int (iI f), .ref o] : List Value).toArray s 1 6 (va_A (obplW cy a P) sz)) (F0 m 0 ls []) := by
    intro H locs hP hS ls hl
    refine lv_aload_n hx hb dL_starAngle_0 rfl (lv_at hl 3 rfl) ?_
    refine k_iconst hx hb dL_starAngle_1 ?_
    refine lv_aload_n hx hb dL_starAngle_2 rfl (lv_at hl 0 rfl) ?_
    refine lv_iload_n hx hb dL_starAngle_3 rfl (lv_at hl 1 rfl) ?_
    refine lv_iload_n hx hb dL_starAngle_4 rfl (lv_at hl 2 rfl) ?_
    refine k_thV (As := [.int (iI u), .int (iI f)]) (rest := [.int (iI 0), .ref o]) ⟨hx, hb, hml, hown, hts⟩ (c_X6_starAngle_t1 l hl9 D cy a P u f hI hru hno) gL_starAngle_X6_starAngle rfl ⟨rfl, rfl⟩ 2 rfl (by decide +kernel) ⟨Nat.le_of_ble_eq_true rfl, Nat.le_of_ble_eq_true rfl⟩ (GX_ok D cy) ((GX_ok D cy).2.2.2 _ _ _ _ (fun _ h => h.elim) ((GX_ok D cy).1 _ _ _ _ hS.2.1 hG)) hP (va_recv hK hP (ci := 5) (q0 := 0) rfl rfl) hl.1 rfl (Nat.le_of_ble_eq_true rfl) ⟨Nat.le_of_ble_eq_true rfl, Nat.le_of_ble_eq_true rfl⟩ dL_starAngle_5 (fun ce q9 H1 z1 o1 e1 v1 f1 => ?_)
    refine vx_catch (E := exN 0) (name := exN 0) hown (tableOf []) ⟨0, 10, 13, 19⟩ (tableOf [(0, 10, 17, 25)]) (by rw [htab]; rfl) (fun z h => by cases h) (by decide) (by decide) (hts (.classLink RL 19 (exN 0)) (by decide +kernel)) (va_Nw.use rfl (hG.2.1 0 (by decide)).2.1) e1 v1 f1 ?_
    have hP1 := P_grow hP o1
    have hS1 := S_grow hS z1 o1
    refine lv_astore (lv' := [(4, .ref q9), (0, .ref (a 100)), (1, .int (iI u)), (2, .int (iI f)), (3, .ref o)]) hx hb dL_starAngle_13 hl (by decide) rfl (fun ls hl => ?_)
    refine k_iconst hx hb dL_starAngle_15 ?_
    exact W.iret (v := iI 1) hx hb hr (fun t9 ht _ => ⟨⟨iI 1, (), rfl, ⟨1, rfl, rfl⟩, by rw [ht]; exact hP1, hD⟩, hS1.F ht⟩) hS1.2.2 dL_starAngle_16 hlocks
  exact hbody s.heap [] hP hS ls hl
set_option maxHeartbeats 4000000 in
set_option maxRecDepth 100000 in
theorem c_L_starAngle_t2 (l : Launch) (hl9 : l.stackTraces = false) (sz : Nat) (o : Nat) (D : va_G) (cy : Nat → ClassId) (a : Nat → Nat) (P : Nat → Int → Int) (u f : Int) (hI : Inv (mO P)) (h0u : 0 ≤ u) (h1u : u < P 0 1) (hrf : -2147483648 ≤ f ∧ f ≤ 2147483647) (hno : ¬ (0 ≤ f ∧ f ≤ 1000)) : Met l yL_starAngle wsL_starAngle { frames := 8, cells := 1, slots := 6, locals := 140 } (mPre (GX D cy) D (obplW cy a P) sz ([.ref (a 100), .int (iI u), .int (iI f), .ref o] : List Value)) (kQi D (obplW cy a P) sz (fun _ : Unit => obplW cy a P) (fun r _ => r = 2)) 1 6 (va_A (obplW cy a P) sz) := by
  refine kMW_start (cc := cL_starAngle) (maxL := 5) (ret := (some .int)) (by decide) rfl (Nat.le_of_ble_eq_true rfl) ?_
  intro p e s m below meth c hx hb hr hlocks hml hts hown htab hA hG hP hD hS ls hl
  have hK := hG.1.1.1
  have hl : lv_has ls 5 [(0, .ref (a 100)), (1, .int (iI u)), (2, .int (iI f)), (3, .ref o)] := hl
  have hbody : ∀ (H : Heap) (locs : List Loc) (hP : va_P D vwCl (obplW cy a P) H) (hS : va_S (va_A (obplW cy a P) sz) s.heap H locs) (ls : Array Slot) (hl : lv_has ls 5 [(0, .ref (a 100)), (1, .int (iI u)), (2, .int (iI f)), (3, .ref o)]), W p l e { frames := 8, cells := 1, slots := 6, locals := 140 } s m ([.ref (a 100), .int (iI u), .int (iI f), .ref o] : List Value).toArray below meth c H locs 0 0 (MQ below (kQi D (obplW cy a P) sz (fun _ : Unit => obplW cy a P) (fun r _ => r = 2)) ([.ref (a 100), .int (iI u), .int (iI f), .ref o] : List Value).toArray s 1 6 (va_A (obplW cy a P) sz)) (F0 m 0 ls []) := by
    intro H locs hP hS ls hl
    refine lv_aload_n hx hb dL_starAngle_0 rfl (lv_at hl 3 rfl) ?_
    refine k_iconst hx hb dL_starAngle_1 ?_
    refine lv_aload_n hx hb dL_starAngle_2 rfl (lv_at hl 0 rfl) ?_
    refine lv_iload_n hx hb dL_starAngle_3 rfl (lv_at hl 1 rfl) ?_
    refine lv_iload_n hx hb dL_starAngle_4 rfl (lv_at hl 2 rfl) ?_
    refine k_thV (As := [.int (iI u), .int (iI f)]) (rest := [.int (iI 0), .ref o]) ⟨hx, hb, hml, hown, hts⟩ (c_X6_starAngle_t2 l hl9 D cy a P u f hI h0u h1u hrf hno) gL_starAngle_X6_starAngle rfl ⟨rfl, rfl⟩ 2 rfl (by decide +kernel) ⟨Nat.le_of_ble_eq_true rfl, Nat.le_of_ble_eq_true rfl⟩ (GX_ok D cy) ((GX_ok D cy).2.2.2 _ _ _ _ (fun _ h => h.elim) ((GX_ok D cy).1 _ _ _ _ hS.2.1 hG)) hP (va_recv hK hP (ci := 5) (q0 := 0) rfl rfl) hl.1 rfl (Nat.le_of_ble_eq_true rfl) ⟨Nat.le_of_ble_eq_true rfl, Nat.le_of_ble_eq_true rfl⟩ dL_starAngle_5 (fun ce q9 H1 z1 o1 e1 v1 f1 => ?_)
    refine vx_catch (E := exN 1) (name := exN 1) hown (tableOf [(0, 10, 13, 19)]) ⟨0, 10, 17, 25⟩ (tableOf []) (by rw [htab]; rfl) (fun z h => by
      rcases List.mem_cons.mp h with rfl | h
      · exact Or.inr ⟨by decide, exN 0, hts (.classLink RL 19 (exN 0)) (by decide +kernel), (hG.2.1 1 (by decide)).2.2 0 (by decide) (by decide)⟩
      cases h) (by decide) (by decide) (hts (.classLink RL 25 (exN 1)) (by decide +kernel)) (va_Nw.use rfl (hG.2.1 1 (by decide)).2.1) e1 v1 f1 ?_
    have hP1 := P_grow hP o1
    have hS1 := S_grow hS z1 o1
    refine lv_astore (lv' := [(4, .ref q9), (0, .ref (a 100)), (1, .int (iI u)), (2, .int (iI f)), (3, .ref o)]) hx hb dL_starAngle_17 hl (by decide) rfl (fun ls hl => ?_)
    refine k_iconst hx hb dL_starAngle_19 ?_
    exact W.iret (v := iI 2) hx hb hr (fun t9 ht _ => ⟨⟨iI 2, (), rfl, ⟨2, rfl, rfl⟩, by rw [ht]; exact hP1, hD⟩, hS1.F ht⟩) hS1.2.2 dL_starAngle_20 hlocks
  exact hbody s.heap [] hP hS ls hl
set_option maxHeartbeats 4000000 in
set_option maxRecDepth 100000 in
theorem c_L_cost (l : Launch) (sz : Nat) (o : Nat) (fO : Nat → Int64) (D : va_G) (cy : Nat → ClassId) (a : Nat → Nat) (P : Nat → Int → Int) (t u : Int) (hI : Inv (mO P)) (hl0 : P 100 6 = 0 ∨ P 100 6 = 1) (hl1 : P 100 6 = 1 → lkd P) (h0 : 0 ≤ t) (h1 : t < P 0 0) (hp0 : 0 < P 1 t) (h0u : 0 ≤ u) (h1u : u < P 0 1) : Met l yL_cost wsL_cost { frames := 7, cells := 0, slots := 0, locals := 178 } (mPre (GG D cy) D (ouW cy o fO (oblkW cy a P)) sz ([.ref (a 100), .int (iI t), .int (iI u), .ref o] : List Value)) (kQi D (ouW cy o fO (oblkW cy a P)) sz (fun u8 : (Nat → Int → Int) × (Nat → Int64) => ouW cy o u8.2 (oblkW cy a u8.1)) (ouP (fun r9 u9 => ∃ (zZ : Nat → Int → Int), (figOK (mO P) zZ (P 0 0) ∧ maOK (mO P) (P 8 8) (zZ 31) (zZ 32) (zZ 33) ∧ zZ 30 3 = (mat (mO P) (P 8 8)).2.2.1 ∧ zZ 30 4 = (mat (mO P) (P 8 8)).2.2.2) ∧ (r9 = cstZ (mO P) (P 8 8) t u) ∧ (u9 = (upr (upr (upr (upr (upr (upr (upr (upr (upr (upr (upr (upr (upr (upr (upr (upr P 21 (zZ 21)) 22 (zZ 22)) 23 (zZ 23)) 24 (zZ 24)) 25 (zZ 25)) 26 (zZ 26)) 27 (zZ 27)) 28 (zZ 28)) 30 (zZ 30)) 31 (zZ 31)) 32 (zZ 32)) 33 (zZ 33)) 34 (zZ 34)) 35 (zZ 35)) 36 (zZ 36)) 100 (ups (P 100) 6 1)))))) 0 0 (va_A (ouW cy o fO (oblkW cy a P)) sz) := by
  refine kMW_start (cc := cL_cost) (maxL := 5) (ret := (some .int)) (by decide) rfl (Nat.le_of_ble_eq_true rfl) ?_
  intro p e s m below meth c hx hb hr hlocks hml hts hown htab hA hG hP hD hS ls hl
  have hK := hG.1
  have hl : lv_has ls 5 [(0, .ref (a 100)), (1, .int (iI t)), (2, .int (iI u)), (3, .ref o)] := hl
  have hbody : ∀ (H : Heap) (locs : List Loc) (hP : va_P D vwCl (ouW cy o fO (oblkW cy a P)) H) (hS : va_S (va_A (ouW cy o fO (oblkW cy a P)) sz) s.heap H locs) (ls : Array Slot) (hl : lv_has ls 5 [(0, .ref (a 100)), (1, .int (iI t)), (2, .int (iI u)), (3, .ref o)]), W p l e { frames := 7, cells := 0, slots := 0, locals := 178 } s m ([.ref (a 100), .int (iI t), .int (iI u), .ref o] : List Value).toArray below meth c H locs 0 0 (MQ below (kQi D (ouW cy o fO (oblkW cy a P)) sz (fun u8 : (Nat → Int → Int) × (Nat → Int64) => ouW cy o u8.2 (oblkW cy a u8.1)) (ouP (fun r9 u9 => ∃ (zZ : Nat → Int → Int), (figOK (mO P) zZ (P 0 0) ∧ maOK (mO P) (P 8 8) (zZ 31) (zZ 32) (zZ 33) ∧ zZ 30 3 = (mat (mO P) (P 8 8)).2.2.1 ∧ zZ 30 4 = (mat (mO P) (P 8 8)).2.2.2) ∧ (r9 = cstZ (mO P) (P 8 8) t u) ∧ (u9 = (upr (upr (upr (upr (upr (upr (upr (upr (upr (upr (upr (upr (upr (upr (upr (upr P 21 (zZ 21)) 22 (zZ 22)) 23 (zZ 23)) 24 (zZ 24)) 25 (zZ 25)) 26 (zZ 26)) 27 (zZ 27)) 28 (zZ 28)) 30 (zZ 30)) 31 (zZ 31)) 32 (zZ 32)) 33 (zZ 33)) 34 (zZ 34)) 35 (zZ 35)) 36 (zZ 36)) 100 (ups (P 100) 6 1)))))) ([.ref (a 100), .int (iI t), .int (iI u), .ref o] : List Value).toArray s 0 0 (va_A (ouW cy o fO (oblkW cy a P)) sz)) (F0 m 0 ls []) := by
    intro H locs hP hS ls hl
    refine lv_aload_n hx hb dL_cost_0 rfl (lv_at hl 3 rfl) ?_
    refine k_iconst hx hb dL_cost_1 ?_
    refine lv_aload_n hx hb dL_cost_2 rfl (lv_at hl 0 rfl) ?_
    refine lv_iload_n hx hb dL_cost_3 rfl (lv_at hl 1 rfl) ?_
    refine lv_iload_n hx hb dL_cost_4 rfl (lv_at hl 2 rfl) ?_
    have hPc := hP.sub (ws' := oblkW cy a P) [1, 2, 3, 4, 5, 6, 7, 8, 9, 10, 11, 12, 13, 14, 15, 16, 17, 18, 19, 20, 21, 22, 23, 24, 25, 26] rfl
    have hDc := hD.sub (ws' := oblkW cy a P) [1, 2, 3, 4, 5, 6, 7, 8, 9, 10, 11, 12, 13, 14, 15, 16, 17, 18, 19, 20, 21, 22, 23, 24, 25, 26] (by decide) rfl
    have hFc := va_free (wc := oblkW cy a P) hD hS hA [1, 2, 3, 4, 5, 6, 7, 8, 9, 10, 11, 12, 13, 14, 15, 16, 17, 18, 19, 20, 21, 22, 23, 24, 25, 26] rfl
    refine k_mui (k_runV (As := [.int (iI t), .int (iI u)]) (rest := [.int (iI 0), .ref o]) ⟨hx, hb, hml, hown, hts⟩ (c_X6_cost l D cy H.size a P t u hI hl0 hl1 h0 h1 hp0 h0u h1u) gL_cost_X6_cost rfl ⟨rfl, rfl⟩ 2 rfl (by decide +kernel) ⟨Nat.le_of_ble_eq_true rfl, Nat.le_of_ble_eq_true rfl⟩ (GG_ok D cy) hG hS hFc hPc hDc (va_recv hK hP (ci := 5) (q0 := 1) rfl rfl) hl.1 rfl (Nat.le_of_ble_eq_true rfl) ⟨Nat.le_of_ble_eq_true rfl, Nat.le_of_ble_eq_true rfl⟩ dL_cost_5) hFc hS (fun r8 u8 H1 locs1 hpost hP1 hD1 hS1 hk1 => ?_)
    have hJ := va_join (wr := [(o, .inl (cy 4, 1, .inr (.inl fO)))]) hP hD [1, 2, 3, 4, 5, 6, 7, 8, 9, 10, 11, 12, 13, 14, 15, 16, 17, 18, 19, 20, 21, 22, 23, 24, 25, 26] [0] rfl rfl (by decide) (by decide) hk1 hFc hP1 hD1
    obtain ⟨hP, hD⟩ := hJ
    have hS := hS1
    refine lv_i2l hx hb dL_cost_8 rfl ?_
    refine va_last hx hb hK hP hD hS 0 4 rfl rfl (i := iI 0) (vp_iI (by decide)) dL_cost_9 (fun H1 locs1 hP hD hS => ?_)
    refine lv_goto (tgt := 17) hx hb dL_cost_10 (by decide) ?_
    refine k_iconst hx hb dL_cost_17 ?_
    exact W.iret (v := iI 0) hx hb hr (fun t9 ht _ => ⟨⟨iI 0, (u8, vp_updL fO (iI 0).toNatClampNeg (iI r8).toInt64), rfl, ⟨0, rfl, rfl, r8, out_0 fO _, hpost⟩, by rw [ht]; exact hP, hD⟩, hS.F ht⟩) hS.2.2 dL_cost_18 hlocks
  exact hbody s.heap [] hP hS ls hl
set_option maxHeartbeats 4000000 in
set_option maxRecDepth 100000 in
theorem c_L_cost_t1 (l : Launch) (hl9 : l.stackTraces = false) (sz : Nat) (o : Nat) (D : va_G) (cy : Nat → ClassId) (a : Nat → Nat) (P : Nat → Int → Int) (t u : Int) (hI : Inv (mO P)) (hrt : -2147483648 ≤ t ∧ t ≤ 2147483647) (hru : -2147483648 ≤ u ∧ u ≤ 2147483647) (hno : ¬ ((0 ≤ t ∧ t < P 0 0) ∧ 0 ≤ u ∧ u < P 0 1)) : Met l yL_cost wsL_cost { frames := 8, cells := 1, slots := 6, locals := 140 } (mPre (GX D cy) D (obplW cy a P) sz ([.ref (a 100), .int (iI t), .int (iI u), .ref o] : List Value)) (kQi D (obplW cy a P) sz (fun _ : Unit => obplW cy a P) (fun r _ => r = 1)) 1 6 (va_A (obplW cy a P) sz) := by
  refine kMW_start (cc := cL_cost) (maxL := 5) (ret := (some .int)) (by decide) rfl (Nat.le_of_ble_eq_true rfl) ?_
  intro p e s m below meth c hx hb hr hlocks hml hts hown htab hA hG hP hD hS ls hl
  have hK := hG.1.1.1
  have hl : lv_has ls 5 [(0, .ref (a 100)), (1, .int (iI t)), (2, .int (iI u)), (3, .ref o)] := hl
  have hbody : ∀ (H : Heap) (locs : List Loc) (hP : va_P D vwCl (obplW cy a P) H) (hS : va_S (va_A (obplW cy a P) sz) s.heap H locs) (ls : Array Slot) (hl : lv_has ls 5 [(0, .ref (a 100)), (1, .int (iI t)), (2, .int (iI u)), (3, .ref o)]), W p l e { frames := 8, cells := 1, slots := 6, locals := 140 } s m ([.ref (a 100), .int (iI t), .int (iI u), .ref o] : List Value).toArray below meth c H locs 0 0 (MQ below (kQi D (obplW cy a P) sz (fun _ : Unit => obplW cy a P) (fun r _ => r = 1)) ([.ref (a 100), .int (iI t), .int (iI u), .ref o] : List Value).toArray s 1 6 (va_A (obplW cy a P) sz)) (F0 m 0 ls []) := by
    intro H locs hP hS ls hl
    refine lv_aload_n hx hb dL_cost_0 rfl (lv_at hl 3 rfl) ?_
    refine k_iconst hx hb dL_cost_1 ?_
    refine lv_aload_n hx hb dL_cost_2 rfl (lv_at hl 0 rfl) ?_
    refine lv_iload_n hx hb dL_cost_3 rfl (lv_at hl 1 rfl) ?_
    refine lv_iload_n hx hb dL_cost_4 rfl (lv_at hl 2 rfl) ?_
    refine k_thV (As := [.int (iI t), .int (iI u)]) (rest := [.int (iI 0), .ref o]) ⟨hx, hb, hml, hown, hts⟩ (c_X6_cost_t1 l hl9 D cy a P t u hI hrt hru hno) gL_cost_X6_cost rfl ⟨rfl, rfl⟩ 2 rfl (by decide +kernel) ⟨Nat.le_of_ble_eq_true rfl, Nat.le_of_ble_eq_true rfl⟩ (GX_ok D cy) ((GX_ok D cy).2.2.2 _ _ _ _ (fun _ h => h.elim) ((GX_ok D cy).1 _ _ _ _ hS.2.1 hG)) hP (va_recv hK hP (ci := 5) (q0 := 0) rfl rfl) hl.1 rfl (Nat.le_of_ble_eq_true rfl) ⟨Nat.le_of_ble_eq_true rfl, Nat.le_of_ble_eq_true rfl⟩ dL_cost_5 (fun ce q9 H1 z1 o1 e1 v1 f1 => ?_)
    refine vx_catch (E := exN 0) (name := exN 0) hown (tableOf []) ⟨0, 10, 13, 19⟩ (tableOf []) (by rw [htab]; rfl) (fun z h => by cases h) (by decide) (by decide) (hts (.classLink RL 19 (exN 0)) (by decide +kernel)) (va_Nw.use rfl (hG.2.1 0 (by decide)).2.1) e1 v1 f1 ?_
    have hP1 := P_grow hP o1
    have hS1 := S_grow hS z1 o1
    refine lv_astore (lv' := [(4, .ref q9), (0, .ref (a 100)), (1, .int (iI t)), (2, .int (iI u)), (3, .ref o)]) hx hb dL_cost_13 hl (by decide) rfl (fun ls hl => ?_)
    refine k_iconst hx hb dL_cost_15 ?_
    exact W.iret (v := iI 1) hx hb hr (fun t9 ht _ => ⟨⟨iI 1, (), rfl, ⟨1, rfl, rfl⟩, by rw [ht]; exact hP1, hD⟩, hS1.F ht⟩) hS1.2.2 dL_cost_16 hlocks
  exact hbody s.heap [] hP hS ls hl
set_option maxHeartbeats 4000000 in
set_option maxRecDepth 100000 in
theorem c_L_cost_z (l : Launch) (sz : Nat) (o : Nat) (fO : Nat → Int64) (D : va_G) (cy : Nat → ClassId) (a : Nat → Nat) (P : Nat → Int → Int) (t u : Int) (hI : Inv (mO P)) (h0 : 0 ≤ t) (h1 : t < P 0 0) (h0u : 0 ≤ u) (h1u : u < P 0 1) (hz : P 1 t = 0) : Met l yL_cost wsL_cost { frames := 2, cells := 0, slots := 0, locals := 51 } (mPre (GG D cy) D (ouW cy o fO (obplW cy a P)) sz ([.ref (a 100), .int (iI t), .int (iI u), .ref o] : List Value)) (kQi D (ouW cy o fO (obplW cy a P)) sz (fun u8 : Unit × (Nat → Int64) => ouW cy o u8.2 (obplW cy a P)) (ouP (fun r9 _ => (fun r => r = -1000000000) r9))) 0 0 (va_A (ouW cy o fO (obplW cy a P)) sz) := by
  refine kMW_start (cc := cL_cost) (maxL := 5) (ret := (some .int)) (by decide) rfl (Nat.le_of_ble_eq_true rfl) ?_
  intro p e s m below meth c hx hb hr hlocks hml hts hown htab hA hG hP hD hS ls hl
  have hK := hG.1
  have hl : lv_has ls 5 [(0, .ref (a 100)), (1, .int (iI t)), (2, .int (iI u)), (3, .ref o)] := hl
  have hbody : ∀ (H : Heap) (locs : List Loc) (hP : va_P D vwCl (ouW cy o fO (obplW cy a P)) H) (hS : va_S (va_A (ouW cy o fO (obplW cy a P)) sz) s.heap H locs) (ls : Array Slot) (hl : lv_has ls 5 [(0, .ref (a 100)), (1, .int (iI t)), (2, .int (iI u)), (3, .ref o)]), W p l e { frames := 2, cells := 0, slots := 0, locals := 51 } s m ([.ref (a 100), .int (iI t), .int (iI u), .ref o] : List Value).toArray below meth c H locs 0 0 (MQ below (kQi D (ouW cy o fO (obplW cy a P)) sz (fun u8 : Unit × (Nat → Int64) => ouW cy o u8.2 (obplW cy a P)) (ouP (fun r9 _ => (fun r => r = -1000000000) r9))) ([.ref (a 100), .int (iI t), .int (iI u), .ref o] : List Value).toArray s 0 0 (va_A (ouW cy o fO (obplW cy a P)) sz)) (F0 m 0 ls []) := by
    intro H locs hP hS ls hl
    refine lv_aload_n hx hb dL_cost_0 rfl (lv_at hl 3 rfl) ?_
    refine k_iconst hx hb dL_cost_1 ?_
    refine lv_aload_n hx hb dL_cost_2 rfl (lv_at hl 0 rfl) ?_
    refine lv_iload_n hx hb dL_cost_3 rfl (lv_at hl 1 rfl) ?_
    refine lv_iload_n hx hb dL_cost_4 rfl (lv_at hl 2 rfl) ?_
    refine k_roV (As := [.int (iI t), .int (iI u)]) (rest := [.int (iI 0), .ref o]) ⟨hx, hb, hml, hown, hts⟩ (c_X6_cost_z l D cy a P t u hI h0 h1 h0u h1u hz) gL_cost_X6_cost rfl ⟨rfl, rfl⟩ 2 rfl (by decide +kernel) ⟨Nat.le_of_ble_eq_true rfl, Nat.le_of_ble_eq_true rfl⟩ (GG_ok D cy) ((GG_ok D cy).2.2.2 _ _ _ _ (fun _ h => h.elim) ((GG_ok D cy).1 _ _ _ _ hS.2.1 hG)) (hP.sub (ws' := obplW cy a P) [1, 2, 3, 4, 5, 6, 7, 8, 9, 10] rfl) (va_recv hK hP (ci := 5) (q0 := 1) rfl rfl) hl.1 rfl (Nat.le_of_ble_eq_true rfl) ⟨Nat.le_of_ble_eq_true rfl, Nat.le_of_ble_eq_true rfl⟩ dL_cost_5 (fun r8 hpost => ?_)
    refine lv_i2l hx hb dL_cost_8 rfl ?_
    refine va_last hx hb hK hP hD hS 0 4 rfl rfl (i := iI 0) (vp_iI (by decide)) dL_cost_9 (fun H1 locs1 hP hD hS => ?_)
    refine lv_goto (tgt := 17) hx hb dL_cost_10 (by decide) ?_
    refine k_iconst hx hb dL_cost_17 ?_
    exact W.iret (v := iI 0) hx hb hr (fun t9 ht _ => ⟨⟨iI 0, ((), vp_updL fO (iI 0).toNatClampNeg (iI r8).toInt64), rfl, ⟨0, rfl, rfl, r8, out_0 fO _, hpost⟩, by rw [ht]; exact hP, hD⟩, hS.F ht⟩) hS.2.2 dL_cost_18 hlocks
  exact hbody s.heap [] hP hS ls hl
set_option maxHeartbeats 4000000 in
set_option maxRecDepth 100000 in
theorem c_L_missing (l : Launch) (sz : Nat) (o : Nat) (fO : Nat → Int64) (D : va_G) (cy : Nat → ClassId) (a : Nat → Nat) (P : Nat → Int → Int) (i : Int) (hI : Inv (mO P)) (hl0 : P 100 6 = 0 ∨ P 100 6 = 1) (hl1 : P 100 6 = 1 → lkd P) (hi : 0 ≤ i ∧ i ≤ 2147483647) : Met l yL_missing wsL_missing { frames := 7, cells := 0, slots := 0, locals := 179 } (mPre (GG D cy) D (ouW cy o fO (oblkW cy a P)) sz ([.ref (a 100), .int (iI i), .ref o] : List Value)) (kQi D (ouW cy o fO (oblkW cy a P)) sz (fun u8 : (Nat → Int → Int) × (Nat → Int64) => ouW cy o u8.2 (oblkW cy a u8.1)) (ouP (fun r9 u9 => ∃ (zZ : Nat → Int → Int), (figOK (mO P) zZ (P 0 0) ∧ maOK (mO P) (P 8 8) (zZ 31) (zZ 32) (zZ 33) ∧ zZ 30 3 = (mat (mO P) (P 8 8)).2.2.1 ∧ zZ 30 4 = (mat (mO P) (P 8 8)).2.2.2) ∧ (r9 = misF (mO P) i) ∧ (u9 = (upr (upr (upr (upr (upr (upr (upr (upr (upr (upr (upr (upr (upr (upr (upr (upr P 21 (zZ 21)) 22 (zZ 22)) 23 (zZ 23)) 24 (zZ 24)) 25 (zZ 25)) 26 (zZ 26)) 27 (zZ 27)) 28 (zZ 28)) 30 (zZ 30)) 31 (zZ 31)) 32 (zZ 32)) 33 (zZ 33)) 34 (zZ 34)) 35 (zZ 35)) 36 (zZ 36)) 100 (ups (P 100) 6 1)))))) 0 0 (va_A (ouW cy o fO (oblkW cy a P)) sz) := by
  refine kMW_start (cc := cL_missing) (maxL := 4) (ret := (some .int)) (by decide) rfl (Nat.le_of_ble_eq_true rfl) ?_
  intro p e s m below meth c hx hb hr hlocks hml hts hown htab hA hG hP hD hS ls hl
  have hK := hG.1
  have hl : lv_has ls 4 [(0, .ref (a 100)), (1, .int (iI i)), (2, .ref o)] := hl
  have hbody : ∀ (H : Heap) (locs : List Loc) (hP : va_P D vwCl (ouW cy o fO (oblkW cy a P)) H) (hS : va_S (va_A (ouW cy o fO (oblkW cy a P)) sz) s.heap H locs) (ls : Array Slot) (hl : lv_has ls 4 [(0, .ref (a 100)), (1, .int (iI i)), (2, .ref o)]), W p l e { frames := 7, cells := 0, slots := 0, locals := 179 } s m ([.ref (a 100), .int (iI i), .ref o] : List Value).toArray below meth c H locs 0 0 (MQ below (kQi D (ouW cy o fO (oblkW cy a P)) sz (fun u8 : (Nat → Int → Int) × (Nat → Int64) => ouW cy o u8.2 (oblkW cy a u8.1)) (ouP (fun r9 u9 => ∃ (zZ : Nat → Int → Int), (figOK (mO P) zZ (P 0 0) ∧ maOK (mO P) (P 8 8) (zZ 31) (zZ 32) (zZ 33) ∧ zZ 30 3 = (mat (mO P) (P 8 8)).2.2.1 ∧ zZ 30 4 = (mat (mO P) (P 8 8)).2.2.2) ∧ (r9 = misF (mO P) i) ∧ (u9 = (upr (upr (upr (upr (upr (upr (upr (upr (upr (upr (upr (upr (upr (upr (upr (upr P 21 (zZ 21)) 22 (zZ 22)) 23 (zZ 23)) 24 (zZ 24)) 25 (zZ 25)) 26 (zZ 26)) 27 (zZ 27)) 28 (zZ 28)) 30 (zZ 30)) 31 (zZ 31)) 32 (zZ 32)) 33 (zZ 33)) 34 (zZ 34)) 35 (zZ 35)) 36 (zZ 36)) 100 (ups (P 100) 6 1)))))) ([.ref (a 100), .int (iI i), .ref o] : List Value).toArray s 0 0 (va_A (ouW cy o fO (oblkW cy a P)) sz)) (F0 m 0 ls []) := by
    intro H locs hP hS ls hl
    refine lv_aload_n hx hb dL_missing_0 rfl (lv_at hl 2 rfl) ?_
    refine k_iconst hx hb dL_missing_1 ?_
    refine lv_aload_n hx hb dL_missing_2 rfl (lv_at hl 0 rfl) ?_
    refine lv_iload_n hx hb dL_missing_3 rfl (lv_at hl 1 rfl) ?_
    have hPc := hP.sub (ws' := oblkW cy a P) [1, 2, 3, 4, 5, 6, 7, 8, 9, 10, 11, 12, 13, 14, 15, 16, 17, 18, 19, 20, 21, 22, 23, 24, 25, 26] rfl
    have hDc := hD.sub (ws' := oblkW cy a P) [1, 2, 3, 4, 5, 6, 7, 8, 9, 10, 11, 12, 13, 14, 15, 16, 17, 18, 19, 20, 21, 22, 23, 24, 25, 26] (by decide) rfl
    have hFc := va_free (wc := oblkW cy a P) hD hS hA [1, 2, 3, 4, 5, 6, 7, 8, 9, 10, 11, 12, 13, 14, 15, 16, 17, 18, 19, 20, 21, 22, 23, 24, 25, 26] rfl
    refine k_mui (k_runV (As := [.int (iI i)]) (rest := [.int (iI 0), .ref o]) ⟨hx, hb, hml, hown, hts⟩ (c_X6_missing l D cy H.size a P i hI hl0 hl1 hi) gL_missing_X6_missing rfl ⟨rfl, rfl⟩ 1 rfl (by decide +kernel) ⟨Nat.le_of_ble_eq_true rfl, Nat.le_of_ble_eq_true rfl⟩ (GG_ok D cy) hG hS hFc hPc hDc (va_recv hK hP (ci := 5) (q0 := 1) rfl rfl) hl.1 rfl (Nat.le_of_ble_eq_true rfl) ⟨Nat.le_of_ble_eq_true rfl, Nat.le_of_ble_eq_true rfl⟩ dL_missing_4) hFc hS (fun r8 u8 H1 locs1 hpost hP1 hD1 hS1 hk1 => ?_)
    have hJ := va_join (wr := [(o, .inl (cy 4, 1, .inr (.inl fO)))]) hP hD [1, 2, 3, 4, 5, 6, 7, 8, 9, 10, 11, 12, 13, 14, 15, 16, 17, 18, 19, 20, 21, 22, 23, 24, 25, 26] [0] rfl rfl (by decide) (by decide) hk1 hFc hP1 hD1
    obtain ⟨hP, hD⟩ := hJ
    have hS := hS1
    refine lv_i2l hx hb dL_missing_7 rfl ?_
    refine va_last hx hb hK hP hD hS 0 4 rfl rfl (i := iI 0) (vp_iI (by decide)) dL_missing_8 (fun H1 locs1 hP hD hS => ?_)
    refine lv_goto (tgt := 15) hx hb dL_missing_9 (by decide) ?_
    refine k_iconst hx hb dL_missing_15 ?_
    exact W.iret (v := iI 0) hx hb hr (fun t9 ht _ => ⟨⟨iI 0, (u8, vp_updL fO (iI 0).toNatClampNeg (iI r8).toInt64), rfl, ⟨0, rfl, rfl, r8, out_0 fO _, hpost⟩, by rw [ht]; exact hP, hD⟩, hS.F ht⟩) hS.2.2 dL_missing_16 hlocks
  exact hbody s.heap [] hP hS ls hl
set_option maxHeartbeats 4000000 in
set_option maxRecDepth 100000 in
theorem c_L_missing_t2 (l : Launch) (hl9 : l.stackTraces = false) (sz : Nat) (o : Nat) (D : va_G) (cy : Nat → ClassId) (a : Nat → Nat) (P : Nat → Int → Int) (i : Int) (hri : -2147483648 ≤ i ∧ i ≤ 2147483647) (hno : i < 0) : Met l yL_missing wsL_missing { frames := 8, cells := 1, slots := 6, locals := 141 } (mPre (GX D cy) D (obplW cy a P) sz ([.ref (a 100), .int (iI i), .ref o] : List Value)) (kQi D (obplW cy a P) sz (fun _ : Unit => obplW cy a P) (fun r _ => r = 1)) 1 6 (va_A (obplW cy a P) sz) := by
  refine kMW_start (cc := cL_missing) (maxL := 4) (ret := (some .int)) (by decide) rfl (Nat.le_of_ble_eq_true rfl) ?_
  intro p e s m below meth c hx hb hr hlocks hml hts hown htab hA hG hP hD hS ls hl
  have hK := hG.1.1.1
  have hl : lv_has ls 4 [(0, .ref (a 100)), (1, .int (iI i)), (2, .ref o)] := hl
  have hbody : ∀ (H : Heap) (locs : List Loc) (hP : va_P D vwCl (obplW cy a P) H) (hS : va_S (va_A (obplW cy a P) sz) s.heap H locs) (ls : Array Slot) (hl : lv_has ls 4 [(0, .ref (a 100)), (1, .int (iI i)), (2, .ref o)]), W p l e { frames := 8, cells := 1, slots := 6, locals := 141 } s m ([.ref (a 100), .int (iI i), .ref o] : List Value).toArray below meth c H locs 0 0 (MQ below (kQi D (obplW cy a P) sz (fun _ : Unit => obplW cy a P) (fun r _ => r = 1)) ([.ref (a 100), .int (iI i), .ref o] : List Value).toArray s 1 6 (va_A (obplW cy a P) sz)) (F0 m 0 ls []) := by
    intro H locs hP hS ls hl
    refine lv_aload_n hx hb dL_missing_0 rfl (lv_at hl 2 rfl) ?_
    refine k_iconst hx hb dL_missing_1 ?_
    refine lv_aload_n hx hb dL_missing_2 rfl (lv_at hl 0 rfl) ?_
    refine lv_iload_n hx hb dL_missing_3 rfl (lv_at hl 1 rfl) ?_
    refine k_thV (As := [.int (iI i)]) (rest := [.int (iI 0), .ref o]) ⟨hx, hb, hml, hown, hts⟩ (c_X6_missing_t2 l hl9 D cy a P i hri hno) gL_missing_X6_missing rfl ⟨rfl, rfl⟩ 1 rfl (by decide +kernel) ⟨Nat.le_of_ble_eq_true rfl, Nat.le_of_ble_eq_true rfl⟩ (GX_ok D cy) ((GX_ok D cy).2.2.2 _ _ _ _ (fun _ h => h.elim) ((GX_ok D cy).1 _ _ _ _ hS.2.1 hG)) hP (va_recv hK hP (ci := 5) (q0 := 0) rfl rfl) hl.1 rfl (Nat.le_of_ble_eq_true rfl) ⟨Nat.le_of_ble_eq_true rfl, Nat.le_of_ble_eq_true rfl⟩ dL_missing_4 (fun ce q9 H1 z1 o1 e1 v1 f1 => ?_)
    refine vx_catch (E := exN 1) (name := exN 1) hown (tableOf []) ⟨0, 9, 12, 25⟩ (tableOf []) (by rw [htab]; rfl) (fun z h => by cases h) (by decide) (by decide) (hts (.classLink RL 25 (exN 1)) (by decide +kernel)) (va_Nw.use rfl (hG.2.1 1 (by decide)).2.1) e1 v1 f1 ?_
    have hP1 := P_grow hP o1
    have hS1 := S_grow hS z1 o1
    refine lv_astore_n (lv' := [(3, .ref q9), (0, .ref (a 100)), (1, .int (iI i)), (2, .ref o)]) hx hb dL_missing_12 rfl hl (by decide) rfl (fun ls hl => ?_)
    refine k_iconst hx hb dL_missing_13 ?_
    exact W.iret (v := iI 1) hx hb hr (fun t9 ht _ => ⟨⟨iI 1, (), rfl, ⟨1, rfl, rfl⟩, by rw [ht]; exact hP1, hD⟩, hS1.F ht⟩) hS1.2.2 dL_missing_14 hlocks
  exact hbody s.heap [] hP hS ls hl
set_option maxHeartbeats 4000000 in
set_option maxRecDepth 100000 in
theorem c_L_setting (l : Launch) (sz : Nat) (o : Nat) (fO : Nat → Int64) (D : va_G) (cy : Nat → ClassId) (a : Nat → Nat) (P : Nat → Int → Int) (w : Int) (hw : 0 ≤ w ∧ w ≤ 9) : Met l yL_setting wsL_setting { frames := 2, cells := 0, slots := 0, locals := 51 } (mPre (GG D cy) D (ouW cy o fO (obplW cy a P)) sz ([.ref (a 100), .int (iI w), .ref o] : List Value)) (kQi D (ouW cy o fO (obplW cy a P)) sz (fun u8 : Unit × (Nat → Int64) => ouW cy o u8.2 (obplW cy a P)) (ouP (fun r9 _ => (fun r => r = P 8 w) r9))) 0 0 (va_A (ouW cy o fO (obplW cy a P)) sz) := by
  refine kMW_start (cc := cL_setting) (maxL := 4) (ret := (some .int)) (by decide) rfl (Nat.le_of_ble_eq_true rfl) ?_
  intro p e s m below meth c hx hb hr hlocks hml hts hown htab hA hG hP hD hS ls hl
  have hK := hG.1
  have hl : lv_has ls 4 [(0, .ref (a 100)), (1, .int (iI w)), (2, .ref o)] := hl
  have hbody : ∀ (H : Heap) (locs : List Loc) (hP : va_P D vwCl (ouW cy o fO (obplW cy a P)) H) (hS : va_S (va_A (ouW cy o fO (obplW cy a P)) sz) s.heap H locs) (ls : Array Slot) (hl : lv_has ls 4 [(0, .ref (a 100)), (1, .int (iI w)), (2, .ref o)]), W p l e { frames := 2, cells := 0, slots := 0, locals := 51 } s m ([.ref (a 100), .int (iI w), .ref o] : List Value).toArray below meth c H locs 0 0 (MQ below (kQi D (ouW cy o fO (obplW cy a P)) sz (fun u8 : Unit × (Nat → Int64) => ouW cy o u8.2 (obplW cy a P)) (ouP (fun r9 _ => (fun r => r = P 8 w) r9))) ([.ref (a 100), .int (iI w), .ref o] : List Value).toArray s 0 0 (va_A (ouW cy o fO (obplW cy a P)) sz)) (F0 m 0 ls []) := by
    intro H locs hP hS ls hl
    refine lv_aload_n hx hb dL_setting_0 rfl (lv_at hl 2 rfl) ?_
    refine k_iconst hx hb dL_setting_1 ?_
    refine lv_aload_n hx hb dL_setting_2 rfl (lv_at hl 0 rfl) ?_
    refine lv_iload_n hx hb dL_setting_3 rfl (lv_at hl 1 rfl) ?_
    refine k_roV (As := [.int (iI w)]) (rest := [.int (iI 0), .ref o]) ⟨hx, hb, hml, hown, hts⟩ (c_X6_setting l D cy a P w hw) gL_setting_X6_setting rfl ⟨rfl, rfl⟩ 1 rfl (by decide +kernel) ⟨Nat.le_of_ble_eq_true rfl, Nat.le_of_ble_eq_true rfl⟩ (GG_ok D cy) ((GG_ok D cy).2.2.2 _ _ _ _ (fun _ h => h.elim) ((GG_ok D cy).1 _ _ _ _ hS.2.1 hG)) (hP.sub (ws' := obplW cy a P) [1, 2, 3, 4, 5, 6, 7, 8, 9, 10] rfl) (va_recv hK hP (ci := 5) (q0 := 1) rfl rfl) hl.1 rfl (Nat.le_of_ble_eq_true rfl) ⟨Nat.le_of_ble_eq_true rfl, Nat.le_of_ble_eq_true rfl⟩ dL_setting_4 (fun r8 hpost => ?_)
    refine lv_i2l hx hb dL_setting_7 rfl ?_
    refine va_last hx hb hK hP hD hS 0 4 rfl rfl (i := iI 0) (vp_iI (by decide)) dL_setting_8 (fun H1 locs1 hP hD hS => ?_)
    refine lv_goto (tgt := 15) hx hb dL_setting_9 (by decide) ?_
    refine k_iconst hx hb dL_setting_15 ?_
    exact W.iret (v := iI 0) hx hb hr (fun t9 ht _ => ⟨⟨iI 0, ((), vp_updL fO (iI 0).toNatClampNeg (iI r8).toInt64), rfl, ⟨0, rfl, rfl, r8, out_0 fO _, hpost⟩, by rw [ht]; exact hP, hD⟩, hS.F ht⟩) hS.2.2 dL_setting_16 hlocks
  exact hbody s.heap [] hP hS ls hl
set_option maxHeartbeats 4000000 in
set_option maxRecDepth 100000 in
theorem c_L_setting_t2 (l : Launch) (hl9 : l.stackTraces = false) (sz : Nat) (o : Nat) (D : va_G) (cy : Nat → ClassId) (a : Nat → Nat) (P : Nat → Int → Int) (w : Int) (hrw : -2147483648 ≤ w ∧ w ≤ 2147483647) (hno : ¬ (0 ≤ w ∧ w ≤ 9)) : Met l yL_setting wsL_setting { frames := 8, cells := 1, slots := 6, locals := 139 } (mPre (GX D cy) D (obplW cy a P) sz ([.ref (a 100), .int (iI w), .ref o] : List Value)) (kQi D (obplW cy a P) sz (fun _ : Unit => obplW cy a P) (fun r _ => r = 1)) 1 6 (va_A (obplW cy a P) sz) := by
  refine kMW_start (cc := cL_setting) (maxL := 4) (ret := (some .int)) (by decide) rfl (Nat.le_of_ble_eq_true rfl) ?_
  intro p e s m below meth c hx hb hr hlocks hml hts hown htab hA hG hP hD hS ls hl
  have hK := hG.1.1.1
  have hl : lv_has ls 4 [(0, .ref (a 100)), (1, .int (iI w)), (2, .ref o)] := hl
  have hbody : ∀ (H : Heap) (locs : List Loc) (hP : va_P D vwCl (obplW cy a P) H) (hS : va_S (va_A (obplW cy a P) sz) s.heap H locs) (ls : Array Slot) (hl : lv_has ls 4 [(0, .ref (a 100)), (1, .int (iI w)), (2, .ref o)]), W p l e { frames := 8, cells := 1, slots := 6, locals := 139 } s m ([.ref (a 100), .int (iI w), .ref o] : List Value).toArray below meth c H locs 0 0 (MQ below (kQi D (obplW cy a P) sz (fun _ : Unit => obplW cy a P) (fun r _ => r = 1)) ([.ref (a 100), .int (iI w), .ref o] : List Value).toArray s 1 6 (va_A (obplW cy a P) sz)) (F0 m 0 ls []) := by
    intro H locs hP hS ls hl
    refine lv_aload_n hx hb dL_setting_0 rfl (lv_at hl 2 rfl) ?_
    refine k_iconst hx hb dL_setting_1 ?_
    refine lv_aload_n hx hb dL_setting_2 rfl (lv_at hl 0 rfl) ?_
    refine lv_iload_n hx hb dL_setting_3 rfl (lv_at hl 1 rfl) ?_
    refine k_thV (As := [.int (iI w)]) (rest := [.int (iI 0), .ref o]) ⟨hx, hb, hml, hown, hts⟩ (c_X6_setting_t2 l hl9 D cy a P w hrw hno) gL_setting_X6_setting rfl ⟨rfl, rfl⟩ 1 rfl (by decide +kernel) ⟨Nat.le_of_ble_eq_true rfl, Nat.le_of_ble_eq_true rfl⟩ (GX_ok D cy) ((GX_ok D cy).2.2.2 _ _ _ _ (fun _ h => h.elim) ((GX_ok D cy).1 _ _ _ _ hS.2.1 hG)) hP (va_recv hK hP (ci := 5) (q0 := 0) rfl rfl) hl.1 rfl (Nat.le_of_ble_eq_true rfl) ⟨Nat.le_of_ble_eq_true rfl, Nat.le_of_ble_eq_true rfl⟩ dL_setting_4 (fun ce q9 H1 z1 o1 e1 v1 f1 => ?_)
    refine vx_catch (E := exN 1) (name := exN 1) hown (tableOf []) ⟨0, 9, 12, 25⟩ (tableOf []) (by rw [htab]; rfl) (fun z h => by cases h) (by decide) (by decide) (hts (.classLink RL 25 (exN 1)) (by decide +kernel)) (va_Nw.use rfl (hG.2.1 1 (by decide)).2.1) e1 v1 f1 ?_
    have hP1 := P_grow hP o1
    have hS1 := S_grow hS z1 o1
    refine lv_astore_n (lv' := [(3, .ref q9), (0, .ref (a 100)), (1, .int (iI w)), (2, .ref o)]) hx hb dL_setting_12 rfl hl (by decide) rfl (fun ls hl => ?_)
    refine k_iconst hx hb dL_setting_13 ?_
    exact W.iret (v := iI 1) hx hb hr (fun t9 ht _ => ⟨⟨iI 1, (), rfl, ⟨1, rfl, rfl⟩, by rw [ht]; exact hP1, hD⟩, hS1.F ht⟩) hS1.2.2 dL_setting_14 hlocks
  exact hbody s.heap [] hP hS ls hl
set_option maxHeartbeats 4000000 in
set_option maxRecDepth 100000 in
theorem c_L_whole (l : Launch) (sz : Nat) (o : Nat) (fO : Nat → Int64) (D : va_G) (cy : Nat → ClassId) (a : Nat → Nat) (P : Nat → Int → Int) (w : Int) (hI : Inv (mO P)) (hl0 : P 100 6 = 0 ∨ P 100 6 = 1) (hl1 : P 100 6 = 1 → lkd P) (hw : 0 ≤ w ∧ w ≤ 10) : Met l yL_whole wsL_whole { frames := 7, cells := 0, slots := 0, locals := 177 } (mPre (GG D cy) D (ouW cy o fO (oblkW cy a P)) sz ([.ref (a 100), .int (iI w), .ref o] : List Value)) (kQi D (ouW cy o fO (oblkW cy a P)) sz (fun u8 : (Nat → Int → Int) × (Nat → Int64) => ouW cy o u8.2 (oblkW cy a u8.1)) (ouP (fun r9 u9 => ∃ (zZ : Nat → Int → Int), (figOK (mO P) zZ (P 0 0) ∧ maOK (mO P) (P 8 8) (zZ 31) (zZ 32) (zZ 33) ∧ zZ 30 3 = (mat (mO P) (P 8 8)).2.2.1 ∧ zZ 30 4 = (mat (mO P) (P 8 8)).2.2.2) ∧ (r9 = whW (mO P) w) ∧ (u9 = (upr (upr (upr (upr (upr (upr (upr (upr (upr (upr (upr (upr (upr (upr (upr (upr P 21 (zZ 21)) 22 (zZ 22)) 23 (zZ 23)) 24 (zZ 24)) 25 (zZ 25)) 26 (zZ 26)) 27 (zZ 27)) 28 (zZ 28)) 30 (zZ 30)) 31 (zZ 31)) 32 (zZ 32)) 33 (zZ 33)) 34 (zZ 34)) 35 (zZ 35)) 36 (zZ 36)) 100 (ups (P 100) 6 1)))))) 0 0 (va_A (ouW cy o fO (oblkW cy a P)) sz) := by
  refine kMW_start (cc := cL_whole) (maxL := 4) (ret := (some .int)) (by decide) rfl (Nat.le_of_ble_eq_true rfl) ?_
  intro p e s m below meth c hx hb hr hlocks hml hts hown htab hA hG hP hD hS ls hl
  have hK := hG.1
  have hl : lv_has ls 4 [(0, .ref (a 100)), (1, .int (iI w)), (2, .ref o)] := hl
  have hbody : ∀ (H : Heap) (locs : List Loc) (hP : va_P D vwCl (ouW cy o fO (oblkW cy a P)) H) (hS : va_S (va_A (ouW cy o fO (oblkW cy a P)) sz) s.heap H locs) (ls : Array Slot) (hl : lv_has ls 4 [(0, .ref (a 100)), (1, .int (iI w)), (2, .ref o)]), W p l e { frames := 7, cells := 0, slots := 0, locals := 177 } s m ([.ref (a 100), .int (iI w), .ref o] : List Value).toArray below meth c H locs 0 0 (MQ below (kQi D (ouW cy o fO (oblkW cy a P)) sz (fun u8 : (Nat → Int → Int) × (Nat → Int64) => ouW cy o u8.2 (oblkW cy a u8.1)) (ouP (fun r9 u9 => ∃ (zZ : Nat → Int → Int), (figOK (mO P) zZ (P 0 0) ∧ maOK (mO P) (P 8 8) (zZ 31) (zZ 32) (zZ 33) ∧ zZ 30 3 = (mat (mO P) (P 8 8)).2.2.1 ∧ zZ 30 4 = (mat (mO P) (P 8 8)).2.2.2) ∧ (r9 = whW (mO P) w) ∧ (u9 = (upr (upr (upr (upr (upr (upr (upr (upr (upr (upr (upr (upr (upr (upr (upr (upr P 21 (zZ 21)) 22 (zZ 22)) 23 (zZ 23)) 24 (zZ 24)) 25 (zZ 25)) 26 (zZ 26)) 27 (zZ 27)) 28 (zZ 28)) 30 (zZ 30)) 31 (zZ 31)) 32 (zZ 32)) 33 (zZ 33)) 34 (zZ 34)) 35 (zZ 35)) 36 (zZ 36)) 100 (ups (P 100) 6 1)))))) ([.ref (a 100), .int (iI w), .ref o] : List Value).toArray s 0 0 (va_A (ouW cy o fO (oblkW cy a P)) sz)) (F0 m 0 ls []) := by
    intro H locs hP hS ls hl
    refine lv_aload_n hx hb dL_whole_0 rfl (lv_at hl 2 rfl) ?_
    refine k_iconst hx hb dL_whole_1 ?_
    refine lv_aload_n hx hb dL_whole_2 rfl (lv_at hl 0 rfl) ?_
    refine lv_iload_n hx hb dL_whole_3 rfl (lv_at hl 1 rfl) ?_
    have hPc := hP.sub (ws' := oblkW cy a P) [1, 2, 3, 4, 5, 6, 7, 8, 9, 10, 11, 12, 13, 14, 15, 16, 17, 18, 19, 20, 21, 22, 23, 24, 25, 26] rfl
    have hDc := hD.sub (ws' := oblkW cy a P) [1, 2, 3, 4, 5, 6, 7, 8, 9, 10, 11, 12, 13, 14, 15, 16, 17, 18, 19, 20, 21, 22, 23, 24, 25, 26] (by decide) rfl
    have hFc := va_free (wc := oblkW cy a P) hD hS hA [1, 2, 3, 4, 5, 6, 7, 8, 9, 10, 11, 12, 13, 14, 15, 16, 17, 18, 19, 20, 21, 22, 23, 24, 25, 26] rfl
    refine k_mui (k_runV (As := [.int (iI w)]) (rest := [.int (iI 0), .ref o]) ⟨hx, hb, hml, hown, hts⟩ (c_X6_whole l D cy H.size a P w hI hl0 hl1 hw) gL_whole_X6_whole rfl ⟨rfl, rfl⟩ 1 rfl (by decide +kernel) ⟨Nat.le_of_ble_eq_true rfl, Nat.le_of_ble_eq_true rfl⟩ (GG_ok D cy) hG hS hFc hPc hDc (va_recv hK hP (ci := 5) (q0 := 1) rfl rfl) hl.1 rfl (Nat.le_of_ble_eq_true rfl) ⟨Nat.le_of_ble_eq_true rfl, Nat.le_of_ble_eq_true rfl⟩ dL_whole_4) hFc hS (fun r8 u8 H1 locs1 hpost hP1 hD1 hS1 hk1 => ?_)
    have hJ := va_join (wr := [(o, .inl (cy 4, 1, .inr (.inl fO)))]) hP hD [1, 2, 3, 4, 5, 6, 7, 8, 9, 10, 11, 12, 13, 14, 15, 16, 17, 18, 19, 20, 21, 22, 23, 24, 25, 26] [0] rfl rfl (by decide) (by decide) hk1 hFc hP1 hD1
    obtain ⟨hP, hD⟩ := hJ
    have hS := hS1
    refine lv_i2l hx hb dL_whole_7 rfl ?_
    refine va_last hx hb hK hP hD hS 0 4 rfl rfl (i := iI 0) (vp_iI (by decide)) dL_whole_8 (fun H1 locs1 hP hD hS => ?_)
    refine lv_goto (tgt := 15) hx hb dL_whole_9 (by decide) ?_
    refine k_iconst hx hb dL_whole_15 ?_
    exact W.iret (v := iI 0) hx hb hr (fun t9 ht _ => ⟨⟨iI 0, (u8, vp_updL fO (iI 0).toNatClampNeg (iI r8).toInt64), rfl, ⟨0, rfl, rfl, r8, out_0 fO _, hpost⟩, by rw [ht]; exact hP, hD⟩, hS.F ht⟩) hS.2.2 dL_whole_16 hlocks
  exact hbody s.heap [] hP hS ls hl
set_option maxHeartbeats 4000000 in
set_option maxRecDepth 100000 in
theorem c_L_whole_t2 (l : Launch) (hl9 : l.stackTraces = false) (sz : Nat) (o : Nat) (D : va_G) (cy : Nat → ClassId) (a : Nat → Nat) (P : Nat → Int → Int) (w : Int) (hrw : -2147483648 ≤ w ∧ w ≤ 2147483647) (hno : ¬ (0 ≤ w ∧ w ≤ 10)) : Met l yL_whole wsL_whole { frames := 8, cells := 1, slots := 6, locals := 139 } (mPre (GX D cy) D (obplW cy a P) sz ([.ref (a 100), .int (iI w), .ref o] : List Value)) (kQi D (obplW cy a P) sz (fun _ : Unit => obplW cy a P) (fun r _ => r = 1)) 1 6 (va_A (obplW cy a P) sz) := by
  refine kMW_start (cc := cL_whole) (maxL := 4) (ret := (some .int)) (by decide) rfl (Nat.le_of_ble_eq_true rfl) ?_
  intro p e s m below meth c hx hb hr hlocks hml hts hown htab hA hG hP hD hS ls hl
  have hK := hG.1.1.1
  have hl : lv_has ls 4 [(0, .ref (a 100)), (1, .int (iI w)), (2, .ref o)] := hl
  have hbody : ∀ (H : Heap) (locs : List Loc) (hP : va_P D vwCl (obplW cy a P) H) (hS : va_S (va_A (obplW cy a P) sz) s.heap H locs) (ls : Array Slot) (hl : lv_has ls 4 [(0, .ref (a 100)), (1, .int (iI w)), (2, .ref o)]), W p l e { frames := 8, cells := 1, slots := 6, locals := 139 } s m ([.ref (a 100), .int (iI w), .ref o] : List Value).toArray below meth c H locs 0 0 (MQ below (kQi D (obplW cy a P) sz (fun _ : Unit => obplW cy a P) (fun r _ => r = 1)) ([.ref (a 100), .int (iI w), .ref o] : List Value).toArray s 1 6 (va_A (obplW cy a P) sz)) (F0 m 0 ls []) := by
    intro H locs hP hS ls hl
    refine lv_aload_n hx hb dL_whole_0 rfl (lv_at hl 2 rfl) ?_
    refine k_iconst hx hb dL_whole_1 ?_
    refine lv_aload_n hx hb dL_whole_2 rfl (lv_at hl 0 rfl) ?_
    refine lv_iload_n hx hb dL_whole_3 rfl (lv_at hl 1 rfl) ?_
    refine k_thV (As := [.int (iI w)]) (rest := [.int (iI 0), .ref o]) ⟨hx, hb, hml, hown, hts⟩ (c_X6_whole_t2 l hl9 D cy a P w hrw hno) gL_whole_X6_whole rfl ⟨rfl, rfl⟩ 1 rfl (by decide +kernel) ⟨Nat.le_of_ble_eq_true rfl, Nat.le_of_ble_eq_true rfl⟩ (GX_ok D cy) ((GX_ok D cy).2.2.2 _ _ _ _ (fun _ h => h.elim) ((GX_ok D cy).1 _ _ _ _ hS.2.1 hG)) hP (va_recv hK hP (ci := 5) (q0 := 0) rfl rfl) hl.1 rfl (Nat.le_of_ble_eq_true rfl) ⟨Nat.le_of_ble_eq_true rfl, Nat.le_of_ble_eq_true rfl⟩ dL_whole_4 (fun ce q9 H1 z1 o1 e1 v1 f1 => ?_)
    refine vx_catch (E := exN 1) (name := exN 1) hown (tableOf []) ⟨0, 9, 12, 25⟩ (tableOf []) (by rw [htab]; rfl) (fun z h => by cases h) (by decide) (by decide) (hts (.classLink RL 25 (exN 1)) (by decide +kernel)) (va_Nw.use rfl (hG.2.1 1 (by decide)).2.1) e1 v1 f1 ?_
    have hP1 := P_grow hP o1
    have hS1 := S_grow hS z1 o1
    refine lv_astore_n (lv' := [(3, .ref q9), (0, .ref (a 100)), (1, .int (iI w)), (2, .ref o)]) hx hb dL_whole_12 rfl hl (by decide) rfl (fun ls hl => ?_)
    refine k_iconst hx hb dL_whole_13 ?_
    exact W.iret (v := iI 1) hx hb hr (fun t9 ht _ => ⟨⟨iI 1, (), rfl, ⟨1, rfl, rfl⟩, by rw [ht]; exact hP1, hD⟩, hS1.F ht⟩) hS1.2.2 dL_whole_14 hlocks
  exact hbody s.heap [] hP hS ls hl
set_option maxHeartbeats 4000000 in
set_option maxRecDepth 100000 in
theorem c_L_costAt (l : Launch) (sz : Nat) (o : Nat) (fO : Nat → Int64) (D : va_G) (cy : Nat → ClassId) (a : Nat → Nat) (P : Nat → Int → Int) (x y : Int) (hI : Inv (mO P)) (hpo : poleOK x y) (hrx : -2147483648 ≤ x ∧ x ≤ 2147483647) (hry : -2147483648 ≤ y ∧ y ≤ 2147483647) : Met l yL_costAt wsL_costAt { frames := 6, cells := 0, slots := 0, locals := 154 } (mPre (GG D cy) D (ouW cy o fO (obplW cy a P)) sz ([.ref (a 100), .int (iI x), .int (iI y), .ref o] : List Value)) (kQi D (ouW cy o fO (obplW cy a P)) sz (fun u8 : Unit × (Nat → Int64) => ouW cy o u8.2 (obplW cy a P)) (ouP (fun r9 _ => (fun r => r = pcost (tPo (mO P) x y)) r9))) 0 0 (va_A (ouW cy o fO (obplW cy a P)) sz) := by
  refine kMW_start (cc := cL_costAt) (maxL := 5) (ret := (some .int)) (by decide) rfl (Nat.le_of_ble_eq_true rfl) ?_
  intro p e s m below meth c hx hb hr hlocks hml hts hown htab hA hG hP hD hS ls hl
  have hK := hG.1
  have hl : lv_has ls 5 [(0, .ref (a 100)), (1, .int (iI x)), (2, .int (iI y)), (3, .ref o)] := hl
  have hbody : ∀ (H : Heap) (locs : List Loc) (hP : va_P D vwCl (ouW cy o fO (obplW cy a P)) H) (hS : va_S (va_A (ouW cy o fO (obplW cy a P)) sz) s.heap H locs) (ls : Array Slot) (hl : lv_has ls 5 [(0, .ref (a 100)), (1, .int (iI x)), (2, .int (iI y)), (3, .ref o)]), W p l e { frames := 6, cells := 0, slots := 0, locals := 154 } s m ([.ref (a 100), .int (iI x), .int (iI y), .ref o] : List Value).toArray below meth c H locs 0 0 (MQ below (kQi D (ouW cy o fO (obplW cy a P)) sz (fun u8 : Unit × (Nat → Int64) => ouW cy o u8.2 (obplW cy a P)) (ouP (fun r9 _ => (fun r => r = pcost (tPo (mO P) x y)) r9))) ([.ref (a 100), .int (iI x), .int (iI y), .ref o] : List Value).toArray s 0 0 (va_A (ouW cy o fO (obplW cy a P)) sz)) (F0 m 0 ls []) := by
    intro H locs hP hS ls hl
    refine lv_aload_n hx hb dL_costAt_0 rfl (lv_at hl 3 rfl) ?_
    refine k_iconst hx hb dL_costAt_1 ?_
    refine lv_aload_n hx hb dL_costAt_2 rfl (lv_at hl 0 rfl) ?_
    refine lv_iload_n hx hb dL_costAt_3 rfl (lv_at hl 1 rfl) ?_
    refine lv_iload_n hx hb dL_costAt_4 rfl (lv_at hl 2 rfl) ?_
    refine k_roV (As := [.int (iI x), .int (iI y)]) (rest := [.int (iI 0), .ref o]) ⟨hx, hb, hml, hown, hts⟩ (c_X6_costAt l D cy a P x y hI hpo hrx hry) gL_costAt_X6_costAt rfl ⟨rfl, rfl⟩ 2 rfl (by decide +kernel) ⟨Nat.le_of_ble_eq_true rfl, Nat.le_of_ble_eq_true rfl⟩ (GG_ok D cy) ((GG_ok D cy).2.2.2 _ _ _ _ (fun _ h => h.elim) ((GG_ok D cy).1 _ _ _ _ hS.2.1 hG)) (hP.sub (ws' := obplW cy a P) [1, 2, 3, 4, 5, 6, 7, 8, 9, 10] rfl) (va_recv hK hP (ci := 5) (q0 := 1) rfl rfl) hl.1 rfl (Nat.le_of_ble_eq_true rfl) ⟨Nat.le_of_ble_eq_true rfl, Nat.le_of_ble_eq_true rfl⟩ dL_costAt_5 (fun r8 hpost => ?_)
    refine lv_i2l hx hb dL_costAt_8 rfl ?_
    refine va_last hx hb hK hP hD hS 0 4 rfl rfl (i := iI 0) (vp_iI (by decide)) dL_costAt_9 (fun H1 locs1 hP hD hS => ?_)
    refine lv_goto (tgt := 17) hx hb dL_costAt_10 (by decide) ?_
    refine k_iconst hx hb dL_costAt_17 ?_
    exact W.iret (v := iI 0) hx hb hr (fun t9 ht _ => ⟨⟨iI 0, ((), vp_updL fO (iI 0).toNatClampNeg (iI r8).toInt64), rfl, ⟨0, rfl, rfl, r8, out_0 fO _, hpost⟩, by rw [ht]; exact hP, hD⟩, hS.F ht⟩) hS.2.2 dL_costAt_18 hlocks
  exact hbody s.heap [] hP hS ls hl
set_option maxHeartbeats 4000000 in
set_option maxRecDepth 100000 in
theorem c_L_costAt_t2 (l : Launch) (hl9 : l.stackTraces = false) (sz : Nat) (o : Nat) (D : va_G) (cy : Nat → ClassId) (a : Nat → Nat) (P : Nat → Int → Int) (x y : Int) (hrx : -2147483648 ≤ x ∧ x ≤ 2147483647) (hry : -2147483648 ≤ y ∧ y ≤ 2147483647) (hno : ¬ poleOK x y) : Met l yL_costAt wsL_costAt { frames := 8, cells := 1, slots := 6, locals := 140 } (mPre (GX D cy) D (obplW cy a P) sz ([.ref (a 100), .int (iI x), .int (iI y), .ref o] : List Value)) (kQi D (obplW cy a P) sz (fun _ : Unit => obplW cy a P) (fun r _ => r = 1)) 1 6 (va_A (obplW cy a P) sz) := by
  refine kMW_start (cc := cL_costAt) (maxL := 5) (ret := (some .int)) (by decide) rfl (Nat.le_of_ble_eq_true rfl) ?_
  intro p e s m below meth c hx hb hr hlocks hml hts hown htab hA hG hP hD hS ls hl
  have hK := hG.1.1.1
  have hl : lv_has ls 5 [(0, .ref (a 100)), (1, .int (iI x)), (2, .int (iI y)), (3, .ref o)] := hl
  have hbody : ∀ (H : Heap) (locs : List Loc) (hP : va_P D vwCl (obplW cy a P) H) (hS : va_S (va_A (obplW cy a P) sz) s.heap H locs) (ls : Array Slot) (hl : lv_has ls 5 [(0, .ref (a 100)), (1, .int (iI x)), (2, .int (iI y)), (3, .ref o)]), W p l e { frames := 8, cells := 1, slots := 6, locals := 140 } s m ([.ref (a 100), .int (iI x), .int (iI y), .ref o] : List Value).toArray below meth c H locs 0 0 (MQ below (kQi D (obplW cy a P) sz (fun _ : Unit => obplW cy a P) (fun r _ => r = 1)) ([.ref (a 100), .int (iI x), .int (iI y), .ref o] : List Value).toArray s 1 6 (va_A (obplW cy a P) sz)) (F0 m 0 ls []) := by
    intro H locs hP hS ls hl
    refine lv_aload_n hx hb dL_costAt_0 rfl (lv_at hl 3 rfl) ?_
    refine k_iconst hx hb dL_costAt_1 ?_
    refine lv_aload_n hx hb dL_costAt_2 rfl (lv_at hl 0 rfl) ?_
    refine lv_iload_n hx hb dL_costAt_3 rfl (lv_at hl 1 rfl) ?_
    refine lv_iload_n hx hb dL_costAt_4 rfl (lv_at hl 2 rfl) ?_
    refine k_thV (As := [.int (iI x), .int (iI y)]) (rest := [.int (iI 0), .ref o]) ⟨hx, hb, hml, hown, hts⟩ (c_X6_costAt_t2 l hl9 D cy a P x y hrx hry hno) gL_costAt_X6_costAt rfl ⟨rfl, rfl⟩ 2 rfl (by decide +kernel) ⟨Nat.le_of_ble_eq_true rfl, Nat.le_of_ble_eq_true rfl⟩ (GX_ok D cy) ((GX_ok D cy).2.2.2 _ _ _ _ (fun _ h => h.elim) ((GX_ok D cy).1 _ _ _ _ hS.2.1 hG)) hP (va_recv hK hP (ci := 5) (q0 := 0) rfl rfl) hl.1 rfl (Nat.le_of_ble_eq_true rfl) ⟨Nat.le_of_ble_eq_true rfl, Nat.le_of_ble_eq_true rfl⟩ dL_costAt_5 (fun ce q9 H1 z1 o1 e1 v1 f1 => ?_)
    refine vx_catch (E := exN 1) (name := exN 1) hown (tableOf []) ⟨0, 10, 13, 25⟩ (tableOf []) (by rw [htab]; rfl) (fun z h => by cases h) (by decide) (by decide) (hts (.classLink RL 25 (exN 1)) (by decide +kernel)) (va_Nw.use rfl (hG.2.1 1 (by decide)).2.1) e1 v1 f1 ?_
    have hP1 := P_grow hP o1
    have hS1 := S_grow hS z1 o1
    refine lv_astore (lv' := [(4, .ref q9), (0, .ref (a 100)), (1, .int (iI x)), (2, .int (iI y)), (3, .ref o)]) hx hb dL_costAt_13 hl (by decide) rfl (fun ls hl => ?_)
    refine k_iconst hx hb dL_costAt_15 ?_
    exact W.iret (v := iI 1) hx hb hr (fun t9 ht _ => ⟨⟨iI 1, (), rfl, ⟨1, rfl, rfl⟩, by rw [ht]; exact hP1, hD⟩, hS1.F ht⟩) hS1.2.2 dL_costAt_16 hlocks
  exact hbody s.heap [] hP hS ls hl
set_option maxHeartbeats 4000000 in
set_option maxRecDepth 100000 in
theorem c_L_bestDrift (l : Launch) (sz : Nat) (o : Nat) (fO : Nat → Int64) (D : va_G) (cy : Nat → ClassId) (a : Nat → Nat) (P : Nat → Int → Int) (m9 : Int) (hI : Inv (mO P)) (hm9 : 0 ≤ m9 ∧ m9 ≤ 5) : Met l yL_bestDrift wsL_bestDrift { frames := 5, cells := 0, slots := 0, locals := 139 } (mPre (GG D cy) D (ouW cy o fO (obplW cy a P)) sz ([.ref (a 100), .int (iI m9), .ref o] : List Value)) (kQi D (ouW cy o fO (obplW cy a P)) sz (fun u8 : Unit × (Nat → Int64) => ouW cy o u8.2 (obplW cy a P)) (ouP (fun r9 _ => (fun r => r = bdF (mO P) m9) r9))) 0 0 (va_A (ouW cy o fO (obplW cy a P)) sz) := by
  refine kMW_start (cc := cL_bestDrift) (maxL := 4) (ret := (some .int)) (by decide) rfl (Nat.le_of_ble_eq_true rfl) ?_
  intro p e s m below meth c hx hb hr hlocks hml hts hown htab hA hG hP hD hS ls hl
  have hK := hG.1
  have hl : lv_has ls 4 [(0, .ref (a 100)), (1, .int (iI m9)), (2, .ref o)] := hl
  have hbody : ∀ (H : Heap) (locs : List Loc) (hP : va_P D vwCl (ouW cy o fO (obplW cy a P)) H) (hS : va_S (va_A (ouW cy o fO (obplW cy a P)) sz) s.heap H locs) (ls : Array Slot) (hl : lv_has ls 4 [(0, .ref (a 100)), (1, .int (iI m9)), (2, .ref o)]), W p l e { frames := 5, cells := 0, slots := 0, locals := 139 } s m ([.ref (a 100), .int (iI m9), .ref o] : List Value).toArray below meth c H locs 0 0 (MQ below (kQi D (ouW cy o fO (obplW cy a P)) sz (fun u8 : Unit × (Nat → Int64) => ouW cy o u8.2 (obplW cy a P)) (ouP (fun r9 _ => (fun r => r = bdF (mO P) m9) r9))) ([.ref (a 100), .int (iI m9), .ref o] : List Value).toArray s 0 0 (va_A (ouW cy o fO (obplW cy a P)) sz)) (F0 m 0 ls []) := by
    intro H locs hP hS ls hl
    refine lv_aload_n hx hb dL_bestDrift_0 rfl (lv_at hl 2 rfl) ?_
    refine k_iconst hx hb dL_bestDrift_1 ?_
    refine lv_aload_n hx hb dL_bestDrift_2 rfl (lv_at hl 0 rfl) ?_
    refine lv_iload_n hx hb dL_bestDrift_3 rfl (lv_at hl 1 rfl) ?_
    refine k_roV (As := [.int (iI m9)]) (rest := [.int (iI 0), .ref o]) ⟨hx, hb, hml, hown, hts⟩ (c_X6_bestDrift l D cy a P m9 hI hm9) gL_bestDrift_X6_bestDrift rfl ⟨rfl, rfl⟩ 1 rfl (by decide +kernel) ⟨Nat.le_of_ble_eq_true rfl, Nat.le_of_ble_eq_true rfl⟩ (GG_ok D cy) ((GG_ok D cy).2.2.2 _ _ _ _ (fun _ h => h.elim) ((GG_ok D cy).1 _ _ _ _ hS.2.1 hG)) (hP.sub (ws' := obplW cy a P) [1, 2, 3, 4, 5, 6, 7, 8, 9, 10] rfl) (va_recv hK hP (ci := 5) (q0 := 1) rfl rfl) hl.1 rfl (Nat.le_of_ble_eq_true rfl) ⟨Nat.le_of_ble_eq_true rfl, Nat.le_of_ble_eq_true rfl⟩ dL_bestDrift_4 (fun r8 hpost => ?_)
    refine lv_i2l hx hb dL_bestDrift_7 rfl ?_
    refine va_last hx hb hK hP hD hS 0 4 rfl rfl (i := iI 0) (vp_iI (by decide)) dL_bestDrift_8 (fun H1 locs1 hP hD hS => ?_)
    refine lv_goto (tgt := 15) hx hb dL_bestDrift_9 (by decide) ?_
    refine k_iconst hx hb dL_bestDrift_15 ?_
    exact W.iret (v := iI 0) hx hb hr (fun t9 ht _ => ⟨⟨iI 0, ((), vp_updL fO (iI 0).toNatClampNeg (iI r8).toInt64), rfl, ⟨0, rfl, rfl, r8, out_0 fO _, hpost⟩, by rw [ht]; exact hP, hD⟩, hS.F ht⟩) hS.2.2 dL_bestDrift_16 hlocks
  exact hbody s.heap [] hP hS ls hl
set_option maxHeartbeats 4000000 in
set_option maxRecDepth 100000 in
theorem c_L_bestDrift_t2 (l : Launch) (hl9 : l.stackTraces = false) (sz : Nat) (o : Nat) (D : va_G) (cy : Nat → ClassId) (a : Nat → Nat) (P : Nat → Int → Int) (m9 : Int) (hrm9 : -2147483648 ≤ m9 ∧ m9 ≤ 2147483647) (hno : ¬ (0 ≤ m9 ∧ m9 ≤ 5)) : Met l yL_bestDrift wsL_bestDrift { frames := 8, cells := 1, slots := 6, locals := 147 } (mPre (GX D cy) D (obplW cy a P) sz ([.ref (a 100), .int (iI m9), .ref o] : List Value)) (kQi D (obplW cy a P) sz (fun _ : Unit => obplW cy a P) (fun r _ => r = 1)) 1 6 (va_A (obplW cy a P) sz) := by
  refine kMW_start (cc := cL_bestDrift) (maxL := 4) (ret := (some .int)) (by decide) rfl (Nat.le_of_ble_eq_true rfl) ?_
  intro p e s m below meth c hx hb hr hlocks hml hts hown htab hA hG hP hD hS ls hl
  have hK := hG.1.1.1
  have hl : lv_has ls 4 [(0, .ref (a 100)), (1, .int (iI m9)), (2, .ref o)] := hl
  have hbody : ∀ (H : Heap) (locs : List Loc) (hP : va_P D vwCl (obplW cy a P) H) (hS : va_S (va_A (obplW cy a P) sz) s.heap H locs) (ls : Array Slot) (hl : lv_has ls 4 [(0, .ref (a 100)), (1, .int (iI m9)), (2, .ref o)]), W p l e { frames := 8, cells := 1, slots := 6, locals := 147 } s m ([.ref (a 100), .int (iI m9), .ref o] : List Value).toArray below meth c H locs 0 0 (MQ below (kQi D (obplW cy a P) sz (fun _ : Unit => obplW cy a P) (fun r _ => r = 1)) ([.ref (a 100), .int (iI m9), .ref o] : List Value).toArray s 1 6 (va_A (obplW cy a P) sz)) (F0 m 0 ls []) := by
    intro H locs hP hS ls hl
    refine lv_aload_n hx hb dL_bestDrift_0 rfl (lv_at hl 2 rfl) ?_
    refine k_iconst hx hb dL_bestDrift_1 ?_
    refine lv_aload_n hx hb dL_bestDrift_2 rfl (lv_at hl 0 rfl) ?_
    refine lv_iload_n hx hb dL_bestDrift_3 rfl (lv_at hl 1 rfl) ?_
    refine k_thV (As := [.int (iI m9)]) (rest := [.int (iI 0), .ref o]) ⟨hx, hb, hml, hown, hts⟩ (c_X6_bestDrift_t2 l hl9 D cy a P m9 hrm9 hno) gL_bestDrift_X6_bestDrift rfl ⟨rfl, rfl⟩ 1 rfl (by decide +kernel) ⟨Nat.le_of_ble_eq_true rfl, Nat.le_of_ble_eq_true rfl⟩ (GX_ok D cy) ((GX_ok D cy).2.2.2 _ _ _ _ (fun _ h => h.elim) ((GX_ok D cy).1 _ _ _ _ hS.2.1 hG)) hP (va_recv hK hP (ci := 5) (q0 := 0) rfl rfl) hl.1 rfl (Nat.le_of_ble_eq_true rfl) ⟨Nat.le_of_ble_eq_true rfl, Nat.le_of_ble_eq_true rfl⟩ dL_bestDrift_4 (fun ce q9 H1 z1 o1 e1 v1 f1 => ?_)
    refine vx_catch (E := exN 1) (name := exN 1) hown (tableOf []) ⟨0, 9, 12, 25⟩ (tableOf []) (by rw [htab]; rfl) (fun z h => by cases h) (by decide) (by decide) (hts (.classLink RL 25 (exN 1)) (by decide +kernel)) (va_Nw.use rfl (hG.2.1 1 (by decide)).2.1) e1 v1 f1 ?_
    have hP1 := P_grow hP o1
    have hS1 := S_grow hS z1 o1
    refine lv_astore_n (lv' := [(3, .ref q9), (0, .ref (a 100)), (1, .int (iI m9)), (2, .ref o)]) hx hb dL_bestDrift_12 rfl hl (by decide) rfl (fun ls hl => ?_)
    refine k_iconst hx hb dL_bestDrift_13 ?_
    exact W.iret (v := iI 1) hx hb hr (fun t9 ht _ => ⟨⟨iI 1, (), rfl, ⟨1, rfl, rfl⟩, by rw [ht]; exact hP1, hD⟩, hS1.F ht⟩) hS1.2.2 dL_bestDrift_14 hlocks
  exact hbody s.heap [] hP hS ls hl
set_option maxHeartbeats 4000000 in
set_option maxRecDepth 100000 in
theorem c_L_type (l : Launch) (sz : Nat) (o : Nat) (fO : Nat → Int64) (D : va_G) (cy : Nat → ClassId) (a : Nat → Nat) (P : Nat → Int → Int) (v : Int) (hv : 0 ≤ v ∧ v ≤ 127) (hn : 0 ≤ P 10 0 ∧ P 10 0 < 150) : Met l yL_type wsL_type { frames := 2, cells := 0, slots := 0, locals := 51 } (mPre (GG D cy) D (ouW cy o fO (obscW cy a P)) sz ([.ref (a 100), .int (iI v), .ref o] : List Value)) (kQi D (ouW cy o fO (obscW cy a P)) sz (fun u8 : (Nat → Int → Int) × (Nat → Int64) => ouW cy o u8.2 (obscW cy a u8.1)) (ouP (fun r9 u9 => r9 = P 10 0 + 1 ∧ u9 = (upr (upr P 10 (ups (P 10) 0 (P 10 0 + 1))) 11 (ups (P 11) (P 10 0) v))))) 0 0 (va_A (ouW cy o fO (obscW cy a P)) sz) := by
  refine kMW_start (cc := cL_type) (maxL := 4) (ret := (some .int)) (by decide) rfl (Nat.le_of_ble_eq_true rfl) ?_
  intro p e s m below meth c hx hb hr hlocks hml hts hown htab hA hG hP hD hS ls hl
  have hK := hG.1
  have hl : lv_has ls 4 [(0, .ref (a 100)), (1, .int (iI v)), (2, .ref o)] := hl
  have hbody : ∀ (H : Heap) (locs : List Loc) (hP : va_P D vwCl (ouW cy o fO (obscW cy a P)) H) (hS : va_S (va_A (ouW cy o fO (obscW cy a P)) sz) s.heap H locs) (ls : Array Slot) (hl : lv_has ls 4 [(0, .ref (a 100)), (1, .int (iI v)), (2, .ref o)]), W p l e { frames := 2, cells := 0, slots := 0, locals := 51 } s m ([.ref (a 100), .int (iI v), .ref o] : List Value).toArray below meth c H locs 0 0 (MQ below (kQi D (ouW cy o fO (obscW cy a P)) sz (fun u8 : (Nat → Int → Int) × (Nat → Int64) => ouW cy o u8.2 (obscW cy a u8.1)) (ouP (fun r9 u9 => r9 = P 10 0 + 1 ∧ u9 = (upr (upr P 10 (ups (P 10) 0 (P 10 0 + 1))) 11 (ups (P 11) (P 10 0) v))))) ([.ref (a 100), .int (iI v), .ref o] : List Value).toArray s 0 0 (va_A (ouW cy o fO (obscW cy a P)) sz)) (F0 m 0 ls []) := by
    intro H locs hP hS ls hl
    refine lv_aload_n hx hb dL_type_0 rfl (lv_at hl 2 rfl) ?_
    refine k_iconst hx hb dL_type_1 ?_
    refine lv_aload_n hx hb dL_type_2 rfl (lv_at hl 0 rfl) ?_
    refine lv_iload_n hx hb dL_type_3 rfl (lv_at hl 1 rfl) ?_
    have hPc := hP.sub (ws' := obscW cy a P) [1, 2, 3, 4, 5] rfl
    have hDc := hD.sub (ws' := obscW cy a P) [1, 2, 3, 4, 5] (by decide) rfl
    have hFc := va_free (wc := obscW cy a P) hD hS hA [1, 2, 3, 4, 5] rfl
    refine k_mui (k_runV (As := [.int (iI v)]) (rest := [.int (iI 0), .ref o]) ⟨hx, hb, hml, hown, hts⟩ (c_X6_type l D cy H.size a P v hv hn) gL_type_X6_type rfl ⟨rfl, rfl⟩ 1 rfl (by decide +kernel) ⟨Nat.le_of_ble_eq_true rfl, Nat.le_of_ble_eq_true rfl⟩ (GG_ok D cy) hG hS hFc hPc hDc (va_recv hK hP (ci := 5) (q0 := 1) rfl rfl) hl.1 rfl (Nat.le_of_ble_eq_true rfl) ⟨Nat.le_of_ble_eq_true rfl, Nat.le_of_ble_eq_true rfl⟩ dL_type_4) hFc hS (fun r8 u8 H1 locs1 hpost hP1 hD1 hS1 hk1 => ?_)
    have hJ := va_join (wr := [(o, .inl (cy 4, 1, .inr (.inl fO)))]) hP hD [1, 2, 3, 4, 5] [0] rfl rfl (by decide) (by decide) hk1 hFc hP1 hD1
    obtain ⟨hP, hD⟩ := hJ
    have hS := hS1
    refine lv_i2l hx hb dL_type_7 rfl ?_
    refine va_last hx hb hK hP hD hS 0 4 rfl rfl (i := iI 0) (vp_iI (by decide)) dL_type_8 (fun H1 locs1 hP hD hS => ?_)
    refine lv_goto (tgt := 18) hx hb dL_type_9 (by decide) ?_
    refine k_iconst hx hb dL_type_18 ?_
    exact W.iret (v := iI 0) hx hb hr (fun t9 ht _ => ⟨⟨iI 0, (u8, vp_updL fO (iI 0).toNatClampNeg (iI r8).toInt64), rfl, ⟨0, rfl, rfl, r8, out_0 fO _, hpost⟩, by rw [ht]; exact hP, hD⟩, hS.F ht⟩) hS.2.2 dL_type_19 hlocks
  exact hbody s.heap [] hP hS ls hl
set_option maxHeartbeats 4000000 in
set_option maxRecDepth 100000 in
theorem c_L_type_t2 (l : Launch) (hl9 : l.stackTraces = false) (sz : Nat) (o : Nat) (D : va_G) (cy : Nat → ClassId) (a : Nat → Nat) (P : Nat → Int → Int) (v : Int) (hrv : -2147483648 ≤ v ∧ v ≤ 2147483647) (hno : ¬ (0 ≤ v ∧ v ≤ 127)) : Met l yL_type wsL_type { frames := 8, cells := 1, slots := 6, locals := 139 } (mPre (GX D cy) D (obscW cy a P) sz ([.ref (a 100), .int (iI v), .ref o] : List Value)) (kQi D (obscW cy a P) sz (fun _ : Unit => obscW cy a P) (fun r _ => r = 1)) 1 6 (va_A (obscW cy a P) sz) := by
  refine kMW_start (cc := cL_type) (maxL := 4) (ret := (some .int)) (by decide) rfl (Nat.le_of_ble_eq_true rfl) ?_
  intro p e s m below meth c hx hb hr hlocks hml hts hown htab hA hG hP hD hS ls hl
  have hK := hG.1.1.1
  have hl : lv_has ls 4 [(0, .ref (a 100)), (1, .int (iI v)), (2, .ref o)] := hl
  have hbody : ∀ (H : Heap) (locs : List Loc) (hP : va_P D vwCl (obscW cy a P) H) (hS : va_S (va_A (obscW cy a P) sz) s.heap H locs) (ls : Array Slot) (hl : lv_has ls 4 [(0, .ref (a 100)), (1, .int (iI v)), (2, .ref o)]), W p l e { frames := 8, cells := 1, slots := 6, locals := 139 } s m ([.ref (a 100), .int (iI v), .ref o] : List Value).toArray below meth c H locs 0 0 (MQ below (kQi D (obscW cy a P) sz (fun _ : Unit => obscW cy a P) (fun r _ => r = 1)) ([.ref (a 100), .int (iI v), .ref o] : List Value).toArray s 1 6 (va_A (obscW cy a P) sz)) (F0 m 0 ls []) := by
    intro H locs hP hS ls hl
    refine lv_aload_n hx hb dL_type_0 rfl (lv_at hl 2 rfl) ?_
    refine k_iconst hx hb dL_type_1 ?_
    refine lv_aload_n hx hb dL_type_2 rfl (lv_at hl 0 rfl) ?_
    refine lv_iload_n hx hb dL_type_3 rfl (lv_at hl 1 rfl) ?_
    refine k_thV (As := [.int (iI v)]) (rest := [.int (iI 0), .ref o]) ⟨hx, hb, hml, hown, hts⟩ (c_X6_type_t2 l hl9 D cy a P v hrv hno) gL_type_X6_type rfl ⟨rfl, rfl⟩ 1 rfl (by decide +kernel) ⟨Nat.le_of_ble_eq_true rfl, Nat.le_of_ble_eq_true rfl⟩ (GX_ok D cy) ((GX_ok D cy).2.2.2 _ _ _ _ (fun _ h => h.elim) ((GX_ok D cy).1 _ _ _ _ hS.2.1 hG)) hP (va_recv hK hP (ci := 5) (q0 := 0) rfl rfl) hl.1 rfl (Nat.le_of_ble_eq_true rfl) ⟨Nat.le_of_ble_eq_true rfl, Nat.le_of_ble_eq_true rfl⟩ dL_type_4 (fun ce q9 H1 z1 o1 e1 v1 f1 => ?_)
    refine vx_catch (E := exN 1) (name := exN 1) hown (tableOf []) ⟨0, 9, 12, 25⟩ (tableOf [(0, 9, 15, 13)]) (by rw [htab]; rfl) (fun z h => by cases h) (by decide) (by decide) (hts (.classLink RL 25 (exN 1)) (by decide +kernel)) (va_Nw.use rfl (hG.2.1 1 (by decide)).2.1) e1 v1 f1 ?_
    have hP1 := P_grow hP o1
    have hS1 := S_grow hS z1 o1
    refine lv_astore_n (lv' := [(3, .ref q9), (0, .ref (a 100)), (1, .int (iI v)), (2, .ref o)]) hx hb dL_type_12 rfl hl (by decide) rfl (fun ls hl => ?_)
    refine k_iconst hx hb dL_type_13 ?_
    exact W.iret (v := iI 1) hx hb hr (fun t9 ht _ => ⟨⟨iI 1, (), rfl, ⟨1, rfl, rfl⟩, by rw [ht]; exact hP1, hD⟩, hS1.F ht⟩) hS1.2.2 dL_type_14 hlocks
  exact hbody s.heap [] hP hS ls hl
set_option maxHeartbeats 4000000 in
set_option maxRecDepth 100000 in
theorem c_L_type_t3 (l : Launch) (hl9 : l.stackTraces = false) (sz : Nat) (o : Nat) (D : va_G) (cy : Nat → ClassId) (a : Nat → Nat) (P : Nat → Int → Int) (v : Int) (hv : 0 ≤ v ∧ v ≤ 127) (hno : P 10 0 = 150) : Met l yL_type wsL_type { frames := 8, cells := 1, slots := 6, locals := 139 } (mPre (GX D cy) D (obscW cy a P) sz ([.ref (a 100), .int (iI v), .ref o] : List Value)) (kQi D (obscW cy a P) sz (fun _ : Unit => obscW cy a P) (fun r _ => r = 2)) 1 6 (va_A (obscW cy a P) sz) := by
  refine kMW_start (cc := cL_type) (maxL := 4) (ret := (some .int)) (by decide) rfl (Nat.le_of_ble_eq_true rfl) ?_
  intro p e s m below meth c hx hb hr hlocks hml hts hown htab hA hG hP hD hS ls hl
  have hK := hG.1.1.1
  have hl : lv_has ls 4 [(0, .ref (a 100)), (1, .int (iI v)), (2, .ref o)] := hl
  have hbody : ∀ (H : Heap) (locs : List Loc) (hP : va_P D vwCl (obscW cy a P) H) (hS : va_S (va_A (obscW cy a P) sz) s.heap H locs) (ls : Array Slot) (hl : lv_has ls 4 [(0, .ref (a 100)), (1, .int (iI v)), (2, .ref o)]), W p l e { frames := 8, cells := 1, slots := 6, locals := 139 } s m ([.ref (a 100), .int (iI v), .ref o] : List Value).toArray below meth c H locs 0 0 (MQ below (kQi D (obscW cy a P) sz (fun _ : Unit => obscW cy a P) (fun r _ => r = 2)) ([.ref (a 100), .int (iI v), .ref o] : List Value).toArray s 1 6 (va_A (obscW cy a P) sz)) (F0 m 0 ls []) := by
    intro H locs hP hS ls hl
    refine lv_aload_n hx hb dL_type_0 rfl (lv_at hl 2 rfl) ?_
    refine k_iconst hx hb dL_type_1 ?_
    refine lv_aload_n hx hb dL_type_2 rfl (lv_at hl 0 rfl) ?_
    refine lv_iload_n hx hb dL_type_3 rfl (lv_at hl 1 rfl) ?_
    refine k_thV (As := [.int (iI v)]) (rest := [.int (iI 0), .ref o]) ⟨hx, hb, hml, hown, hts⟩ (c_X6_type_t3 l hl9 D cy a P v hv hno) gL_type_X6_type rfl ⟨rfl, rfl⟩ 1 rfl (by decide +kernel) ⟨Nat.le_of_ble_eq_true rfl, Nat.le_of_ble_eq_true rfl⟩ (GX_ok D cy) ((GX_ok D cy).2.2.2 _ _ _ _ (fun _ h => h.elim) ((GX_ok D cy).1 _ _ _ _ hS.2.1 hG)) hP (va_recv hK hP (ci := 5) (q0 := 0) rfl rfl) hl.1 rfl (Nat.le_of_ble_eq_true rfl) ⟨Nat.le_of_ble_eq_true rfl, Nat.le_of_ble_eq_true rfl⟩ dL_type_4 (fun ce q9 H1 z1 o1 e1 v1 f1 => ?_)
    refine vx_catch (E := exN 2) (name := exN 2) hown (tableOf [(0, 9, 12, 25)]) ⟨0, 9, 15, 13⟩ (tableOf []) (by rw [htab]; rfl) (fun z h => by
      rcases List.mem_cons.mp h with rfl | h
      · exact Or.inr ⟨by decide, exN 1, hts (.classLink RL 25 (exN 1)) (by decide +kernel), (hG.2.1 2 (by decide)).2.2 1 (by decide) (by decide)⟩
      cases h) (by decide) (by decide) (hts (.classLink RL 13 (exN 2)) (by decide +kernel)) (va_Nw.use rfl (hG.2.1 2 (by decide)).2.1) e1 v1 f1 ?_
    have hP1 := P_grow hP o1
    have hS1 := S_grow hS z1 o1
    refine lv_astore_n (lv' := [(3, .ref q9), (0, .ref (a 100)), (1, .int (iI v)), (2, .ref o)]) hx hb dL_type_15 rfl hl (by decide) rfl (fun ls hl => ?_)
    refine k_iconst hx hb dL_type_16 ?_
    exact W.iret (v := iI 2) hx hb hr (fun t9 ht _ => ⟨⟨iI 2, (), rfl, ⟨2, rfl, rfl⟩, by rw [ht]; exact hP1, hD⟩, hS1.F ht⟩) hS1.2.2 dL_type_17 hlocks
  exact hbody s.heap [] hP hS ls hl
set_option maxHeartbeats 4000000 in
set_option maxRecDepth 100000 in
theorem c_L_undo_0 (l : Launch) (sz : Nat) (o : Nat) (fO : Nat → Int64) (D : va_G) (cy : Nat → ClassId) (a : Nat → Nat) (P : Nat → Int → Int) (hk9 : P 50 1 = 1) (hIp : Inv (mO (rpg 0 P))) : Met l yL_undo wsL_undo { frames := 5, cells := 0, slots := 0, locals := 113 } (mPre (GG D cy) D (ouW cy o fO (obhsW cy a P)) sz ([.ref (a 100), .ref o] : List Value)) (kQi D (ouW cy o fO (obhsW cy a P)) sz (fun u8 : (Nat → Int → Int) × (Nat → Int64) => ouW cy o u8.2 (obhsW cy a u8.1)) (ouP (fun r9 u9 => r9 = 0 ∧ u9 100 = ups (P 100) 6 0 ∧ backO P u9 0))) 0 0 (va_A (ouW cy o fO (obhsW cy a P)) sz) := by
  refine kMW_start (cc := cL_undo) (maxL := 3) (ret := (some .int)) (by decide) rfl (Nat.le_of_ble_eq_true rfl) ?_
  intro p e s m below meth c hx hb hr hlocks hml hts hown htab hA hG hP hD hS ls hl
  have hK := hG.1
  have hl : lv_has ls 3 [(0, .ref (a 100)), (1, .ref o)] := hl
  have hbody : ∀ (H : Heap) (locs : List Loc) (hP : va_P D vwCl (ouW cy o fO (obhsW cy a P)) H) (hS : va_S (va_A (ouW cy o fO (obhsW cy a P)) sz) s.heap H locs) (ls : Array Slot) (hl : lv_has ls 3 [(0, .ref (a 100)), (1, .ref o)]), W p l e { frames := 5, cells := 0, slots := 0, locals := 113 } s m ([.ref (a 100), .ref o] : List Value).toArray below meth c H locs 0 0 (MQ below (kQi D (ouW cy o fO (obhsW cy a P)) sz (fun u8 : (Nat → Int → Int) × (Nat → Int64) => ouW cy o u8.2 (obhsW cy a u8.1)) (ouP (fun r9 u9 => r9 = 0 ∧ u9 100 = ups (P 100) 6 0 ∧ backO P u9 0))) ([.ref (a 100), .ref o] : List Value).toArray s 0 0 (va_A (ouW cy o fO (obhsW cy a P)) sz)) (F0 m 0 ls []) := by
    intro H locs hP hS ls hl
    refine lv_aload_n hx hb dL_undo_0 rfl (lv_at hl 1 rfl) ?_
    refine k_iconst hx hb dL_undo_1 ?_
    refine lv_aload_n hx hb dL_undo_2 rfl (lv_at hl 0 rfl) ?_
    have hPc := hP.sub (ws' := obhsW cy a P) [1, 2, 3, 4, 5, 6, 7, 8, 9, 10, 11, 12, 13, 14, 15, 16, 17, 18, 19, 20, 21, 22, 23, 24, 25, 26, 27, 28, 29, 30, 31, 32, 33, 34, 35, 36, 37, 38, 39, 40, 41, 42, 43, 44, 45, 46, 47, 48] rfl
    have hDc := hD.sub (ws' := obhsW cy a P) [1, 2, 3, 4, 5, 6, 7, 8, 9, 10, 11, 12, 13, 14, 15, 16, 17, 18, 19, 20, 21, 22, 23, 24, 25, 26, 27, 28, 29, 30, 31, 32, 33, 34, 35, 36, 37, 38, 39, 40, 41, 42, 43, 44, 45, 46, 47, 48] (by decide) rfl
    have hFc := va_free (wc := obhsW cy a P) hD hS hA [1, 2, 3, 4, 5, 6, 7, 8, 9, 10, 11, 12, 13, 14, 15, 16, 17, 18, 19, 20, 21, 22, 23, 24, 25, 26, 27, 28, 29, 30, 31, 32, 33, 34, 35, 36, 37, 38, 39, 40, 41, 42, 43, 44, 45, 46, 47, 48] rfl
    refine k_mui (k_runV (As := []) (rest := [.int (iI 0), .ref o]) ⟨hx, hb, hml, hown, hts⟩ (c_X6_undo_0 l D cy H.size a P hk9 hIp) gL_undo_X6_undo rfl ⟨rfl, rfl⟩ 0 rfl (by decide +kernel) ⟨Nat.le_of_ble_eq_true rfl, Nat.le_of_ble_eq_true rfl⟩ (GG_ok D cy) hG hS hFc hPc hDc (va_recv hK hP (ci := 5) (q0 := 1) rfl rfl) hl.1 rfl (Nat.le_of_ble_eq_true rfl) ⟨Nat.le_of_ble_eq_true rfl, Nat.le_of_ble_eq_true rfl⟩ dL_undo_3) hFc hS (fun r8 u8 H1 locs1 hpost hP1 hD1 hS1 hk1 => ?_)
    have hJ := va_join (wr := [(o, .inl (cy 4, 1, .inr (.inl fO)))]) hP hD [1, 2, 3, 4, 5, 6, 7, 8, 9, 10, 11, 12, 13, 14, 15, 16, 17, 18, 19, 20, 21, 22, 23, 24, 25, 26, 27, 28, 29, 30, 31, 32, 33, 34, 35, 36, 37, 38, 39, 40, 41, 42, 43, 44, 45, 46, 47, 48] [0] rfl rfl (by decide) (by decide) hk1 hFc hP1 hD1
    obtain ⟨hP, hD⟩ := hJ
    have hS := hS1
    refine lv_i2l hx hb dL_undo_6 rfl ?_
    refine va_last hx hb hK hP hD hS 0 4 rfl rfl (i := iI 0) (vp_iI (by decide)) dL_undo_7 (fun H1 locs1 hP hD hS => ?_)
    refine lv_goto (tgt := 14) hx hb dL_undo_8 (by decide) ?_
    refine k_iconst hx hb dL_undo_14 ?_
    exact W.iret (v := iI 0) hx hb hr (fun t9 ht _ => ⟨⟨iI 0, (u8, vp_updL fO (iI 0).toNatClampNeg (iI r8).toInt64), rfl, ⟨0, rfl, rfl, r8, out_0 fO _, hpost⟩, by rw [ht]; exact hP, hD⟩, hS.F ht⟩) hS.2.2 dL_undo_15 hlocks
  exact hbody s.heap [] hP hS ls hl
set_option maxHeartbeats 4000000 in
set_option maxRecDepth 100000 in
theorem c_L_undo_1 (l : Launch) (sz : Nat) (o : Nat) (fO : Nat → Int64) (D : va_G) (cy : Nat → ClassId) (a : Nat → Nat) (P : Nat → Int → Int) (hk9 : P 50 1 = 2) (hIp : Inv (mO (rpg 1 P))) : Met l yL_undo wsL_undo { frames := 5, cells := 0, slots := 0, locals := 113 } (mPre (GG D cy) D (ouW cy o fO (obhsW cy a P)) sz ([.ref (a 100), .ref o] : List Value)) (kQi D (ouW cy o fO (obhsW cy a P)) sz (fun u8 : (Nat → Int → Int) × (Nat → Int64) => ouW cy o u8.2 (obhsW cy a u8.1)) (ouP (fun r9 u9 => r9 = 1 ∧ u9 100 = ups (P 100) 6 0 ∧ backO P u9 1))) 0 0 (va_A (ouW cy o fO (obhsW cy a P)) sz) := by
  refine kMW_start (cc := cL_undo) (maxL := 3) (ret := (some .int)) (by decide) rfl (Nat.le_of_ble_eq_true rfl) ?_
  intro p e s m below meth c hx hb hr hlocks hml hts hown htab hA hG hP hD hS ls hl
  have hK := hG.1
  have hl : lv_has ls 3 [(0, .ref (a 100)), (1, .ref o)] := hl
  have hbody : ∀ (H : Heap) (locs : List Loc) (hP : va_P D vwCl (ouW cy o fO (obhsW cy a P)) H) (hS : va_S (va_A (ouW cy o fO (obhsW cy a P)) sz) s.heap H locs) (ls : Array Slot) (hl : lv_has ls 3 [(0, .ref (a 100)), (1, .ref o)]), W p l e { frames := 5, cells := 0, slots := 0, locals := 113 } s m ([.ref (a 100), .ref o] : List Value).toArray below meth c H locs 0 0 (MQ below (kQi D (ouW cy o fO (obhsW cy a P)) sz (fun u8 : (Nat → Int → Int) × (Nat → Int64) => ouW cy o u8.2 (obhsW cy a u8.1)) (ouP (fun r9 u9 => r9 = 1 ∧ u9 100 = ups (P 100) 6 0 ∧ backO P u9 1))) ([.ref (a 100), .ref o] : List Value).toArray s 0 0 (va_A (ouW cy o fO (obhsW cy a P)) sz)) (F0 m 0 ls []) := by
    intro H locs hP hS ls hl
    refine lv_aload_n hx hb dL_undo_0 rfl (lv_at hl 1 rfl) ?_
    refine k_iconst hx hb dL_undo_1 ?_
    refine lv_aload_n hx hb dL_undo_2 rfl (lv_at hl 0 rfl) ?_
    have hPc := hP.sub (ws' := obhsW cy a P) [1, 2, 3, 4, 5, 6, 7, 8, 9, 10, 11, 12, 13, 14, 15, 16, 17, 18, 19, 20, 21, 22, 23, 24, 25, 26, 27, 28, 29, 30, 31, 32, 33, 34, 35, 36, 37, 38, 39, 40, 41, 42, 43, 44, 45, 46, 47, 48] rfl
    have hDc := hD.sub (ws' := obhsW cy a P) [1, 2, 3, 4, 5, 6, 7, 8, 9, 10, 11, 12, 13, 14, 15, 16, 17, 18, 19, 20, 21, 22, 23, 24, 25, 26, 27, 28, 29, 30, 31, 32, 33, 34, 35, 36, 37, 38, 39, 40, 41, 42, 43, 44, 45, 46, 47, 48] (by decide) rfl
    have hFc := va_free (wc := obhsW cy a P) hD hS hA [1, 2, 3, 4, 5, 6, 7, 8, 9, 10, 11, 12, 13, 14, 15, 16, 17, 18, 19, 20, 21, 22, 23, 24, 25, 26, 27, 28, 29, 30, 31, 32, 33, 34, 35, 36, 37, 38, 39, 40, 41, 42, 43, 44, 45, 46, 47, 48] rfl
    refine k_mui (k_runV (As := []) (rest := [.int (iI 0), .ref o]) ⟨hx, hb, hml, hown, hts⟩ (c_X6_undo_1 l D cy H.size a P hk9 hIp) gL_undo_X6_undo rfl ⟨rfl, rfl⟩ 0 rfl (by decide +kernel) ⟨Nat.le_of_ble_eq_true rfl, Nat.le_of_ble_eq_true rfl⟩ (GG_ok D cy) hG hS hFc hPc hDc (va_recv hK hP (ci := 5) (q0 := 1) rfl rfl) hl.1 rfl (Nat.le_of_ble_eq_true rfl) ⟨Nat.le_of_ble_eq_true rfl, Nat.le_of_ble_eq_true rfl⟩ dL_undo_3) hFc hS (fun r8 u8 H1 locs1 hpost hP1 hD1 hS1 hk1 => ?_)
    have hJ := va_join (wr := [(o, .inl (cy 4, 1, .inr (.inl fO)))]) hP hD [1, 2, 3, 4, 5, 6, 7, 8, 9, 10, 11, 12, 13, 14, 15, 16, 17, 18, 19, 20, 21, 22, 23, 24, 25, 26, 27, 28, 29, 30, 31, 32, 33, 34, 35, 36, 37, 38, 39, 40, 41, 42, 43, 44, 45, 46, 47, 48] [0] rfl rfl (by decide) (by decide) hk1 hFc hP1 hD1
    obtain ⟨hP, hD⟩ := hJ
    have hS := hS1
    refine lv_i2l hx hb dL_undo_6 rfl ?_
    refine va_last hx hb hK hP hD hS 0 4 rfl rfl (i := iI 0) (vp_iI (by decide)) dL_undo_7 (fun H1 locs1 hP hD hS => ?_)
    refine lv_goto (tgt := 14) hx hb dL_undo_8 (by decide) ?_
    refine k_iconst hx hb dL_undo_14 ?_
    exact W.iret (v := iI 0) hx hb hr (fun t9 ht _ => ⟨⟨iI 0, (u8, vp_updL fO (iI 0).toNatClampNeg (iI r8).toInt64), rfl, ⟨0, rfl, rfl, r8, out_0 fO _, hpost⟩, by rw [ht]; exact hP, hD⟩, hS.F ht⟩) hS.2.2 dL_undo_15 hlocks
  exact hbody s.heap [] hP hS ls hl
set_option maxHeartbeats 4000000 in
set_option maxRecDepth 100000 in
theorem c_L_undo_2 (l : Launch) (sz : Nat) (o : Nat) (fO : Nat → Int64) (D : va_G) (cy : Nat → ClassId) (a : Nat → Nat) (P : Nat → Int → Int) (hk9 : P 50 1 = 3) (hIp : Inv (mO (rpg 2 P))) : Met l yL_undo wsL_undo { frames := 5, cells := 0, slots := 0, locals := 113 } (mPre (GG D cy) D (ouW cy o fO (obhsW cy a P)) sz ([.ref (a 100), .ref o] : List Value)) (kQi D (ouW cy o fO (obhsW cy a P)) sz (fun u8 : (Nat → Int → Int) × (Nat → Int64) => ouW cy o u8.2 (obhsW cy a u8.1)) (ouP (fun r9 u9 => r9 = 2 ∧ u9 100 = ups (P 100) 6 0 ∧ backO P u9 2))) 0 0 (va_A (ouW cy o fO (obhsW cy a P)) sz) := by
  refine kMW_start (cc := cL_undo) (maxL := 3) (ret := (some .int)) (by decide) rfl (Nat.le_of_ble_eq_true rfl) ?_
  intro p e s m below meth c hx hb hr hlocks hml hts hown htab hA hG hP hD hS ls hl
  have hK := hG.1
  have hl : lv_has ls 3 [(0, .ref (a 100)), (1, .ref o)] := hl
  have hbody : ∀ (H : Heap) (locs : List Loc) (hP : va_P D vwCl (ouW cy o fO (obhsW cy a P)) H) (hS : va_S (va_A (ouW cy o fO (obhsW cy a P)) sz) s.heap H locs) (ls : Array Slot) (hl : lv_has ls 3 [(0, .ref (a 100)), (1, .ref o)]), W p l e { frames := 5, cells := 0, slots := 0, locals := 113 } s m ([.ref (a 100), .ref o] : List Value).toArray below meth c H locs 0 0 (MQ below (kQi D (ouW cy o fO (obhsW cy a P)) sz (fun u8 : (Nat → Int → Int) × (Nat → Int64) => ouW cy o u8.2 (obhsW cy a u8.1)) (ouP (fun r9 u9 => r9 = 2 ∧ u9 100 = ups (P 100) 6 0 ∧ backO P u9 2))) ([.ref (a 100), .ref o] : List Value).toArray s 0 0 (va_A (ouW cy o fO (obhsW cy a P)) sz)) (F0 m 0 ls []) := by
    intro H locs hP hS ls hl
    refine lv_aload_n hx hb dL_undo_0 rfl (lv_at hl 1 rfl) ?_
    refine k_iconst hx hb dL_undo_1 ?_
    refine lv_aload_n hx hb dL_undo_2 rfl (lv_at hl 0 rfl) ?_
    have hPc := hP.sub (ws' := obhsW cy a P) [1, 2, 3, 4, 5, 6, 7, 8, 9, 10, 11, 12, 13, 14, 15, 16, 17, 18, 19, 20, 21, 22, 23, 24, 25, 26, 27, 28, 29, 30, 31, 32, 33, 34, 35, 36, 37, 38, 39, 40, 41, 42, 43, 44, 45, 46, 47, 48] rfl
    have hDc := hD.sub (ws' := obhsW cy a P) [1, 2, 3, 4, 5, 6, 7, 8, 9, 10, 11, 12, 13, 14, 15, 16, 17, 18, 19, 20, 21, 22, 23, 24, 25, 26, 27, 28, 29, 30, 31, 32, 33, 34, 35, 36, 37, 38, 39, 40, 41, 42, 43, 44, 45, 46, 47, 48] (by decide) rfl
    have hFc := va_free (wc := obhsW cy a P) hD hS hA [1, 2, 3, 4, 5, 6, 7, 8, 9, 10, 11, 12, 13, 14, 15, 16, 17, 18, 19, 20, 21, 22, 23, 24, 25, 26, 27, 28, 29, 30, 31, 32, 33, 34, 35, 36, 37, 38, 39, 40, 41, 42, 43, 44, 45, 46, 47, 48] rfl
    refine k_mui (k_runV (As := []) (rest := [.int (iI 0), .ref o]) ⟨hx, hb, hml, hown, hts⟩ (c_X6_undo_2 l D cy H.size a P hk9 hIp) gL_undo_X6_undo rfl ⟨rfl, rfl⟩ 0 rfl (by decide +kernel) ⟨Nat.le_of_ble_eq_true rfl, Nat.le_of_ble_eq_true rfl⟩ (GG_ok D cy) hG hS hFc hPc hDc (va_recv hK hP (ci := 5) (q0 := 1) rfl rfl) hl.1 rfl (Nat.le_of_ble_eq_true rfl) ⟨Nat.le_of_ble_eq_true rfl, Nat.le_of_ble_eq_true rfl⟩ dL_undo_3) hFc hS (fun r8 u8 H1 locs1 hpost hP1 hD1 hS1 hk1 => ?_)
    have hJ := va_join (wr := [(o, .inl (cy 4, 1, .inr (.inl fO)))]) hP hD [1, 2, 3, 4, 5, 6, 7, 8, 9, 10, 11, 12, 13, 14, 15, 16, 17, 18, 19, 20, 21, 22, 23, 24, 25, 26, 27, 28, 29, 30, 31, 32, 33, 34, 35, 36, 37, 38, 39, 40, 41, 42, 43, 44, 45, 46, 47, 48] [0] rfl rfl (by decide) (by decide) hk1 hFc hP1 hD1
    obtain ⟨hP, hD⟩ := hJ
    have hS := hS1
    refine lv_i2l hx hb dL_undo_6 rfl ?_
    refine va_last hx hb hK hP hD hS 0 4 rfl rfl (i := iI 0) (vp_iI (by decide)) dL_undo_7 (fun H1 locs1 hP hD hS => ?_)
    refine lv_goto (tgt := 14) hx hb dL_undo_8 (by decide) ?_
    refine k_iconst hx hb dL_undo_14 ?_
    exact W.iret (v := iI 0) hx hb hr (fun t9 ht _ => ⟨⟨iI 0, (u8, vp_updL fO (iI 0).toNatClampNeg (iI r8).toInt64), rfl, ⟨0, rfl, rfl, r8, out_0 fO _, hpost⟩, by rw [ht]; exact hP, hD⟩, hS.F ht⟩) hS.2.2 dL_undo_15 hlocks
  exact hbody s.heap [] hP hS ls hl
set_option maxHeartbeats 4000000 in
set_option maxRecDepth 100000 in
theorem c_L_undo_3 (l : Launch) (sz : Nat) (o : Nat) (fO : Nat → Int64) (D : va_G) (cy : Nat → ClassId) (a : Nat → Nat) (P : Nat → Int → Int) (hk9 : P 50 1 = 4) (hIp : Inv (mO (rpg 3 P))) : Met l yL_undo wsL_undo { frames := 5, cells := 0, slots := 0, locals := 113 } (mPre (GG D cy) D (ouW cy o fO (obhsW cy a P)) sz ([.ref (a 100), .ref o] : List Value)) (kQi D (ouW cy o fO (obhsW cy a P)) sz (fun u8 : (Nat → Int → Int) × (Nat → Int64) => ouW cy o u8.2 (obhsW cy a u8.1)) (ouP (fun r9 u9 => r9 = 3 ∧ u9 100 = ups (P 100) 6 0 ∧ backO P u9 3))) 0 0 (va_A (ouW cy o fO (obhsW cy a P)) sz) := by
  refine kMW_start (cc := cL_undo) (maxL := 3) (ret := (some .int)) (by decide) rfl (Nat.le_of_ble_eq_true rfl) ?_
  intro p e s m below meth c hx hb hr hlocks hml hts hown htab hA hG hP hD hS ls hl
  have hK := hG.1
  have hl : lv_has ls 3 [(0, .ref (a 100)), (1, .ref o)] := hl
  have hbody : ∀ (H : Heap) (locs : List Loc) (hP : va_P D vwCl (ouW cy o fO (obhsW cy a P)) H) (hS : va_S (va_A (ouW cy o fO (obhsW cy a P)) sz) s.heap H locs) (ls : Array Slot) (hl : lv_has ls 3 [(0, .ref (a 100)), (1, .ref o)]), W p l e { frames := 5, cells := 0, slots := 0, locals := 113 } s m ([.ref (a 100), .ref o] : List Value).toArray below meth c H locs 0 0 (MQ below (kQi D (ouW cy o fO (obhsW cy a P)) sz (fun u8 : (Nat → Int → Int) × (Nat → Int64) => ouW cy o u8.2 (obhsW cy a u8.1)) (ouP (fun r9 u9 => r9 = 3 ∧ u9 100 = ups (P 100) 6 0 ∧ backO P u9 3))) ([.ref (a 100), .ref o] : List Value).toArray s 0 0 (va_A (ouW cy o fO (obhsW cy a P)) sz)) (F0 m 0 ls []) := by
    intro H locs hP hS ls hl
    refine lv_aload_n hx hb dL_undo_0 rfl (lv_at hl 1 rfl) ?_
    refine k_iconst hx hb dL_undo_1 ?_
    refine lv_aload_n hx hb dL_undo_2 rfl (lv_at hl 0 rfl) ?_
    have hPc := hP.sub (ws' := obhsW cy a P) [1, 2, 3, 4, 5, 6, 7, 8, 9, 10, 11, 12, 13, 14, 15, 16, 17, 18, 19, 20, 21, 22, 23, 24, 25, 26, 27, 28, 29, 30, 31, 32, 33, 34, 35, 36, 37, 38, 39, 40, 41, 42, 43, 44, 45, 46, 47, 48] rfl
    have hDc := hD.sub (ws' := obhsW cy a P) [1, 2, 3, 4, 5, 6, 7, 8, 9, 10, 11, 12, 13, 14, 15, 16, 17, 18, 19, 20, 21, 22, 23, 24, 25, 26, 27, 28, 29, 30, 31, 32, 33, 34, 35, 36, 37, 38, 39, 40, 41, 42, 43, 44, 45, 46, 47, 48] (by decide) rfl
    have hFc := va_free (wc := obhsW cy a P) hD hS hA [1, 2, 3, 4, 5, 6, 7, 8, 9, 10, 11, 12, 13, 14, 15, 16, 17, 18, 19, 20, 21, 22, 23, 24, 25, 26, 27, 28, 29, 30, 31, 32, 33, 34, 35, 36, 37, 38, 39, 40, 41, 42, 43, 44, 45, 46, 47, 48] rfl
    refine k_mui (k_runV (As := []) (rest := [.int (iI 0), .ref o]) ⟨hx, hb, hml, hown, hts⟩ (c_X6_undo_3 l D cy H.size a P hk9 hIp) gL_undo_X6_undo rfl ⟨rfl, rfl⟩ 0 rfl (by decide +kernel) ⟨Nat.le_of_ble_eq_true rfl, Nat.le_of_ble_eq_true rfl⟩ (GG_ok D cy) hG hS hFc hPc hDc (va_recv hK hP (ci := 5) (q0 := 1) rfl rfl) hl.1 rfl (Nat.le_of_ble_eq_true rfl) ⟨Nat.le_of_ble_eq_true rfl, Nat.le_of_ble_eq_true rfl⟩ dL_undo_3) hFc hS (fun r8 u8 H1 locs1 hpost hP1 hD1 hS1 hk1 => ?_)
    have hJ := va_join (wr := [(o, .inl (cy 4, 1, .inr (.inl fO)))]) hP hD [1, 2, 3, 4, 5, 6, 7, 8, 9, 10, 11, 12, 13, 14, 15, 16, 17, 18, 19, 20, 21, 22, 23, 24, 25, 26, 27, 28, 29, 30, 31, 32, 33, 34, 35, 36, 37, 38, 39, 40, 41, 42, 43, 44, 45, 46, 47, 48] [0] rfl rfl (by decide) (by decide) hk1 hFc hP1 hD1
    obtain ⟨hP, hD⟩ := hJ
    have hS := hS1
    refine lv_i2l hx hb dL_undo_6 rfl ?_
    refine va_last hx hb hK hP hD hS 0 4 rfl rfl (i := iI 0) (vp_iI (by decide)) dL_undo_7 (fun H1 locs1 hP hD hS => ?_)
    refine lv_goto (tgt := 14) hx hb dL_undo_8 (by decide) ?_
    refine k_iconst hx hb dL_undo_14 ?_
    exact W.iret (v := iI 0) hx hb hr (fun t9 ht _ => ⟨⟨iI 0, (u8, vp_updL fO (iI 0).toNatClampNeg (iI r8).toInt64), rfl, ⟨0, rfl, rfl, r8, out_0 fO _, hpost⟩, by rw [ht]; exact hP, hD⟩, hS.F ht⟩) hS.2.2 dL_undo_15 hlocks
  exact hbody s.heap [] hP hS ls hl
set_option maxHeartbeats 4000000 in
set_option maxRecDepth 100000 in
theorem c_L_undo_t3 (l : Launch) (hl9 : l.stackTraces = false) (sz : Nat) (o : Nat) (D : va_G) (cy : Nat → ClassId) (a : Nat → Nat) (P : Nat → Int → Int) (hno : P 50 1 = 0) : Met l yL_undo wsL_undo { frames := 8, cells := 1, slots := 6, locals := 138 } (mPre (GX D cy) D (obhsW cy a P) sz ([.ref (a 100), .ref o] : List Value)) (kQi D (obhsW cy a P) sz (fun _ : Unit => obhsW cy a P) (fun r _ => r = 1)) 1 6 (va_A (obhsW cy a P) sz) := by
  refine kMW_start (cc := cL_undo) (maxL := 3) (ret := (some .int)) (by decide) rfl (Nat.le_of_ble_eq_true rfl) ?_
  intro p e s m below meth c hx hb hr hlocks hml hts hown htab hA hG hP hD hS ls hl
  have hK := hG.1.1.1
  have hl : lv_has ls 3 [(0, .ref (a 100)), (1, .ref o)] := hl
  have hbody : ∀ (H : Heap) (locs : List Loc) (hP : va_P D vwCl (obhsW cy a P) H) (hS : va_S (va_A (obhsW cy a P) sz) s.heap H locs) (ls : Array Slot) (hl : lv_has ls 3 [(0, .ref (a 100)), (1, .ref o)]), W p l e { frames := 8, cells := 1, slots := 6, locals := 138 } s m ([.ref (a 100), .ref o] : List Value).toArray below meth c H locs 0 0 (MQ below (kQi D (obhsW cy a P) sz (fun _ : Unit => obhsW cy a P) (fun r _ => r = 1)) ([.ref (a 100), .ref o] : List Value).toArray s 1 6 (va_A (obhsW cy a P) sz)) (F0 m 0 ls []) := by
    intro H locs hP hS ls hl
    refine lv_aload_n hx hb dL_undo_0 rfl (lv_at hl 1 rfl) ?_
    refine k_iconst hx hb dL_undo_1 ?_
    refine lv_aload_n hx hb dL_undo_2 rfl (lv_at hl 0 rfl) ?_
    refine k_thV (As := []) (rest := [.int (iI 0), .ref o]) ⟨hx, hb, hml, hown, hts⟩ (c_X6_undo_t3 l hl9 D cy a P hno) gL_undo_X6_undo rfl ⟨rfl, rfl⟩ 0 rfl (by decide +kernel) ⟨Nat.le_of_ble_eq_true rfl, Nat.le_of_ble_eq_true rfl⟩ (GX_ok D cy) ((GX_ok D cy).2.2.2 _ _ _ _ (fun _ h => h.elim) ((GX_ok D cy).1 _ _ _ _ hS.2.1 hG)) hP (va_recv hK hP (ci := 5) (q0 := 0) rfl rfl) hl.1 rfl (Nat.le_of_ble_eq_true rfl) ⟨Nat.le_of_ble_eq_true rfl, Nat.le_of_ble_eq_true rfl⟩ dL_undo_3 (fun ce q9 H1 z1 o1 e1 v1 f1 => ?_)
    refine vx_catch (E := exN 2) (name := exN 2) hown (tableOf []) ⟨0, 8, 11, 13⟩ (tableOf []) (by rw [htab]; rfl) (fun z h => by cases h) (by decide) (by decide) (hts (.classLink RL 13 (exN 2)) (by decide +kernel)) (va_Nw.use rfl (hG.2.1 2 (by decide)).2.1) e1 v1 f1 ?_
    have hP1 := P_grow hP o1
    have hS1 := S_grow hS z1 o1
    refine lv_astore_n (lv' := [(2, .ref q9), (0, .ref (a 100)), (1, .ref o)]) hx hb dL_undo_11 rfl hl (by decide) rfl (fun ls hl => ?_)
    refine k_iconst hx hb dL_undo_12 ?_
    exact W.iret (v := iI 1) hx hb hr (fun t9 ht _ => ⟨⟨iI 1, (), rfl, ⟨1, rfl, rfl⟩, by rw [ht]; exact hP1, hD⟩, hS1.F ht⟩) hS1.2.2 dL_undo_13 hlocks
  exact hbody s.heap [] hP hS ls hl
