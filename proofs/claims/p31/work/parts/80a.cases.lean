/-! the law's rounds: what one of them does -/
def zC (p : Program) (l : Launch) (s : State) (m : MethodId) (c : Code) (b L : Nat) (xs : Nat → Int32) (D : va_G) (cy : Nat → ClassId) : Prop :=
  (p.tables.exec = Jvm.exec ∧ c.code = cL_law ∧ c.maxLocals = 15 ∧ s.vm.findClass RL = some m.cls) ∧ (∀ w ∈ wsL_law, w.before #[Value.ref b] s = true) ∧ (va_X b L xs s s.heap ∧ b < s.heap.size ∧ L ≤ 260) ∧ GX D cy (fun q : Nat => s.heap.size ≤ q) s s.heap ∧ l.stackTraces = false
/-- where a round's change ends -/
def zK (p : Program) (l : Launch) (e : Env) (s : State) (m : MethodId) (below : List Frame) (meth : Method) (c : Code) (b : Nat) (D : va_G) (cy : Nat → ClassId) (Q : State → Prop) (o : Nat) (i y : Int) (k9 n9 : Nat) : Prop :=
  ∀ (M : Int → Int) (n : Int) (K : Nat → Int → Int) (cells slots : Nat) (_ : 1 ≤ M 12) (_ : cells ≤ k9 ∧ slots ≤ n9) (H : Heap) (locs : List Loc) (_ : OW D cy (fun q : Nat => s.heap.size ≤ q) s.heap o M n K H locs) (ls : Array Slot) (_ : lv_has ls 15 [(4, .int (iI y)), (2, .int (iI i)), (1, .ref o), (0, .ref b)]), W p l e room_1 s m #[Value.ref b] below meth c H locs cells slots Q (F0 m 1141 ls [])
/-- where a round ends -/
def zN (p : Program) (l : Launch) (e : Env) (s : State) (m : MethodId) (below : List Frame) (meth : Method) (c : Code) (b : Nat) (D : va_G) (cy : Nat → ClassId) (Q : State → Prop) (o : Nat) (i : Int) (k9 n9 : Nat) : Prop :=
  ∀ (M : Int → Int) (n : Int) (K : Nat → Int → Int) (cells slots : Nat) (_ : 1 ≤ M 12) (_ : cells ≤ k9 ∧ slots ≤ n9) (H : Heap) (locs : List Loc) (_ : OW D cy (fun q : Nat => s.heap.size ≤ q) s.heap o M n K H locs) (ls : Array Slot) (_ : lv_has ls 15 [(2, .int (iI (i + 1))), (1, .ref o), (0, .ref b)]), W p l e room_1 s m #[Value.ref b] below meth c H locs cells slots Q (F0 m 56 ls [])
theorem set_rg {M : Int → Int} (hI : Inv M) {w : Int} (h : 0 ≤ w ∧ w ≤ 9) : -1000000 ≤ M w ∧ M w ≤ 1000000 := by
  have hS := hI.1
  unfold InvS at hS
  rcases (show w = 0 ∨ w = 1 ∨ w = 2 ∨ w = 3 ∨ w = 4 ∨ w = 5 ∨ w = 6 ∨ w = 7 ∨ w = 8 ∨ w = 9 by omega) with e | e | e | e | e | e | e | e | e | e <;> subst e <;> omega
set_option maxHeartbeats 8000000 in
set_option maxRecDepth 100000 in
theorem zc_addTrail {p : Program} {l : Launch} {e : Env} {s : State} {m : MethodId} {below : List Frame} {meth : Method} {c : Code} {b L : Nat} {xs : Nat → Int32} {D : va_G} {cy : Nat → ClassId} {Q : State → Prop} {o : Nat} (C : zC p l s m c b L xs D cy) {i y : Int} {cells slots : Nat} (hk : zK p l e s m below meth c b D cy Q o i y (cells + 60) (slots + 360)) (hroom : cells + 60 ≤ 800000 ∧ slots + 360 ≤ 6000000) (M : Int → Int) (n : Int) (K : Nat → Int → Int) (x : Int)   (H : Heap) (locs : List Loc) (hW : OW D cy (fun q : Nat => s.heap.size ≤ q) s.heap o M n K H locs) (ls : Array Slot) (hl : lv_has ls 15 [(6, .int (iI (M 13))), (5, .int (iI (M 12))), (4, .int (iI y)), (3, .int (iI x)), (2, .int (iI i)), (1, .ref o), (0, .ref b)]) : W p l e room_1 s m #[Value.ref b] below meth c H locs cells slots Q (F0 m 156 ls []) := by
  obtain ⟨⟨hx, hb, hml, hown⟩, hts, ⟨hX, hbl, hL⟩, hGX, hst⟩ := id C
  have hA : ∀ q : Nat, s.heap.size ≤ q → (fun q : Nat => s.heap.size ≤ q) q := fun _ h => h
  have hI := hW.inv
  have hS12 := inv_S12 hI
  have hS0 := hI.1
  unfold InvS at hS0
  have hnn := hW.nn
  have hmw0 := hts (.constant RL 17 (-9020000)) (law_r1 _ (List.mem_of_getElem? (i := 3) rfl))
  refine lv_aload_n hx hb dL_law_156 rfl (lv_at hl 5 rfl) ?_
  by_cases c_1 : M 12 < 12
  · skip
    have hc9 := c_1
    refine q_call0 (As := []) (rest := []) ⟨hx, hb, hml, hown, hts⟩ hGX hA (k_addTrail l D cy o M n K (show M 12 < 12 from hc9)) gL_law_L_addTrail rfl ⟨rfl, rfl⟩ 1 rfl (by decide +kernel) ⟨Nat.le_of_ble_eq_true rfl, Nat.le_of_ble_eq_true rfl⟩ hW hl.1 rfl (Nat.le_of_ble_eq_true rfl) ⟨show cells ≤ 856056 by omega, show slots ≤ 6533457 by omega⟩ dL_law_157 (fun r_2 M_2 n_2 K_2 H locs hp hW => ?_)
    obtain ⟨rfl, hM2, rfl, rfl⟩ := hp
    have hkp2 := kp_spec n
    have hI2 := hW.inv
    have hla := at_law hI hM2
    refine lv_iload hx hb dL_law_160 (lv_at hl 1 rfl) ?_
    refine k_bipush hx hb dL_law_162 (by decide +kernel) ?_
    refine k_icmp_ne (tgt := 172) hx hb dL_law_164 (by decide) (by omega) (by omega) (fun c_3 => ?_) (fun c_3 => ?_)
    · skip
      refine lv_iload hx hb dL_law_172 (lv_at hl 1 rfl) ?_
      refine k_icmp_eq (tgt := 1141) hx hb dL_law_174 (by decide) (by omega) (by omega) (fun c_4 => ?_) (fun c_4 => ?_)
      · skip
        exact hk M_2 (kpN n) (csF M K) cells slots (by omega) (by omega) H locs hW ls (lv_sub hl [2, 4, 5, 6] rfl)
      · exfalso; omega
    · exfalso; omega
  · skip
    refine q_call1 (As := []) (rest := []) ⟨hx, hb, hml, hown, hts⟩ hGX hA (k_addTrail_t l hst D cy o M n K (show M 12 = 12 from by omega)) gL_law_L_addTrail rfl ⟨rfl, rfl⟩ 1 rfl (by decide +kernel) ⟨Nat.le_of_ble_eq_true rfl, Nat.le_of_ble_eq_true rfl⟩ hW hl.1 rfl (Nat.le_of_ble_eq_true rfl) ⟨show cells + 1 ≤ 856056 by omega, show slots + 6 ≤ 6533457 by omega⟩ dL_law_157 (fun r_5 M_5 n_5 K_5 H locs hp hW => ?_)
    obtain ⟨rfl, rfl, rfl, rfl⟩ := hp
    refine lv_iload hx hb dL_law_160 (lv_at hl 1 rfl) ?_
    refine k_bipush hx hb dL_law_162 (by decide +kernel) ?_
    refine k_icmp_ne (tgt := 172) hx hb dL_law_164 (by decide) (by omega) (by omega) (fun c_6 => ?_) (fun c_6 => ?_)
    · exfalso; omega
    · skip
      refine k_ldc (z := (-9020000)) hx hb hown hmw0 (by decide +kernel) dL_law_167 ?_
      refine lv_goto (tgt := 174) hx hb dL_law_169 (by decide) ?_
      refine k_icmp_eq (tgt := 1141) hx hb dL_law_174 (by decide) (by omega) (by omega) (fun c_7 => ?_) (fun c_7 => ?_)
      · skip
        exact hk M n K (cells + 1) (slots + 6) (by omega) (by omega) H locs hW ls (lv_sub hl [2, 4, 5, 6] rfl)
      · exfalso; omega
set_option maxHeartbeats 8000000 in
set_option maxRecDepth 100000 in
theorem zc_addPoint {p : Program} {l : Launch} {e : Env} {s : State} {m : MethodId} {below : List Frame} {meth : Method} {c : Code} {b L : Nat} {xs : Nat → Int32} {D : va_G} {cy : Nat → ClassId} {Q : State → Prop} {o : Nat} (C : zC p l s m c b L xs D cy) {i y : Int} {cells slots : Nat} (hk : zK p l e s m below meth c b D cy Q o i y (cells + 60) (slots + 360)) (hroom : cells + 60 ≤ 800000 ∧ slots + 360 ≤ 6000000) (M : Int → Int) (n : Int) (K : Nat → Int → Int) (x t w7 : Int)  (hry : -2147483648 ≤ y ∧ y ≤ 2147483647) (ht0 : 0 ≤ t) (ht1 : t < M 12) (H : Heap) (locs : List Loc) (hW : OW D cy (fun q : Nat => s.heap.size ≤ q) s.heap o M n K H locs) (ls : Array Slot) (hl : lv_has ls 15 [(8, .int (iI t)), (7, .int (iI w7)), (6, .int (iI (M 13))), (5, .int (iI (M 12))), (4, .int (iI y)), (3, .int (iI x)), (2, .int (iI i)), (1, .ref o), (0, .ref b)]) : W p l e room_1 s m #[Value.ref b] below meth c H locs cells slots Q (F0 m 199 ls []) := by
  obtain ⟨⟨hx, hb, hml, hown⟩, hts, ⟨hX, hbl, hL⟩, hGX, hst⟩ := id C
  have hA : ∀ q : Nat, s.heap.size ≤ q → (fun q : Nat => s.heap.size ≤ q) q := fun _ h => h
  have hI := hW.inv
  have hS12 := inv_S12 hI
  have hS0 := hI.1
  unfold InvS at hS0
  have hnn := hW.nn
  have hpt := inv_pts hI ht0 ht1
  have hmw0 := hts (.constant RL 17 (-9020000)) (law_r1 _ (List.mem_of_getElem? (i := 3) rfl))
  refine lv_aload_n hx hb dL_law_199 rfl (lv_at hl 7 rfl) ?_
  refine lv_iload hx hb dL_law_200 (lv_at hl 0 rfl) ?_
  refine k_iconst hx hb dL_law_202 ?_
  refine q_call0 (As := [.int (iI t), .int (iI 0)]) (rest := []) ⟨hx, hb, hml, hown, hts⟩ hGX hA (ck_ans (k_trail l D cy o M n K t 0 (show 0 ≤ t from by omega) (show t < M 12 from by omega) (show 0 ≤ (0 : Int) ∧ (0 : Int) ≤ 8 from by omega)) (show trV M (mat M (M 8)).1 t (0 : Int) = pts M t from tr_0 M _ t)) gL_law_L_trail rfl ⟨rfl, rfl⟩ 3 rfl (by decide +kernel) ⟨Nat.le_of_ble_eq_true rfl, Nat.le_of_ble_eq_true rfl⟩ hW hl.1 rfl (Nat.le_of_ble_eq_true rfl) ⟨show cells ≤ 856056 by omega, show slots ≤ 6533457 by omega⟩ dL_law_203 (fun r_1 M_1 n_1 K_1 H locs hp hW => ?_)
  obtain ⟨rfl, rfl, rfl, rfl⟩ := hp
  refine lv_istore (lv' := [(9, .int (iI (pts M t))), (8, .int (iI t)), (7, .int (iI w7)), (6, .int (iI (M 13))), (5, .int (iI (M 12))), (4, .int (iI y)), (3, .int (iI x)), (2, .int (iI i)), (1, .ref o), (0, .ref b)]) hx hb dL_law_206 hl (by decide) rfl (fun ls hl => ?_)
  refine lv_iload hx hb dL_law_208 (lv_at hl 5 rfl) ?_
  refine lv_iload hx hb dL_law_210 (lv_at hl 5 rfl) ?_
  refine k_bipush hx hb dL_law_212 (by decide +kernel) ?_
  refine k_ishr hx hb dL_law_214 (by omega) (by omega) ?_
  refine k_iconst hx hb dL_law_215 ?_
  refine k_roS (As := [.int (iI (y / 2 ^ (20 : Int).toNat)), .int (iI 4)]) (rest := [.int (iI y)]) ⟨hx, hb, hml, hown, hts⟩ (c_L_low l D (y / 2 ^ (20 : Int).toNat) 4 (by omega)) gL_law_L_low rfl ⟨rfl, rfl⟩ 2 rfl (by decide +kernel) ⟨Nat.le_of_ble_eq_true rfl, Nat.le_of_ble_eq_true rfl⟩ kGT_ok trivial (fun k q h => by simp at h) hl.1 rfl (Nat.le_of_ble_eq_true rfl) ⟨show cells ≤ 856056 by omega, show slots ≤ 6533457 by omega⟩ dL_law_216 (fun r_2 hr_2 => ?_)
  have hr_2 : r_2 = lwF (y / 2 ^ (20 : Int).toNat) 4 := hr_2
  subst hr_2
  have hlw2 := lw_bd (y / 2 ^ (20 : Int).toNat) (show 0 < (4 : Int) by omega)
  have join230 : ∀ (z0 : Int) (ji0 : 0 < z0 ∧ z0 ≤ 1001) (ls : Array Slot) (hl : lv_has ls 15 [(9, .int (iI (pts M t))), (8, .int (iI t)), (7, .int (iI w7)), (6, .int (iI (M 13))), (5, .int (iI (M 12))), (4, .int (iI y)), (3, .int (iI x)), (2, .int (iI i)), (1, .ref o), (0, .ref b)]), W p l e room_1 s m #[Value.ref b] below meth c H locs cells slots Q (F0 m 230 ls [.int (iI z0), .int (iI y)]) := by
    intro z0 ji0 ls hl
    refine k_roS (As := [.int (iI y), .int (iI z0)]) (rest := []) ⟨hx, hb, hml, hown, hts⟩ (c_L_low l D y z0 (by omega)) gL_law_L_low rfl ⟨rfl, rfl⟩ 2 rfl (by decide +kernel) ⟨Nat.le_of_ble_eq_true rfl, Nat.le_of_ble_eq_true rfl⟩ kGT_ok trivial (fun k q h => by simp at h) hl.1 rfl (Nat.le_of_ble_eq_true rfl) ⟨show cells ≤ 856056 by omega, show slots ≤ 6533457 by omega⟩ dL_law_230 (fun r_3 hr_3 => ?_)
    have hr_3 : r_3 = lwF y z0 := hr_3
    subst hr_3
    have hlw3 := lw_bd y (show 0 < z0 by omega)
    obtain ⟨f, hfe, hf0⟩ : ∃ f : Int, f = (lwF y z0) ∧ 0 ≤ f ∧ f ≤ 1000 := ⟨_, rfl, by omega, by omega⟩
    rw [← hfe]
    refine lv_istore (lv' := [(10, .int (iI f)), (9, .int (iI (pts M t))), (8, .int (iI t)), (7, .int (iI w7)), (6, .int (iI (M 13))), (5, .int (iI (M 12))), (4, .int (iI y)), (3, .int (iI x)), (2, .int (iI i)), (1, .ref o), (0, .ref b)]) hx hb dL_law_233 hl (by decide) rfl (fun ls hl => ?_)
    refine k_sipush hx hb dL_law_235 (by decide +kernel) ?_
    refine lv_iload hx hb dL_law_238 (lv_at hl 6 rfl) ?_
    refine k_iconst hx hb dL_law_240 ?_
    refine k_ishr hx hb dL_law_241 (by omega) (by omega) ?_
    refine k_sipush hx hb dL_law_242 (by decide +kernel) ?_
    refine k_roS (As := [.int (iI (y / 2 ^ (3 : Int).toNat)), .int (iI 600)]) (rest := [.int (iI 1700)]) ⟨hx, hb, hml, hown, hts⟩ (c_L_low l D (y / 2 ^ (3 : Int).toNat) 600 (by omega)) gL_law_L_low rfl ⟨rfl, rfl⟩ 2 rfl (by decide +kernel) ⟨Nat.le_of_ble_eq_true rfl, Nat.le_of_ble_eq_true rfl⟩ kGT_ok trivial (fun k q h => by simp at h) hl.1 rfl (Nat.le_of_ble_eq_true rfl) ⟨show cells ≤ 856056 by omega, show slots ≤ 6533457 by omega⟩ dL_law_245 (fun r_4 hr_4 => ?_)
    have hr_4 : r_4 = lwF (y / 2 ^ (3 : Int).toNat) 600 := hr_4
    subst hr_4
    have hlw4 := lw_bd (y / 2 ^ (3 : Int).toNat) (show 0 < (600 : Int) by omega)
    refine k_iadd hx hb dL_law_248 ?_
    obtain ⟨px, hxe, hpx0⟩ : ∃ f : Int, f = (1700 + (lwF (y / 2 ^ (3 : Int).toNat) 600)) ∧ 0 ≤ f ∧ f ≤ 4000 := ⟨_, rfl, by omega, by omega⟩
    rw [← hxe]
    refine lv_istore (lv' := [(11, .int (iI px)), (10, .int (iI f)), (9, .int (iI (pts M t))), (8, .int (iI t)), (7, .int (iI w7)), (6, .int (iI (M 13))), (5, .int (iI (M 12))), (4, .int (iI y)), (3, .int (iI x)), (2, .int (iI i)), (1, .ref o), (0, .ref b)]) hx hb dL_law_249 hl (by decide) rfl (fun ls hl => ?_)
    refine k_sipush hx hb dL_law_251 (by decide +kernel) ?_
    refine lv_iload hx hb dL_law_254 (lv_at hl 7 rfl) ?_
    refine k_bipush hx hb dL_law_256 (by decide +kernel) ?_
    refine k_ishr hx hb dL_law_258 (by omega) (by omega) ?_
    refine k_sipush hx hb dL_law_259 (by decide +kernel) ?_
    refine k_roS (As := [.int (iI (y / 2 ^ (9 : Int).toNat)), .int (iI 600)]) (rest := [.int (iI 1700)]) ⟨hx, hb, hml, hown, hts⟩ (c_L_low l D (y / 2 ^ (9 : Int).toNat) 600 (by omega)) gL_law_L_low rfl ⟨rfl, rfl⟩ 2 rfl (by decide +kernel) ⟨Nat.le_of_ble_eq_true rfl, Nat.le_of_ble_eq_true rfl⟩ kGT_ok trivial (fun k q h => by simp at h) hl.1 rfl (Nat.le_of_ble_eq_true rfl) ⟨show cells ≤ 856056 by omega, show slots ≤ 6533457 by omega⟩ dL_law_262 (fun r_5 hr_5 => ?_)
    have hr_5 : r_5 = lwF (y / 2 ^ (9 : Int).toNat) 600 := hr_5
    subst hr_5
    have hlw5 := lw_bd (y / 2 ^ (9 : Int).toNat) (show 0 < (600 : Int) by omega)
    refine k_iadd hx hb dL_law_265 ?_
    obtain ⟨py, hye, hpy0⟩ : ∃ f : Int, f = (1700 + (lwF (y / 2 ^ (9 : Int).toNat) 600)) ∧ 0 ≤ f ∧ f ≤ 4000 := ⟨_, rfl, by omega, by omega⟩
    rw [← hye]
    refine lv_istore (lv' := [(12, .int (iI py)), (11, .int (iI px)), (10, .int (iI f)), (9, .int (iI (pts M t))), (8, .int (iI t)), (7, .int (iI w7)), (6, .int (iI (M 13))), (5, .int (iI (M 12))), (4, .int (iI y)), (3, .int (iI x)), (2, .int (iI i)), (1, .ref o), (0, .ref b)]) hx hb dL_law_266 hl (by decide) rfl (fun ls hl => ?_)
    refine k_iconst hx hb dL_law_268 ?_
    refine lv_istore (lv' := [(13, .int (iI 0)), (12, .int (iI py)), (11, .int (iI px)), (10, .int (iI f)), (9, .int (iI (pts M t))), (8, .int (iI t)), (7, .int (iI w7)), (6, .int (iI (M 13))), (5, .int (iI (M 12))), (4, .int (iI y)), (3, .int (iI x)), (2, .int (iI i)), (1, .ref o), (0, .ref b)]) hx hb dL_law_269 hl (by decide) rfl (fun ls hl => ?_)
    refine k_iconst hx hb dL_law_271 ?_
    have join313 : ∀ (y13 : Int) (jey13 : y13 = hvF M t f (pts M t)) (H : Heap) (locs : List Loc) (hW : OW D cy (fun q : Nat => s.heap.size ≤ q) s.heap o M n K H locs) (ls : Array Slot) (hl : lv_has ls 15 [(12, .int (iI py)), (11, .int (iI px)), (10, .int (iI f)), (9, .int (iI (pts M t))), (8, .int (iI t)), (7, .int (iI w7)), (6, .int (iI (M 13))), (5, .int (iI (M 12))), (4, .int (iI y)), (3, .int (iI x)), (2, .int (iI i)), (1, .ref o), (0, .ref b), (13, .int (iI y13))]), W p l e room_1 s m #[Value.ref b] below meth c H locs cells slots Q (F0 m 313 ls []) := by
      intro y13 jey13 H locs hW ls hl
      subst jey13
      have hh01 := hv_01 M t f (pts M t)
      refine lv_aload_n hx hb dL_law_313 rfl (lv_at hl 11 rfl) ?_
      refine lv_iload hx hb dL_law_314 (lv_at hl 4 rfl) ?_
      refine lv_iload hx hb dL_law_316 (lv_at hl 2 rfl) ?_
      refine lv_iload hx hb dL_law_318 (lv_at hl 1 rfl) ?_
      refine lv_iload hx hb dL_law_320 (lv_at hl 0 rfl) ?_
      by_cases c_6 : pts M t < 12 ∧ hvF M t f (pts M t) = 0
      · skip
        have hc9 := c_6
        have hnf := hv_no hpt.1 hc9.2
        refine q_call0 (As := [.int (iI t), .int (iI f), .int (iI px), .int (iI py)]) (rest := []) ⟨hx, hb, hml, hown, hts⟩ hGX hA (k_addPoint l D cy o M n K t f px py (show 0 ≤ t from by omega) (show t < M 12 from by omega) (show pointOK f px py from ⟨hf0, hpx0, hpy0⟩) (show pts M t < 12 from hc9.1) (show ¬ hasF M t f from hnf)) gL_law_L_addPoint rfl ⟨rfl, rfl⟩ 5 rfl (by decide +kernel) ⟨Nat.le_of_ble_eq_true rfl, Nat.le_of_ble_eq_true rfl⟩ hW hl.1 rfl (Nat.le_of_ble_eq_true rfl) ⟨show cells ≤ 856056 by omega, show slots ≤ 6533457 by omega⟩ dL_law_322 (fun r_7 M_7 n_7 K_7 H locs hp hW => ?_)
        obtain ⟨rfl, hM7, rfl, rfl⟩ := hp
        have hkp7 := kp_spec n
        have hI7 := hW.inv
        have hla := ap_law hI ht0 ht1 hnf hM7
        refine lv_istore (lv' := [(14, .int (iI (posF M t f))), (12, .int (iI py)), (11, .int (iI px)), (10, .int (iI f)), (9, .int (iI (pts M t))), (8, .int (iI t)), (7, .int (iI w7)), (6, .int (iI (M 13))), (5, .int (iI (M 12))), (4, .int (iI y)), (3, .int (iI x)), (2, .int (iI i)), (1, .ref o), (0, .ref b), (13, .int (iI (hvF M t f (pts M t))))]) hx hb dL_law_325 hl (by decide) rfl (fun ls hl => ?_)
        refine lv_iload hx hb dL_law_327 (lv_at hl 0 rfl) ?_
        refine k_ldc (z := (-9020000)) hx hb hown hmw0 (by decide +kernel) dL_law_329 ?_
        refine k_icmp_eq (tgt := 338) hx hb dL_law_331 (by decide) (by omega) (by omega) (fun c_8 => ?_) (fun c_8 => ?_)
        · exfalso; omega
        · skip
          refine k_iconst hx hb dL_law_334 ?_
          refine lv_goto (tgt := 339) hx hb dL_law_335 (by decide) ?_
          refine lv_iload hx hb dL_law_339 (lv_at hl 4 rfl) ?_
          refine k_bipush hx hb dL_law_341 (by decide +kernel) ?_
          refine k_icmp_ge (tgt := 355) hx hb dL_law_343 (by decide) (by omega) (by omega) (fun c_9 => ?_) (fun c_9 => ?_)
          · exfalso; omega
          · skip
            refine lv_iload hx hb dL_law_346 (lv_at hl 14 rfl) ?_
            refine k_if_ne (tgt := 355) hx hb dL_law_348 (by decide) (by omega) (fun c_10 => ?_) (fun c_10 => ?_)
            · exfalso; omega
            · skip
              refine k_iconst hx hb dL_law_351 ?_
              refine lv_goto (tgt := 356) hx hb dL_law_352 (by decide) ?_
              refine k_icmp_ne (tgt := 420) hx hb dL_law_356 (by decide) (by omega) (by omega) (fun c_11 => ?_) (fun c_11 => ?_)
              · exfalso; omega
              · skip
                refine lv_iload hx hb dL_law_359 (lv_at hl 0 rfl) ?_
                refine k_if_lt (tgt := 422) hx hb dL_law_361 (by decide) (by omega) (fun c_12 => ?_) (fun c_12 => ?_)
                · exfalso; omega
                · skip
                  refine lv_aload_n hx hb dL_law_364 rfl (lv_at hl 12 rfl) ?_
                  refine lv_iload hx hb dL_law_365 (lv_at hl 5 rfl) ?_
                  refine lv_iload hx hb dL_law_367 (lv_at hl 0 rfl) ?_
                  refine k_iconst hx hb dL_law_369 ?_
                  refine q_call0 (As := [.int (iI t), .int (iI (posF M t f)), .int (iI 0)]) (rest := []) ⟨hx, hb, hml, hown, hts⟩ hGX hA (ck_ans (k_point l D cy o M_7 (kpN n) (csF M K) t (posF M t f) 0 (show 0 ≤ t from by omega) (show t < M_7 12 from by omega) (show 0 ≤ (posF M t f) from by omega) (show (posF M t f) < pts M_7 t from by omega) (show 0 ≤ (0 : Int) ∧ (0 : Int) ≤ 6 from by omega)) (show ptV M_7 t (posF M t f) (0 : Int) = f from by rw [pt_0]; exact hla.2.1.1)) gL_law_L_point rfl ⟨rfl, rfl⟩ 4 rfl (by decide +kernel) ⟨Nat.le_of_ble_eq_true rfl, Nat.le_of_ble_eq_true rfl⟩ hW hl.1 rfl (Nat.le_of_ble_eq_true rfl) ⟨show cells ≤ 856056 by omega, show slots ≤ 6533457 by omega⟩ dL_law_370 (fun r_13 M_13 n_13 K_13 H locs hp hW => ?_)
                  obtain ⟨rfl, rfl, rfl, rfl⟩ := hp
                  refine lv_iload hx hb dL_law_373 (lv_at hl 3 rfl) ?_
                  refine k_icmp_ne (tgt := 420) hx hb dL_law_375 (by decide) (by omega) (by omega) (fun c_14 => ?_) (fun c_14 => ?_)
                  · exfalso; omega
                  · skip
                    refine lv_aload_n hx hb dL_law_378 rfl (lv_at hl 12 rfl) ?_
                    refine lv_iload hx hb dL_law_379 (lv_at hl 5 rfl) ?_
                    refine lv_iload hx hb dL_law_381 (lv_at hl 0 rfl) ?_
                    refine k_iconst hx hb dL_law_383 ?_
                    refine q_call0 (As := [.int (iI t), .int (iI (posF M t f)), .int (iI 1)]) (rest := []) ⟨hx, hb, hml, hown, hts⟩ hGX hA (ck_ans (k_point l D cy o M_7 (kpN n) (csF M K) t (posF M t f) 1 (show 0 ≤ t from by omega) (show t < M_7 12 from by omega) (show 0 ≤ (posF M t f) from by omega) (show (posF M t f) < pts M_7 t from by omega) (show 0 ≤ (1 : Int) ∧ (1 : Int) ≤ 6 from by omega)) (show ptV M_7 t (posF M t f) (1 : Int) = px from by rw [pt_1]; exact hla.2.1.2.1)) gL_law_L_point rfl ⟨rfl, rfl⟩ 4 rfl (by decide +kernel) ⟨Nat.le_of_ble_eq_true rfl, Nat.le_of_ble_eq_true rfl⟩ hW hl.1 rfl (Nat.le_of_ble_eq_true rfl) ⟨show cells ≤ 856056 by omega, show slots ≤ 6533457 by omega⟩ dL_law_384 (fun r_15 M_15 n_15 K_15 H locs hp hW => ?_)
                    obtain ⟨rfl, rfl, rfl, rfl⟩ := hp
                    refine lv_iload hx hb dL_law_387 (lv_at hl 2 rfl) ?_
                    refine k_icmp_ne (tgt := 420) hx hb dL_law_389 (by decide) (by omega) (by omega) (fun c_16 => ?_) (fun c_16 => ?_)
                    · exfalso; omega
                    · skip
                      refine lv_aload_n hx hb dL_law_392 rfl (lv_at hl 12 rfl) ?_
                      refine lv_iload hx hb dL_law_393 (lv_at hl 5 rfl) ?_
                      refine lv_iload hx hb dL_law_395 (lv_at hl 0 rfl) ?_
                      refine k_iconst hx hb dL_law_397 ?_
                      refine q_call0 (As := [.int (iI t), .int (iI (posF M t f)), .int (iI 2)]) (rest := []) ⟨hx, hb, hml, hown, hts⟩ hGX hA (ck_ans (k_point l D cy o M_7 (kpN n) (csF M K) t (posF M t f) 2 (show 0 ≤ t from by omega) (show t < M_7 12 from by omega) (show 0 ≤ (posF M t f) from by omega) (show (posF M t f) < pts M_7 t from by omega) (show 0 ≤ (2 : Int) ∧ (2 : Int) ≤ 6 from by omega)) (show ptV M_7 t (posF M t f) (2 : Int) = py from by rw [pt_2]; exact hla.2.1.2.2)) gL_law_L_point rfl ⟨rfl, rfl⟩ 4 rfl (by decide +kernel) ⟨Nat.le_of_ble_eq_true rfl, Nat.le_of_ble_eq_true rfl⟩ hW hl.1 rfl (Nat.le_of_ble_eq_true rfl) ⟨show cells ≤ 856056 by omega, show slots ≤ 6533457 by omega⟩ dL_law_398 (fun r_17 M_17 n_17 K_17 H locs hp hW => ?_)
                      obtain ⟨rfl, rfl, rfl, rfl⟩ := hp
                      refine lv_iload hx hb dL_law_401 (lv_at hl 1 rfl) ?_
                      refine k_icmp_ne (tgt := 420) hx hb dL_law_403 (by decide) (by omega) (by omega) (fun c_18 => ?_) (fun c_18 => ?_)
                      · exfalso; omega
                      · skip
                        refine lv_aload_n hx hb dL_law_406 rfl (lv_at hl 12 rfl) ?_
                        refine lv_iload hx hb dL_law_407 (lv_at hl 5 rfl) ?_
                        refine k_iconst hx hb dL_law_409 ?_
                        refine q_call0 (As := [.int (iI t), .int (iI 0)]) (rest := []) ⟨hx, hb, hml, hown, hts⟩ hGX hA (ck_ans (k_trail l D cy o M_7 (kpN n) (csF M K) t 0 (show 0 ≤ t from by omega) (show t < M_7 12 from by omega) (show 0 ≤ (0 : Int) ∧ (0 : Int) ≤ 8 from by omega)) (show trV M_7 (mat M_7 (M_7 8)).1 t (0 : Int) = pts M_7 t from tr_0 M_7 _ t)) gL_law_L_trail rfl ⟨rfl, rfl⟩ 3 rfl (by decide +kernel) ⟨Nat.le_of_ble_eq_true rfl, Nat.le_of_ble_eq_true rfl⟩ hW hl.1 rfl (Nat.le_of_ble_eq_true rfl) ⟨show cells ≤ 856056 by omega, show slots ≤ 6533457 by omega⟩ dL_law_410 (fun r_19 M_19 n_19 K_19 H locs hp hW => ?_)
                        obtain ⟨rfl, rfl, rfl, rfl⟩ := hp
                        refine lv_iload hx hb dL_law_413 (lv_at hl 4 rfl) ?_
                        refine k_iconst hx hb dL_law_415 ?_
                        refine k_iadd hx hb dL_law_416 ?_
                        refine k_icmp_eq (tgt := 422) hx hb dL_law_417 (by decide) (by omega) (by omega) (fun c_20 => ?_) (fun c_20 => ?_)
                        · skip
                          refine lv_goto (tgt := 1141) hx hb dL_law_422 (by decide) ?_
                          exact hk M_7 (kpN n) (csF M K) cells slots (by omega) (by omega) H locs hW ls (lv_sub hl [9, 11, 12, 13] rfl)
                        · exfalso; omega
      · skip
        have hc9 := c_6
        have hc8 : pts M t = 12 ∨ hasF M t f := by
          by_cases h9 : pts M t = 12
          · exact Or.inl h9
          · exact Or.inr ((hv_has hpt.1).mp (fun z => hc9 ⟨by omega, z⟩))
        refine q_call1 (As := [.int (iI t), .int (iI f), .int (iI px), .int (iI py)]) (rest := []) ⟨hx, hb, hml, hown, hts⟩ hGX hA (k_addPoint_t3 l hst D cy o M n K t f px py (show 0 ≤ t from by omega) (show t < M 12 from by omega) (show pointOK f px py from ⟨hf0, hpx0, hpy0⟩) (show pts M t = 12 ∨ hasF M t f from hc8)) gL_law_L_addPoint rfl ⟨rfl, rfl⟩ 5 rfl (by decide +kernel) ⟨Nat.le_of_ble_eq_true rfl, Nat.le_of_ble_eq_true rfl⟩ hW hl.1 rfl (Nat.le_of_ble_eq_true rfl) ⟨show cells + 1 ≤ 856056 by omega, show slots + 6 ≤ 6533457 by omega⟩ dL_law_322 (fun r_21 M_21 n_21 K_21 H locs hp hW => ?_)
        obtain ⟨rfl, rfl, rfl, rfl⟩ := hp
        refine lv_istore (lv' := [(14, .int (iI (-9020000))), (12, .int (iI py)), (11, .int (iI px)), (10, .int (iI f)), (9, .int (iI (pts M t))), (8, .int (iI t)), (7, .int (iI w7)), (6, .int (iI (M 13))), (5, .int (iI (M 12))), (4, .int (iI y)), (3, .int (iI x)), (2, .int (iI i)), (1, .ref o), (0, .ref b), (13, .int (iI (hvF M t f (pts M t))))]) hx hb dL_law_325 hl (by decide) rfl (fun ls hl => ?_)
        refine lv_iload hx hb dL_law_327 (lv_at hl 0 rfl) ?_
        refine k_ldc (z := (-9020000)) hx hb hown hmw0 (by decide +kernel) dL_law_329 ?_
        refine k_icmp_eq (tgt := 338) hx hb dL_law_331 (by decide) (by omega) (by omega) (fun c_22 => ?_) (fun c_22 => ?_)
        · skip
          refine k_iconst hx hb dL_law_338 ?_
          refine lv_iload hx hb dL_law_339 (lv_at hl 4 rfl) ?_
          refine k_bipush hx hb dL_law_341 (by decide +kernel) ?_
          refine k_icmp_ge (tgt := 355) hx hb dL_law_343 (by decide) (by omega) (by omega) (fun c_23 => ?_) (fun c_23 => ?_)
          · skip
            refine k_iconst hx hb dL_law_355 ?_
            refine k_icmp_ne (tgt := 420) hx hb dL_law_356 (by decide) (by omega) (by omega) (fun c_24 => ?_) (fun c_24 => ?_)
            · exfalso; omega
            · skip
              refine lv_iload hx hb dL_law_359 (lv_at hl 0 rfl) ?_
              refine k_if_lt (tgt := 422) hx hb dL_law_361 (by decide) (by omega) (fun c_25 => ?_) (fun c_25 => ?_)
              · skip
                refine lv_goto (tgt := 1141) hx hb dL_law_422 (by decide) ?_
                exact hk M n K (cells + 1) (slots + 6) (by omega) (by omega) H locs hW ls (lv_sub hl [9, 11, 12, 13] rfl)
              · exfalso; omega
          · skip
            refine lv_iload hx hb dL_law_346 (lv_at hl 14 rfl) ?_
            refine k_if_ne (tgt := 355) hx hb dL_law_348 (by decide) (by omega) (fun c_26 => ?_) (fun c_26 => ?_)
            · skip
              refine k_iconst hx hb dL_law_355 ?_
              refine k_icmp_ne (tgt := 420) hx hb dL_law_356 (by decide) (by omega) (by omega) (fun c_27 => ?_) (fun c_27 => ?_)
              · exfalso; omega
              · skip
                refine lv_iload hx hb dL_law_359 (lv_at hl 0 rfl) ?_
                refine k_if_lt (tgt := 422) hx hb dL_law_361 (by decide) (by omega) (fun c_28 => ?_) (fun c_28 => ?_)
                · skip
                  refine lv_goto (tgt := 1141) hx hb dL_law_422 (by decide) ?_
                  exact hk M n K (cells + 1) (slots + 6) (by omega) (by omega) H locs hW ls (lv_sub hl [9, 11, 12, 13] rfl)
                · exfalso; omega
            · exfalso; omega
        · exfalso; omega
    refine lv_istore (lv' := [(14, .int (iI 0)), (13, .int (iI 0)), (12, .int (iI py)), (11, .int (iI px)), (10, .int (iI f)), (9, .int (iI (pts M t))), (8, .int (iI t)), (7, .int (iI w7)), (6, .int (iI (M 13))), (5, .int (iI (M 12))), (4, .int (iI y)), (3, .int (iI x)), (2, .int (iI i)), (1, .ref o), (0, .ref b)]) hx hb dL_law_272 hl (by decide) rfl (fun ls hl => ?_)
    have loop274 : ∀ (j_29 : Nat) (q : Int) (x13 : Int) (hq0 : 0 ≤ q) (hq1 : q ≤ pts M t) (hex13 : x13 = hvF M t f q) (hn274 : pts M t - q < (j_29 : Int)) (H : Heap) (locs : List Loc) (hW : OW D cy (fun q : Nat => s.heap.size ≤ q) s.heap o M n K H locs) (ls : Array Slot) (hl : lv_has ls 15 [(14, .int (iI q)), (13, .int (iI x13)), (12, .int (iI py)), (11, .int (iI px)), (10, .int (iI f)), (9, .int (iI (pts M t))), (8, .int (iI t)), (7, .int (iI w7)), (6, .int (iI (M 13))), (5, .int (iI (M 12))), (4, .int (iI y)), (3, .int (iI x)), (2, .int (iI i)), (1, .ref o), (0, .ref b)]), W p l e room_1 s m #[Value.ref b] below meth c H locs cells slots Q (F0 m 274 ls []) := by
      intro j_29
      induction j_29 with
      | zero => intro q x13 hq0 hq1 hex13 hn274 H locs hW ls hl; exfalso; omega
      | succ j_29 ih274 =>
        intro q x13 hq0 hq1 hex13 hn274 H locs hW ls hl
        subst hex13
        have hh01 := hv_01 M t f q
        have hhs := hv_s M t f hq0
        refine lv_iload hx hb dL_law_274 (lv_at hl 0 rfl) ?_
        refine lv_iload hx hb dL_law_276 (lv_at hl 5 rfl) ?_
        refine k_icmp_ge (tgt := 313) hx hb dL_law_278 (by decide) (by omega) (by omega) (fun c_30 => ?_) (fun c_30 => ?_)
        · skip
          have hqe : q = pts M t := by omega
          exact join313 (hvF M t f q) (by rw [hqe]) H locs hW ls (lv_sub hl [2, 3, 4, 5, 6, 7, 8, 9, 10, 11, 12, 13, 14, 1] rfl)
        · skip
          have hfq := inv_frm hI ht0 ht1 hq0 (show q < pts M t by omega)
          refine lv_iload hx hb dL_law_281 (lv_at hl 1 rfl) ?_
          have join305 : ∀ (z0 : Int) (jez0 : z0 = hvF M t f (q + 1)) (H : Heap) (locs : List Loc) (hW : OW D cy (fun q : Nat => s.heap.size ≤ q) s.heap o M n K H locs) (ls : Array Slot) (hl : lv_has ls 15 [(14, .int (iI q)), (13, .int (iI (hvF M t f q))), (12, .int (iI py)), (11, .int (iI px)), (10, .int (iI f)), (9, .int (iI (pts M t))), (8, .int (iI t)), (7, .int (iI w7)), (6, .int (iI (M 13))), (5, .int (iI (M 12))), (4, .int (iI y)), (3, .int (iI x)), (2, .int (iI i)), (1, .ref o), (0, .ref b)]), W p l e room_1 s m #[Value.ref b] below meth c H locs cells slots Q (F0 m 305 ls [.int (iI z0)]) := by
            intro z0 jez0 H locs hW ls hl
            subst jez0
            refine lv_istore (lv' := [(13, .int (iI (hvF M t f (q + 1)))), (14, .int (iI q)), (12, .int (iI py)), (11, .int (iI px)), (10, .int (iI f)), (9, .int (iI (pts M t))), (8, .int (iI t)), (7, .int (iI w7)), (6, .int (iI (M 13))), (5, .int (iI (M 12))), (4, .int (iI y)), (3, .int (iI x)), (2, .int (iI i)), (1, .ref o), (0, .ref b)]) hx hb dL_law_305 hl (by decide) rfl (fun ls hl => ?_)
            refine lv_iinc (v := iI (q + 1)) (lv' := [(14, .int (iI (q + 1))), (13, .int (iI (hvF M t f (q + 1)))), (12, .int (iI py)), (11, .int (iI px)), (10, .int (iI f)), (9, .int (iI (pts M t))), (8, .int (iI t)), (7, .int (iI w7)), (6, .int (iI (M 13))), (5, .int (iI (M 12))), (4, .int (iI y)), (3, .int (iI x)), (2, .int (iI i)), (1, .ref o), (0, .ref b)]) hx hb dL_law_307 hl (k := 1) rfl (iI_add _ _) (by decide) rfl (fun ls hl => ?_)
            refine lv_goto (tgt := 274) hx hb dL_law_310 (by decide) ?_
            exact ih274 (q + 1) (hvF M t f (q + 1)) (by omega) (by omega) (by first | rfl | omega) (by omega) H locs hW ls (lv_sub hl [0, 1, 2, 3, 4, 5, 6, 7, 8, 9, 10, 11, 12, 13, 14] rfl)
          refine k_if_ne (tgt := 300) hx hb dL_law_283 (by decide) (by omega) (fun c_31 => ?_) (fun c_31 => ?_)
          · skip
            refine k_iconst hx hb dL_law_300 ?_
            refine lv_goto (tgt := 305) hx hb dL_law_301 (by decide) ?_
            exact join305 1 (by first | rfl | omega) H locs hW ls (lv_sub hl [0, 1, 2, 3, 4, 5, 6, 7, 8, 9, 10, 11, 12, 13, 14] rfl)
          · skip
            refine lv_aload_n hx hb dL_law_286 rfl (lv_at hl 13 rfl) ?_
            refine lv_iload hx hb dL_law_287 (lv_at hl 6 rfl) ?_
            refine lv_iload hx hb dL_law_289 (lv_at hl 0 rfl) ?_
            refine k_iconst hx hb dL_law_291 ?_
            refine q_call0 (As := [.int (iI t), .int (iI q), .int (iI 0)]) (rest := []) ⟨hx, hb, hml, hown, hts⟩ hGX hA (ck_ans (k_point l D cy o M n K t q 0 (show 0 ≤ t from by omega) (show t < M 12 from by omega) (show 0 ≤ q from by omega) (show q < pts M t from by omega) (show 0 ≤ (0 : Int) ∧ (0 : Int) ≤ 6 from by omega)) (show ptV M t q (0 : Int) = frm M t q from pt_0 M t q)) gL_law_L_point rfl ⟨rfl, rfl⟩ 4 rfl (by decide +kernel) ⟨Nat.le_of_ble_eq_true rfl, Nat.le_of_ble_eq_true rfl⟩ hW hl.1 rfl (Nat.le_of_ble_eq_true rfl) ⟨show cells ≤ 856056 by omega, show slots ≤ 6533457 by omega⟩ dL_law_292 (fun r_32 M_32 n_32 K_32 H locs hp hW => ?_)
            obtain ⟨rfl, rfl, rfl, rfl⟩ := hp
            refine lv_iload hx hb dL_law_295 (lv_at hl 4 rfl) ?_
            refine k_icmp_ne (tgt := 304) hx hb dL_law_297 (by decide) (by omega) (by omega) (fun c_33 => ?_) (fun c_33 => ?_)
            · skip
              refine k_iconst hx hb dL_law_304 ?_
              exact join305 0 (by first | rfl | omega) H locs hW ls (lv_sub hl [0, 1, 2, 3, 4, 5, 6, 7, 8, 9, 10, 11, 12, 13, 14] rfl)
            · skip
              refine k_iconst hx hb dL_law_300 ?_
              refine lv_goto (tgt := 305) hx hb dL_law_301 (by decide) ?_
              exact join305 1 (by first | rfl | omega) H locs hW ls (lv_sub hl [0, 1, 2, 3, 4, 5, 6, 7, 8, 9, 10, 11, 12, 13, 14] rfl)
    exact loop274 ((pts M t - 0 : Int) + 1).toNat 0 0 (by omega) (by omega) (rfl) (by omega) H locs hW ls (lv_sub hl [0, 1, 2, 3, 4, 5, 6, 7, 8, 9, 10, 11, 12, 13, 14] rfl)
  refine k_if_ne (tgt := 228) hx hb dL_law_219 (by decide) (by omega) (fun c_34 => ?_) (fun c_34 => ?_)
  · skip
    refine k_bipush hx hb dL_law_228 (by decide +kernel) ?_
    exact join230 60 (by omega) ls (lv_sub hl [0, 1, 2, 3, 4, 5, 6, 7, 8, 9] rfl)
  · skip
    refine k_sipush hx hb dL_law_222 (by decide +kernel) ?_
    refine lv_goto (tgt := 230) hx hb dL_law_225 (by decide) ?_
    exact join230 1001 (by omega) ls (lv_sub hl [0, 1, 2, 3, 4, 5, 6, 7, 8, 9] rfl)
