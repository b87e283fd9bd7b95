/-! THE CLAIM OUT OF ONE WALK OF THE LAW'S BODY. Your part is whole_start (and what it stands on); all else here is the same for every law, but numbers. -/
def R_law : String := "ArcPlateLaw"
def lw_P (b : Addr) (xs : List Int32) (args : Array Value) (s : State) : Prop := args = #[.ref b] ∧ s.IntsAt b xs ∧ xs.length ≤ 2560 ∧ (Jvm.Cond.and given_1 narrow_1).before args s = true
def lw_Q (_ : Array Value) (s : State) (o : Outcome) (t : State) : Prop := o = .returned (some (.int 1)) ∧ Framed s o t [] 601024 7293034
def lw_Z (below : List Frame) (a : Array Value) (s : State) : State → Prop := fun t => ∃ o, t.status = .running ∧ Ended t below o ∧ lw_Q a s o t
/-- the law's own end, with 1 on the stack, nothing written that was there before, its room as the claim has it -/
theorem lw_ret {p : Program} {l : Launch} {e : Env} {s : State} {m : MethodId} {below : List Frame} {meth : Method} {c : Code} {b : Nat} (hx : p.tables.exec = Jvm.exec) (hb : c.code = code) (hr : meth.sig.returnType = ret) (hlocks : meth.locks = false) {pc : Nat} {H : Heap} {ls : Array Slot} (hdg : decode code pc = .ok (.ireturn, 1)) : W p l e room_1 s m #[Value.ref b] below meth c H [] 601024 7293034 (lw_Z below #[Value.ref b] s) (F0 m pc ls [.int 1]) := by
  intro T hT X
  obtain ⟨fs, hret, hrun, hended, hW, hframe⟩ := X.leave (v := some (.int 1)) (hlocks := hlocks) (fun h => by rw [hr] at h; cases h)
  have hmeth' : T.vm.method? m = some meth := X.method'
  refine ⟨T.setFrames fs, ?_, .returned (some (.int 1)), hrun, hended, rfl, ⟨_, rfl⟩, hW, hframe⟩
  jvm_step X.here [X.here.top, hx, hb, hdg, hmeth', hr, ret, narrow_b1]
  (try refine ⟨rfl, ?_⟩); (try refine ⟨rfl, ?_⟩)
  first | (intro acts; rw [hret _ acts rfl rfl rfl]) | rw [hret _ _ rfl rfl rfl]
  exact Steps.refl _
/-- what holds at the law's entry: the machine, the code, the tables' words (any of lw_tbl by 'hts w (by decide +kernel)'), the script of L ints xs at the cell b, what the Statement gives of the start (any of its parts by flat_of_before) -/
def lw_At (p : Program) (s : State) (m : MethodId) (meth : Method) (c : Code) (b L : Nat) (xs : Nat → Int32) : Prop :=
  p.tables.exec = Jvm.exec ∧ c.code = code ∧ meth.sig.returnType = ret ∧ c.maxLocals = 7 ∧ s.vm.findClass R_law = some m.cls ∧ (∀ w ∈ lw_tbl, w.before #[Value.ref b] s = true) ∧ va_X b L xs s s.heap ∧ b < s.heap.size ∧ meth.locks = false ∧ (Jvm.Cond.and given_1 narrow_1).before #[Value.ref b] s = true
set_option maxHeartbeats 4000000 in
set_option maxRecDepth 100000 in
/-- YOUR PART: from the entry, for every script of at most 2560 ints, the law comes to its end with true ('hflags': the launch's flags, for a law that throws: no stack traces) -/
theorem whole_start {p : Program} {e : Env} {s : State} {m : MethodId} {below : List Frame} {meth : Method} {c : Code} (l : Launch) (hflags : l.flags = flags0) {b L : Nat} {xs : Nat → Int32} (hL : L ≤ 2560) (C0 : lw_At p s m meth c b L xs) : W p l e room_1 s m #[Value.ref b] below meth c s.heap [] 0 0 (lw_Z below #[Value.ref b] s) (entryFrame m ([Value.ref b] : List Value).toArray 7) := by
  obtain ⟨hx, hb, hr, hml, hown, hts, hX, hbl, hlocks, hgv⟩ := id C0
  have hst := fl_st hflags
  have hA : ∀ q : Nat, s.heap.size ≤ q → (fun q : Nat => s.heap.size ≤ q) q := fun _ h => h
  obtain ⟨D, cy, hGX, hGI⟩ := st_all hts hgv (A := fun q : Nat => s.heap.size ≤ q) (fun a h => Nat.not_le.mpr h)
  have hK := hGI.1.1
  have htw : ∀ w ∈ wsL_law, w.before #[Value.ref b] s = true := fun w h => hts w (wsL_law_in w h)
  have hown : s.vm.findClass RL = some m.cls := hown
  have C : zC p l s m c b L xs D cy := ⟨⟨hx, hb, hml, hown⟩, htw, ⟨hX, hbl, hL⟩, hGX, hst⟩
  have hS : va_S (fun q : Nat => s.heap.size ≤ q) s.heap s.heap [] := va_S.rf
  have hP : va_P D vwCl [] s.heap := fun k q h => by simp at h
  have hD : va_D (fun q : Nat => s.heap.size ≤ q) [] := ⟨fun i j p q h => by simp at h, fun k q h => by simp at h⟩
  have hl := lv_entry ([.ref b]) (n := 7) (Nat.le_of_ble_eq_true rfl)
  rw [lg_entry_eq]
  generalize (lg_sl ([.ref b]) ++ List.replicate (7 - (lg_sl ([.ref b])).length) Slot.unset).toArray = ls at hl ⊢
  have hl : lv_has ls 7 [(0, .ref b)] := hl
  refine va_new (ci := 5) (fs := [.null, .null, .null, .null, .null, .null, .int 0, .int 0]) (C := RX6) (T := TX6) (N := 8) hx hb hts inX6 tyX6 tyX6_ok hown (hts (.classLink RL 8 RX6) (List.mem_append_right _ (List.mem_of_getElem? (i := 21) (by decide +kernel)))) (hts (.instantiable RX6 8) (List.mem_append_right _ (List.mem_of_getElem? (i := 22) (by decide +kernel)))) (hts (.initialized RX6) (List.mem_append_right _ (List.mem_of_getElem? (i := 1) (by decide +kernel)))) hK hP hD hS hA rfl (fun j hj => by rcases (show j = 0 ∨ j = 1 ∨ j = 2 ∨ j = 3 ∨ j = 4 ∨ j = 5 ∨ j = 6 ∨ j = 7 by omega) with rfl | rfl | rfl | rfl | rfl | rfl | rfl | rfl <;> rfl) (Nat.le_of_ble_eq_true rfl) (Nat.le_of_ble_eq_true rfl) dL_law_0 (fun q1 H hP hD hS => ?_)
  have hP : va_P D vwCl ([(q1, .inr (5, [.null, .null, .null, .null, .null, .null, .int 0, .int 0]))] : va_W) H := hP
  have hD : va_D (fun q : Nat => s.heap.size ≤ q) ([(q1, .inr (5, [.null, .null, .null, .null, .null, .null, .int 0, .int 0]))] : va_W) := hD
  refine lv_dup hx hb dL_law_3 rfl ?_
  have hFc := va_free (wc := ([(q1, .inr (5, [.null, .null, .null, .null, .null, .null, .int 0, .int 0]))] : va_W)) hD hS hA [0] rfl
  refine k_muv (k_runI (rest := [.ref q1]) ⟨hx, hb, hml, hown, htw⟩ (c_X6_init l D cy H.size q1) (cwI 0 htw gL_law_X6_init rfl rfl rfl (hts (.initialized RX6) (List.mem_append_right _ (List.mem_of_getElem? (i := 1) (by decide +kernel)))) (hts (.methodLink RL 83 yX6_init) (List.mem_append_right _ (List.mem_of_getElem? (i := 23) (by decide +kernel)))) (hts (.instanceMethod yX6_init) (List.mem_append_right _ (List.mem_of_getElem? (i := 24) (by decide +kernel)))) rfl (by decide +kernel) ⟨Nat.le_of_ble_eq_true rfl, Nat.le_of_ble_eq_true rfl⟩) (GI_ok D cy) hGI hS hFc hP hD hl.1 (Nat.le_of_ble_eq_true rfl) ⟨Nat.le_of_ble_eq_true rfl, Nat.le_of_ble_eq_true rfl⟩ dL_law_4) hFc hS (fun a H1 locs1 hu hP1 hD1 hS1 hk1 => ?_)
  have hu : a 100 = q1 := hu
  have hD2 : va_D (fun q : Nat => s.heap.size ≤ q) (fullW cy a ob0) := hD1.weaken (fun k q _ h => hFc q.1 h)
  clear hP hD hS hFc hD1 hk1
  subst hu
  rw [fulX_eq] at hP1 hD2
  refine lv_astore_n (lv' := [(1, .ref (a 100)), (0, .ref b)]) hx hb dL_law_7 rfl hl (by decide) rfl (fun ls hl => ?_)
  refine va_new (ci := 6) (fs := [.null, .null, .int 0, .null, .int 0, .int 0, .int 0, .int 0, .int 0, .int 0, .null, .null, .null, .int 0, .int 0, .int 0, .int 0, .null, .long 0]) (C := RX7) (T := TX7) (N := 19) hx hb hts inX7 tyX7 tyX7_ok hown (hts (.classLink RL 84 RX7) (List.mem_append_right _ (List.mem_of_getElem? (i := 957) (by decide +kernel)))) (hts (.instantiable RX7 19) (List.mem_append_right _ (List.mem_of_getElem? (i := 958) (by decide +kernel)))) (hts (.initialized RX7) (List.mem_append_right _ (List.mem_of_getElem? (i := 7) (by decide +kernel)))) hK hP1 hD2 hS1 hA rfl (fun j hj => by rcases (show j = 0 ∨ j = 1 ∨ j = 2 ∨ j = 3 ∨ j = 4 ∨ j = 5 ∨ j = 6 ∨ j = 7 ∨ j = 8 ∨ j = 9 ∨ j = 10 ∨ j = 11 ∨ j = 12 ∨ j = 13 ∨ j = 14 ∨ j = 15 ∨ j = 16 ∨ j = 17 ∨ j = 18 by omega) with rfl | rfl | rfl | rfl | rfl | rfl | rfl | rfl | rfl | rfl | rfl | rfl | rfl | rfl | rfl | rfl | rfl | rfl | rfl <;> rfl) (Nat.le_of_ble_eq_true rfl) (Nat.le_of_ble_eq_true rfl) dL_law_8 (fun q2 H hP hD hS => ?_)
  clear hP1 hD2 hS1
  have hP : va_P D vwCl (fulX cy a ob0 ++ nw7 q2) H := hP
  have hD : va_D (fun q : Nat => s.heap.size ≤ q) (fulX cy a ob0 ++ nw7 q2) := hD
  refine lv_dup hx hb dL_law_11 rfl ?_
  have B9 := pb_nw (cy := cy) (a := a) (q := q2)
  have hFc := va_free (wc := nw7 q2) hD hS hA is_nw B9.1
  refine k_muv (k_runI (wsC := nw7 q2) (rest := [.ref q2]) ⟨hx, hb, hml, hown, htw⟩ (c_X7_init l D cy H.size q2) (cwI 0 htw gL_law_X7_init rfl rfl rfl (hts (.initialized RX7) (List.mem_append_right _ (List.mem_of_getElem? (i := 7) (by decide +kernel)))) (hts (.methodLink RL 86 yX7_init) (List.mem_append_right _ (List.mem_of_getElem? (i := 959) (by decide +kernel)))) (hts (.instanceMethod yX7_init) (List.mem_append_right _ (List.mem_of_getElem? (i := 960) (by decide +kernel)))) rfl (by decide +kernel) ⟨Nat.le_of_ble_eq_true rfl, Nat.le_of_ble_eq_true rfl⟩) (GI_ok D cy) hGI hS hFc (hP.sub is_nw (fm_of is_nw (nw7 q2) B9.1)) (hD.sub is_nw B9.2.1 B9.1) hl.1 (Nat.le_of_ble_eq_true rfl) ⟨Nat.le_of_ble_eq_true rfl, Nat.le_of_ble_eq_true rfl⟩ dL_law_12) hFc hS (fun a2 H1 locs1 hu hP1 hD1 hS1 hk1 => ?_)
  have hu : a2 0 = q2 := hu
  have hPf : va_P D vwCl (fulX cy a ob0 ++ rfW cy a2 rf0) H1 := k_join hP hD is_nw js_nw B9.1 hk1 hP1 (B9.2.2.1 a2) B9.2.2.2.1
  have hDf : va_D (fun q : Nat => s.heap.size ≤ q) (fulX cy a ob0 ++ rfW cy a2 rf0) := k_joinD hP hD is_nw js_nw B9.1 hFc hD1 (B9.2.2.1 a2) B9.2.2.2.1 B9.2.2.2.2
  clear hP hD hS hFc hP1 hD1 hk1 B9
  subst hu
  refine lv_astore_n (lv' := [(2, .ref (a2 0)), (1, .ref (a 100)), (0, .ref b)]) hx hb dL_law_15 rfl hl (by decide) rfl (fun ls hl => ?_)
  refine k_iconst hx hb dL_law_16 ?_
  refine va_newa (atype := .long) (ty := .long) hx hb (hts (.arrayClass .long) (List.mem_append_right _ (List.mem_of_getElem? (i := 1421) (by decide +kernel)))) rfl hK hPf hDf hS1 hA (a0 := (1, .inr (.inl (fun _ => 0)))) (fun cA => rfl) (by decide) (iI_cl (z := 1) (by decide) (by decide)) (by decide) (Nat.le_of_ble_eq_true rfl) (Nat.le_of_ble_eq_true rfl) dL_law_17 (fun q3 cA H hK3 hP hD hS => ?_)
  have e4 : cA = cy 4 := ra_long (hK3.2 5 _ rfl).2 (hK.2 4 _ rfl).2
  subst e4
  have hP := ou_P hP
  have hD := ou_D hD
  refine lv_astore_n (lv' := [(3, .ref q3), (2, .ref (a2 0)), (1, .ref (a 100)), (0, .ref b)]) hx hb dL_law_19 rfl hl (by decide) rfl (fun ls hl => ?_)
  refine k_iconst hx hb dL_law_20 ?_
  refine lv_istore (lv' := [(4, .int (iI 0)), (3, .ref q3), (2, .ref (a2 0)), (1, .ref (a 100)), (0, .ref b)]) hx hb dL_law_21 hl (by decide) rfl (fun ls hl => ?_)
  have hl : lv_has ls 7 [(4, .int (iI (5 * ((0 : Nat) : Int)))), (3, .ref q3), (2, .ref (a2 0)), (1, .ref (a 100)), (0, .ref b)] := hl
  refine W.widen (k := 200 + 0) (n := 8000 + 6 * 0) (Nat.le_of_ble_eq_true rfl) (Nat.le_of_ble_eq_true rfl) ?_
  exact z_loop C (fun H locs ls cells slots hc hS => va_forget (fun q hq => hS.2.2 q hq) (lv_iconst (v := 1) hx hb dL_law_1594 (by decide) (W.widen (k := 601024) (n := 7293034) (by omega) (by omega) (lw_ret hx hb hr hlocks dL_law_1595)))) (L + 10) 0 a a2 q3 (fun _ => 0) ob0 rf0 H _ ls (by omega) (by omega) rl_start hP hD hS (lv_sub hl [4, 3, 2, 1, 0] rfl)
