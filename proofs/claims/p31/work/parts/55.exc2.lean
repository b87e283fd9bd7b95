/-! methods that throw and change nothing; what they take as given -/
def exN : Nat → String := fun k => ["java/lang/IndexOutOfBoundsException", "java/lang/IllegalArgumentException", "java/lang/IllegalStateException"].getD k ""
def exI : Nat → Nat := fun k => [262, 269, 274].getD k 0
def exT : Nat → String := fun k => ["no such trail, point or star", "an argument is out of its range", "no room, a frame twice, or nothing to undo"].getD k ""
def exY : List String := ["java/lang/RuntimeException", "java/lang/Exception", Bundle.tN]
def exA (A : Nat → Prop) (U : State) (H : Heap) : Prop :=
  (∀ k : Nat, k < 3 → (∃ q : Nat, vk_R RX6 (exI k) (exT k) q U) ∧ va_Nw (.castable (exN k) (exN k)) U ∧ ∀ j : Nat, j < 3 → j ≠ k → va_Nc (exN k) (exN j) U) ∧
  vx_Zq Bundle.tN "UNASSIGNED_STACK" Bundle.steD A U H ∧ vx_Zq Bundle.tN "SUPPRESSED_SENTINEL" Bundle.listD A U H ∧ ∀ k : Nat, k < 3 → va_Nw (.declares (Bundle.initS (exY.getD k ""))) U
theorem exA_ok : kGok exA := by
  refine ⟨fun A U H H1 hq h => ?_, fun A s U H hW h => ?_, fun A s U H hv h => ?_, fun A B U H hAB h => ?_⟩
  · exact ⟨h.1, h.2.1.kept hq, h.2.2.1.kept hq, h.2.2.2⟩
  · refine ⟨fun k hk => ?_, vx_Zq.moved hW.alike h.2.1, vx_Zq.moved hW.alike h.2.2.1, fun k hk => va_Nw.warmD hW (h.2.2.2 k hk)⟩
    obtain ⟨⟨q, h1⟩, h2, h3⟩ := h.1 k hk
    exact ⟨⟨q, vk_R.warm hW h1⟩, va_Nw.warmC hW h2, fun j hj hne => va_Nc.moved hW.alike (h3 j hj hne)⟩
  · refine ⟨fun k hk => ?_, vx_Zq.moved (alike_eq hv) h.2.1, vx_Zq.moved (alike_eq hv) h.2.2.1, fun k hk => va_Nw.same rfl hv (h.2.2.2 k hk)⟩
    obtain ⟨⟨q, h1⟩, h2, h3⟩ := h.1 k hk
    exact ⟨⟨q, vk_R.same hv.symm h1⟩, va_Nw.same rfl hv h2, fun j hj hne => va_Nc.moved (alike_eq hv) (h3 j hj hne)⟩
  · exact ⟨h.1, h.2.1.narrow hAB, h.2.2.1.narrow hAB, h.2.2.2⟩
/-- all that the class's methods take as given -/
def GX (D : va_G) (cy : Nat → ClassId) : (Nat → Prop) → State → Heap → Prop := fun A U H => GS D cy A U H ∧ exA A U H
theorem GX_ok (D : va_G) (cy : Nat → ClassId) : kGok (GX D cy) :=
  ⟨fun A U H H1 hq h => ⟨(GS_ok D cy).1 A U H H1 hq h.1, exA_ok.1 A U H H1 hq h.2⟩, fun A s U H hW h => ⟨(GS_ok D cy).2.1 A s U H hW h.1, exA_ok.2.1 A s U H hW h.2⟩, fun A s U H hv h => ⟨(GS_ok D cy).2.2.1 A s U H hv h.1, exA_ok.2.2.1 A s U H hv h.2⟩, fun A B U H hAB h => ⟨(GS_ok D cy).2.2.2 A B U H hAB h.1, exA_ok.2.2.2 A B U H hAB h.2⟩⟩
def kNo : Array Value → State → Outcome → State → Prop := fun _ _ _ _ => False
def XK (E0 : String) : String → State → State → Prop := fun E st t => E = E0 ∧ va_F (fun _ => False) st t
theorem kTH_start {l : Launch} {y : MethodName} {wsy ws' : List Cond} {rm : Room} {G : (Nat → Prop) → State → Heap → Prop} {D : va_G} {ws : va_W} {av : List Value} {cc : ByteArray} {maxL : Nat} {ret : Option FieldType} {Qc : Array Value → State → Outcome → State → Prop} {XC : String → State → State → Prop} {mc ms : Nat} {free : Addr → Prop} (hy : plainName y.cls = true) (hw : wsy = Cond.code y cc maxL ret :: ws') (hlen : (lg_sl av).length ≤ maxL)
    (body : ∀ (p : Program) (e : Env) (s : State) (m : MethodId) (below : List Frame) (meth : Method) (c : Code), p.tables.exec = Jvm.exec → c.code = cc → meth.sig.returnType = ret → meth.locks = false → c.maxLocals = maxL → (∀ w ∈ wsy, w.before av.toArray s = true) → s.vm.findClass y.cls = some m.cls → (∀ x ∈ c.exceptionTable.toList, False) → G (fun _ => False) s s.heap → va_P D vwCl ws s.heap → ∀ ls : Array Slot, lv_has ls maxL (lv_args 0 av) → W p l e rm s m av.toArray below meth c s.heap [] 0 0 (vx_MQ below Qc XC av.toArray s mc ms free) (F0 m 0 ls [])) :
    vx_Met l y wsy rm (kPre G D ws av) Qc XC mc ms free := by
  refine vx_ofW hy hw ?_
  intro p e s m args below meth c s₁ B hml ht hv
  obtain ⟨rfl, hG, hP⟩ := hv
  have hl := lv_entry av (n := maxL) hlen
  have hb := body p e s m below meth c B.exec B.bytes B.returns B.notSynchronized hml (atoms_spec (ws := wsy) B.pre) (findClass_of_methodNamed B.named) ht hG hP _ hl
  rw [lg_entry_eq]
  exact hb
section KTH
variable {p : Program} {l : Launch} {e : Env} {R : Room} {s : State} {m : MethodId} {args : Array Value} {below : List Frame} {meth : Method} {c : Code} {H : Heap} {locs : List Loc} {cells slots : Nat} {Q : State → Prop}
variable {pc : Nat} {ls : Array Slot} {rest st0 : List Value} {A0 : Nat → Prop} {H0 : Heap} {E0 : String}
/-- behind a call that always throws -/
theorem k_thr {kNo' : State → Outcome → State → Prop} (hr : vx_Run p l e R s m args below meth c H locs cells slots 1 6 (F0 m pc ls st0) rest kNo' (XK E0) (fun _ => False)) (hno : ∀ a b d, ¬ kNo' a b d)
    (kx : ∀ (ce : Cell) (q9 : Addr) (H1 : Heap), H.size ≤ H1.size → (∀ q : Nat, q < H.size → H1[q]? = H[q]?) → H1[q9]? = some ce → ce.vm = .none → s.vm.findClass E0 = some ce.cls → vx_W p l e R s m args below meth c H1 locs (cells + 1) (slots + 6) Q (F0 m pc ls rest) q9) : W p l e R s m args below meth c H locs cells slots Q (F0 m pc ls st0) := by
  intro T hT X
  rcases hr T hT X with ⟨v, st₀, t, T', L, h0, X', hL, e1, e2, hq, st⟩ | ⟨q, st₀, t, T', L, E, ce, h0, X', hL, e1, e2, ⟨hE, hF⟩, hce, hcv, hcl, st⟩
  · exact absurd hq (hno _ _ _)
  · subst hE
    obtain ⟨z1, z2⟩ := hF
    rw [h0] at z1 z2
    obtain ⟨t2, a1, b1⟩ := kx ce q T'.heap (by rw [e1]; exact z1) (fun q h => by rw [e1]; exact z2 q h (fun z => z)) (by rw [e1]; exact hce) hcv hcl T' rfl (Stand.forget X' (fun q h => (hL q h).elim))
    exact ⟨t2, st.trans a1, b1⟩
theorem va_P_ext {D : va_G} {cl : List vw_C} {ws : va_W} {H1 : Heap} (h : va_P D cl ws H) (hk : ∀ q : Nat, q < H.size → H1[q]? = H[q]?) : va_P D cl ws H1 := h.kept (fun k x hx => hk x.1 (h k x hx).lt)
/-- out of a method that has changed nothing -/
theorem k_out {Qc : Array Value → State → Outcome → State → Prop} {H1 : Heap} {ce : Cell} {q9 : Addr} (ht : ∀ x ∈ c.exceptionTable.toList, False) (hlocks : meth.locks = false) (h1 : s.heap.size ≤ H1.size) (h2 : ∀ q : Nat, q < s.heap.size → H1[q]? = s.heap[q]?) (h3 : H1[q9]? = some ce) (h4 : ce.vm = .none) (h5 : s.vm.findClass E0 = some ce.cls) :
    vx_W p l e R s m args below meth c H1 [] (0 + 1) (0 + 6) (vx_MQ below Qc (XK E0) args s 1 6 (fun _ => False)) (F0 m pc ls rest) q9 :=
  vx_out (E := E0) (fun x hx => (ht x hx).elim) hlocks h3 h4 h5 (fun t hh _ => ⟨rfl, by rw [hh]; exact h1, fun q hq _ => by rw [hh]; exact h2 q hq⟩) (fun _ h => nomatch h) (Nat.le_refl _) (Nat.le_refl _)
variable {y : MethodName} {bytes cc : ByteArray} {maxL nL index : Nat} {ret : Option FieldType} {wsy ws' : List Cond} {rm : Room} {Ts : List Cond} {own C : String} {b : Addr} {As : List Value} {G : (Nat → Prop) → State → Heap → Prop} {D : va_G} {wsC : va_W}
/-- a static method that always throws, out of a method that has changed nothing -/
theorem k_thS {Qc : Array Value → State → Outcome → State → Prop} (S : CallFix p m c cc nL s args Ts own) (hM : vx_Met l y wsy rm (kPre G D wsC As) kNo (XK E0) 1 6 (fun _ => False)) (hT : GoodIn Ts (va_wsS own index y wsy)) (hw : wsy = Cond.code y bytes maxL ret :: ws') (hrm : rm.cells = 1 ∧ rm.slots = 6) (n9 : Nat) (hn9 : As.length = n9)
    (hd : y.cls ≠ "java/lang/invoke/MethodHandle" ∧ y.cls ≠ "java/lang/invoke/VarHandle" ∧ (parseMethodDescriptor y.desc).map (fun d => d.parameters.length) = some n9) (hR : rm.frames + 1 ≤ R.frames ∧ 8 + (maxL + 11) + rm.locals ≤ R.locals)
    (hGok : kGok G) (hG : G (fun _ => False) s s.heap) (hP : va_P D vwCl wsC s.heap) (hsize : ls.size = nL) (hstack : st0 = As.reverse ++ rest) (hW : (rest.map fun v => v.category).sum ≤ 8) (hcs : 0 + 1 ≤ R.cells ∧ 0 + 6 ≤ R.slots) (hdg : decode cc pc = .ok (.invokestatic index, 3)) (ht : ∀ x ∈ c.exceptionTable.toList, False) (hlocks : meth.locks = false) :
    W p l e R s m args below meth c s.heap [] 0 0 (vx_MQ below Qc (XK E0) args s 1 6 (fun _ => False)) (F0 m pc ls st0) :=
  k_thr (kNo' := kNo As.toArray) (vx_runS S hM (va_cwS n9 S.2.2.2.2 hT hw hrm.1 hrm.2 hd hR) ⟨kPre_blind hGok, fun U hU hW => ⟨rfl, by rw [hU]; exact hGok.2.1 _ s U s.heap hW hG, by rw [hU]; exact hP⟩⟩ rfl hn9 hsize hstack (lv_room hW) hdg hcs) (fun _ _ _ h => h)
    (fun ce q9 H1 z1 z2 z3 z4 z5 => k_out ht hlocks z1 z2 z3 z4 z5)
/-- the run of a method of an object that always throws -/
theorem k_thV (S : CallFix p m c cc nL s args Ts own) (hM : vx_Met l y wsy rm (kPre G D wsC (.ref b :: As)) kNo (XK E0) 1 6 (fun _ => False)) (hT : GoodIn Ts (wsV own index C y wsy)) (hw : wsy = Cond.code y bytes maxL ret :: ws') (hrm : rm.cells = 1 ∧ rm.slots = 6) (n9 : Nat) (hn9 : As.length = n9)
    (hd : y.cls = C ∧ y.cls ≠ "java/lang/invoke/MethodHandle" ∧ y.cls ≠ "java/lang/invoke/VarHandle" ∧ (parseMethodDescriptor y.desc).map (fun d => d.parameters.length) = some n9) (hR : rm.frames + 1 ≤ R.frames ∧ 8 + (maxL + 11) + rm.locals ≤ R.locals)
    (hGok : kGok G) (hG : G (fun _ => False) s H) (hP : va_P D vwCl wsC H) (hrecv : ∃ cell : Cell, H[b]? = some cell ∧ cell.vm.isStatics = false ∧ s.vm.findClass C = some cell.cls) (hsize : ls.size = nL) (hstack : st0 = As.reverse ++ .ref b :: rest) (hW : (rest.map fun v => v.category).sum ≤ 8) (hcs : cells + 1 ≤ R.cells ∧ slots + 6 ≤ R.slots) (hdg : decode cc pc = .ok (.invokevirtual index, 3))
    (kx : ∀ (ce : Cell) (q9 : Addr) (H1 : Heap), H.size ≤ H1.size → (∀ q : Nat, q < H.size → H1[q]? = H[q]?) → H1[q9]? = some ce → ce.vm = .none → s.vm.findClass E0 = some ce.cls → vx_W p l e R s m args below meth c H1 locs (cells + 1) (slots + 6) Q (F0 m pc ls rest) q9) : W p l e R s m args below meth c H locs cells slots Q (F0 m pc ls st0) :=
  k_thr (kNo' := kNo (Value.ref b :: As).toArray) (vx_runV S hM (cwV n9 S.2.2.2.2 hT hw hrm.1 hrm.2 hd hR) ⟨kPre_blind hGok, hrecv, fun U hU hW => ⟨rfl, by rw [hU]; exact hGok.2.1 _ s U H hW hG, by rw [hU]; exact hP⟩⟩ rfl hn9 hsize hstack (lv_room hW) hdg hcs) (fun _ _ _ h => h) kx
end KTH
set_option maxHeartbeats 4000000 in
theorem c_X6_refuse (l : Launch) (D : va_G) : Met l yX6_refuse wsX6_refuse { frames := 0, cells := 0, slots := 0, locals := 0 } (kPre kGT D [] [.int (iI 0)]) kROv 0 0 (fun _ => False) := by
  refine kRO_start (cc := cX6_refuse) (maxL := 1) (ret := none) (by decide) rfl (Nat.le_of_ble_eq_true rfl) ?_
  intro p e s m below meth c hx hb hr hlocks hml hts hown hG hP ls hl
  have hl : lv_has ls 1 [(0, .int (iI 0))] := hl
  refine lv_iload_n hx hb dX6_refuse_0 rfl (lv_at hl 0 rfl) ?_
  refine k_iconst hx hb dX6_refuse_1 ?_
  refine k_icmp_ne (tgt := 16) hx hb dX6_refuse_2 (by decide) (by omega) (by omega) (fun _ => ?_) (fun h => by exfalso; omega)
  refine lv_iload_n hx hb dX6_refuse_16 rfl (lv_at hl 0 rfl) ?_
  refine k_iconst hx hb dX6_refuse_17 ?_
  refine k_icmp_ne (tgt := 32) hx hb dX6_refuse_18 (by decide) (by omega) (by omega) (fun _ => ?_) (fun h => by exfalso; omega)
  refine lv_iload_n hx hb dX6_refuse_32 rfl (lv_at hl 0 rfl) ?_
  refine k_iconst hx hb dX6_refuse_33 ?_
  refine k_icmp_ne (tgt := 48) hx hb dX6_refuse_34 (by decide) (by omega) (by omega) (fun _ => ?_) (fun h => by exfalso; omega)
  exact W.vret hx hb hr (fun t9 ht _ => ⟨rfl, ht⟩) (fun _ h => nomatch h) dX6_refuse_48 hlocks
theorem rf_in0 (w : Cond) (hw : w ∈ (vx_atS RX6 264 "java/lang/IndexOutOfBoundsException" ["java/lang/RuntimeException", "java/lang/Exception"]).filter goodWord) : w ∈ wsX6_refuse := List.mem_cons_of_mem _ (List.mem_append_left _ (List.mem_append_left _ (List.mem_append_right _ hw)))
theorem rf_in1 (w : Cond) (hw : w ∈ (vx_atS RX6 271 "java/lang/IllegalArgumentException" ["java/lang/RuntimeException", "java/lang/Exception"]).filter goodWord) : w ∈ wsX6_refuse := List.mem_cons_of_mem _ (List.mem_append_left _ (List.mem_append_right _ hw))
theorem rf_in2 (w : Cond) (hw : w ∈ (vx_atS RX6 276 "java/lang/IllegalStateException" ["java/lang/RuntimeException", "java/lang/Exception"]).filter goodWord) : w ∈ wsX6_refuse := List.mem_cons_of_mem _ (List.mem_append_right _ hw)
set_option maxHeartbeats 4000000 in
theorem c_X6_refuse1 (l : Launch) (hl9 : l.stackTraces = false) (D : va_G) : vx_Met l yX6_refuse wsX6_refuse { frames := 6, cells := 1, slots := 6, locals := 90 } (kPre exA D [] [.int (iI 1)]) kNo (XK (exN 0)) 1 6 (fun _ => False) := by
  refine kTH_start (cc := cX6_refuse) (maxL := 1) (ret := none) (by decide) rfl (Nat.le_of_ble_eq_true rfl) ?_
  intro p e s m below meth c hx hb hr hlocks hml hts hown ht hG hP ls hl
  have hl : lv_has ls 1 [(0, .int (iI 1))] := hl
  obtain ⟨⟨sa, hsa⟩, hca, _⟩ := hG.1 0 (by decide)
  refine lv_iload_n hx hb dX6_refuse_0 rfl (lv_at hl 0 rfl) ?_
  refine k_iconst hx hb dX6_refuse_1 ?_
  refine k_icmp_ne (tgt := 16) hx hb dX6_refuse_2 (by decide) (by omega) (by omega) (fun h => by exfalso; omega) (fun _ => ?_)
  refine vx_throwSW (own := RX6) (cls := "java/lang/IndexOutOfBoundsException") (text := exT 0) (names := ["java/lang/RuntimeException", "java/lang/Exception"]) (ik := 260) (is := 262) (ic := 264) (sa := sa) (A := fun _ => False) hx hb hl9 hown (by decide +kernel) (by decide +kernel) (hts (.classLink RX6 260 "java/lang/IndexOutOfBoundsException") (by decide +kernel)) (hts (.initialized "java/lang/IndexOutOfBoundsException") (by decide +kernel)) hsa ?_ (by decide +kernel) hG.2.1 hG.2.2.1 va_S.rf (hl.1.trans hml.symm) dX6_refuse_5 dX6_refuse_8 dX6_refuse_9 dX6_refuse_12 dX6_refuse_15 (fun x h => (ht x h).elim) (Nat.le_of_ble_eq_true rfl) (Nat.le_of_ble_eq_true rfl) (Nat.le_of_ble_eq_true rfl) (Nat.le_of_ble_eq_true rfl) hlocks (fun t _ h1 h2 => ⟨rfl, h1, fun q hq _ => h2 q hq⟩) (fun _ h => nomatch h) (Nat.le_refl _) (Nat.le_refl _)
  refine vx_hat (B := [.castable "java/lang/IndexOutOfBoundsException" "java/lang/IndexOutOfBoundsException", .declares (Bundle.initS "java/lang/RuntimeException"), .declares (Bundle.initS "java/lang/Exception"), .declares (Bundle.initS Bundle.tN)]) (fun w hw => hts w (rf_in0 w hw)) (by decide +kernel) (vx_c (va_Nw.use rfl hca) (vx_c (va_Nw.use rfl (hG.2.2.2 0 (by decide))) (vx_c (va_Nw.use rfl (hG.2.2.2 1 (by decide))) (vx_c (va_Nw.use rfl (hG.2.2.2 2 (by decide))) vx_n))))
set_option maxHeartbeats 4000000 in
theorem c_X6_refuse2 (l : Launch) (hl9 : l.stackTraces = false) (D : va_G) : vx_Met l yX6_refuse wsX6_refuse { frames := 6, cells := 1, slots := 6, locals := 90 } (kPre exA D [] [.int (iI 2)]) kNo (XK (exN 1)) 1 6 (fun _ => False) := by
  refine kTH_start (cc := cX6_refuse) (maxL := 1) (ret := none) (by decide) rfl (Nat.le_of_ble_eq_true rfl) ?_
  intro p e s m below meth c hx hb hr hlocks hml hts hown ht hG hP ls hl
  have hl : lv_has ls 1 [(0, .int (iI 2))] := hl
  obtain ⟨⟨sa, hsa⟩, hca, _⟩ := hG.1 1 (by decide)
  refine lv_iload_n hx hb dX6_refuse_0 rfl (lv_at hl 0 rfl) ?_
  refine k_iconst hx hb dX6_refuse_1 ?_
  refine k_icmp_ne (tgt := 16) hx hb dX6_refuse_2 (by decide) (by omega) (by omega) (fun _ => ?_) (fun h => by exfalso; omega)
  refine lv_iload_n hx hb dX6_refuse_16 rfl (lv_at hl 0 rfl) ?_
  refine k_iconst hx hb dX6_refuse_17 ?_
  refine k_icmp_ne (tgt := 32) hx hb dX6_refuse_18 (by decide) (by omega) (by omega) (fun h => by exfalso; omega) (fun _ => ?_)
  refine vx_throwSW (own := RX6) (cls := "java/lang/IllegalArgumentException") (text := exT 1) (names := ["java/lang/RuntimeException", "java/lang/Exception"]) (ik := 267) (is := 269) (ic := 271) (sa := sa) (A := fun _ => False) hx hb hl9 hown (by decide +kernel) (by decide +kernel) (hts (.classLink RX6 267 "java/lang/IllegalArgumentException") (by decide +kernel)) (hts (.initialized "java/lang/IllegalArgumentException") (by decide +kernel)) hsa ?_ (by decide +kernel) hG.2.1 hG.2.2.1 va_S.rf (hl.1.trans hml.symm) dX6_refuse_21 dX6_refuse_24 dX6_refuse_25 dX6_refuse_28 dX6_refuse_31 (fun x h => (ht x h).elim) (Nat.le_of_ble_eq_true rfl) (Nat.le_of_ble_eq_true rfl) (Nat.le_of_ble_eq_true rfl) (Nat.le_of_ble_eq_true rfl) hlocks (fun t _ h1 h2 => ⟨rfl, h1, fun q hq _ => h2 q hq⟩) (fun _ h => nomatch h) (Nat.le_refl _) (Nat.le_refl _)
  refine vx_hat (B := [.castable "java/lang/IllegalArgumentException" "java/lang/IllegalArgumentException", .declares (Bundle.initS "java/lang/RuntimeException"), .declares (Bundle.initS "java/lang/Exception"), .declares (Bundle.initS Bundle.tN)]) (fun w hw => hts w (rf_in1 w hw)) (by decide +kernel) (vx_c (va_Nw.use rfl hca) (vx_c (va_Nw.use rfl (hG.2.2.2 0 (by decide))) (vx_c (va_Nw.use rfl (hG.2.2.2 1 (by decide))) (vx_c (va_Nw.use rfl (hG.2.2.2 2 (by decide))) vx_n))))
set_option maxHeartbeats 4000000 in
theorem c_X6_refuse3 (l : Launch) (hl9 : l.stackTraces = false) (D : va_G) : vx_Met l yX6_refuse wsX6_refuse { frames := 6, cells := 1, slots := 6, locals := 90 } (kPre exA D [] [.int (iI 3)]) kNo (XK (exN 2)) 1 6 (fun _ => False) := by
  refine kTH_start (cc := cX6_refuse) (maxL := 1) (ret := none) (by decide) rfl (Nat.le_of_ble_eq_true rfl) ?_
  intro p e s m below meth c hx hb hr hlocks hml hts hown ht hG hP ls hl
  have hl : lv_has ls 1 [(0, .int (iI 3))] := hl
  obtain ⟨⟨sa, hsa⟩, hca, _⟩ := hG.1 2 (by decide)
  refine lv_iload_n hx hb dX6_refuse_0 rfl (lv_at hl 0 rfl) ?_
  refine k_iconst hx hb dX6_refuse_1 ?_
  refine k_icmp_ne (tgt := 16) hx hb dX6_refuse_2 (by decide) (by omega) (by omega) (fun _ => ?_) (fun h => by exfalso; omega)
  refine lv_iload_n hx hb dX6_refuse_16 rfl (lv_at hl 0 rfl) ?_
  refine k_iconst hx hb dX6_refuse_17 ?_
  refine k_icmp_ne (tgt := 32) hx hb dX6_refuse_18 (by decide) (by omega) (by omega) (fun _ => ?_) (fun h => by exfalso; omega)
  refine lv_iload_n hx hb dX6_refuse_32 rfl (lv_at hl 0 rfl) ?_
  refine k_iconst hx hb dX6_refuse_33 ?_
  refine k_icmp_ne (tgt := 48) hx hb dX6_refuse_34 (by decide) (by omega) (by omega) (fun h => by exfalso; omega) (fun _ => ?_)
  refine vx_throwSW (own := RX6) (cls := "java/lang/IllegalStateException") (text := exT 2) (names := ["java/lang/RuntimeException", "java/lang/Exception"]) (ik := 272) (is := 274) (ic := 276) (sa := sa) (A := fun _ => False) hx hb hl9 hown (by decide +kernel) (by decide +kernel) (hts (.classLink RX6 272 "java/lang/IllegalStateException") (by decide +kernel)) (hts (.initialized "java/lang/IllegalStateException") (by decide +kernel)) hsa ?_ (by decide +kernel) hG.2.1 hG.2.2.1 va_S.rf (hl.1.trans hml.symm) dX6_refuse_37 dX6_refuse_40 dX6_refuse_41 dX6_refuse_44 dX6_refuse_47 (fun x h => (ht x h).elim) (Nat.le_of_ble_eq_true rfl) (Nat.le_of_ble_eq_true rfl) (Nat.le_of_ble_eq_true rfl) (Nat.le_of_ble_eq_true rfl) hlocks (fun t _ h1 h2 => ⟨rfl, h1, fun q hq _ => h2 q hq⟩) (fun _ h => nomatch h) (Nat.le_refl _) (Nat.le_refl _)
  refine vx_hat (B := [.castable "java/lang/IllegalStateException" "java/lang/IllegalStateException", .declares (Bundle.initS "java/lang/RuntimeException"), .declares (Bundle.initS "java/lang/Exception"), .declares (Bundle.initS Bundle.tN)]) (fun w hw => hts w (rf_in2 w hw)) (by decide +kernel) (vx_c (va_Nw.use rfl hca) (vx_c (va_Nw.use rfl (hG.2.2.2 0 (by decide))) (vx_c (va_Nw.use rfl (hG.2.2.2 1 (by decide))) (vx_c (va_Nw.use rfl (hG.2.2.2 2 (by decide))) vx_n))))
