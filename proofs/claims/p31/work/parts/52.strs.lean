/-! the script's world: P 10 length, commands, .., at; P 11 text, P 12 kinds, P 13 numbers -/
def scW (cy : Nat → ClassId) (a : Nat → Nat) (P : Nat → Int → Int) : va_W := [
  (a 10, .inr (4, [.int (iI (P 10 0)), .int (iI (P 10 1)), .ref (a 11), .ref (a 12), .ref (a 13), .int (iI (P 10 5))])),
  (a 11, .inl (cy 1, 150, .inl (aI (P 11)))), (a 12, .inl (cy 0, 150, .inl (aI (P 12)))), (a 13, .inl (cy 0, 600, .inl (aI (P 13))))]
def scplW (cy : Nat → ClassId) (a : Nat → Nat) (P : Nat → Int → Int) : va_W := scW cy a P ++ plW cy a P
/-! String constants as rows of whole numbers -/
def strA (q : Nat) (L : List Int) (A : Nat → Prop) (U : State) (H : Heap) : Prop := ∃ v : Nat, va_O RJ0 q A U H ∧ va_OF "java/lang/String" "coder" "B" (.int (iI 0)) q A U H ∧ va_OF "java/lang/String" "value" "[B" (.ref v) q A U H ∧ va_T .byte v L.length (fun j => .int (aI (listI L) j)) A U H
def jdkA (A : Nat → Prop) (U : State) (H : Heap) : Prop := va_Z "java/lang/String" "COMPACT_STRINGS" "Z" (.int (iI 1)) A U H ∧ va_Zq "jdk/internal/util/Preconditions" "SIOOBE_FORMATTER" "Ljava/util/function/BiFunction;" A U H
theorem strA.kept {q : Nat} {L : List Int} {A : Nat → Prop} {U : State} {H H1 : Heap} (h : strA q L A U H) (hq : ∀ a : Nat, a < H.size → ¬ A a → H1[a]? = H[a]?) : strA q L A U H1 := by
  obtain ⟨v, h1, h2, h3, h4⟩ := h
  exact ⟨v, h1.kept hq, h2.kept hq, h3.kept hq, h4.kept hq⟩
theorem strA.moved {q : Nat} {L : List Int} {A : Nat → Prop} {u U : State} {H : Heap} (hvm : u.vm.Alike U.vm) (h : strA q L A u H) : strA q L A U H := by
  obtain ⟨v, h1, h2, h3, h4⟩ := h
  exact ⟨v, va_O.moved hvm h1, va_OF.moved hvm h2, va_OF.moved hvm h3, va_T.moved hvm h4⟩
theorem strA.narrow {q : Nat} {L : List Int} {A B : Nat → Prop} {U : State} {H : Heap} (h : strA q L A U H) (hAB : ∀ q, B q → A q) : strA q L B U H := by
  obtain ⟨v, h1, h2, h3, h4⟩ := h
  exact ⟨v, h1.narrow hAB, h2.narrow hAB, h3.narrow hAB, h4.narrow hAB⟩
theorem jdkA_ok : kGok jdkA :=
  ⟨fun _ _ _ _ hq h => ⟨h.1.kept hq, h.2.kept hq⟩, fun _ _ _ _ hW h => ⟨va_Z.moved hW.alike h.1, va_Zq.moved hW.alike h.2⟩, fun _ _ _ _ hv h => ⟨va_Z.moved (alike_eq hv) h.1, va_Zq.moved (alike_eq hv) h.2⟩, fun _ _ _ _ hAB h => ⟨h.1.narrow hAB, h.2.narrow hAB⟩⟩
def GSt (q : Nat) (L : List Int) : (Nat → Prop) → State → Heap → Prop := fun A U H => strA q L A U H ∧ jdkA A U H
theorem GSt_ok (q : Nat) (L : List Int) : kGok (GSt q L) :=
  ⟨fun A U H H1 hq h => ⟨h.1.kept hq, jdkA_ok.1 A U H H1 hq h.2⟩, fun A s U H hW h => ⟨strA.moved hW.alike h.1, jdkA_ok.2.1 A s U H hW h.2⟩, fun A s U H hv h => ⟨strA.moved (alike_eq hv) h.1, jdkA_ok.2.2.1 A s U H hv h.2⟩, fun A B U H hAB h => ⟨h.1.narrow hAB, jdkA_ok.2.2.2 A B U H hAB h.2⟩⟩
def GAr (v : Nat) (L : List Int) : (Nat → Prop) → State → Heap → Prop := fun A U H => va_T .byte v L.length (fun j => .int (aI (listI L) j)) A U H ∧ jdkA A U H
theorem GAr_ok (v : Nat) (L : List Int) : kGok (GAr v L) :=
  ⟨fun A U H H1 hq h => ⟨h.1.kept hq, jdkA_ok.1 A U H H1 hq h.2⟩, fun A s U H hW h => ⟨va_T.moved hW.alike h.1, jdkA_ok.2.1 A s U H hW h.2⟩, fun A s U H hv h => ⟨va_T.moved (alike_eq hv) h.1, jdkA_ok.2.2.1 A s U H hv h.2⟩, fun A B U H hAB h => ⟨h.1.narrow hAB, jdkA_ok.2.2.2 A B U H hAB h.2⟩⟩
def GWd (q : Nat) (L : List Int) (D : va_G) (cy : Nat → ClassId) : (Nat → Prop) → State → Heap → Prop := fun A U H => GG D cy A U H ∧ GSt q L A U H
theorem GWd_ok (q : Nat) (L : List Int) (D : va_G) (cy : Nat → ClassId) : kGok (GWd q L D cy) :=
  ⟨fun A U H H1 hq h => ⟨(GG_ok D cy).1 A U H H1 hq h.1, (GSt_ok q L).1 A U H H1 hq h.2⟩, fun A s U H hW h => ⟨(GG_ok D cy).2.1 A s U H hW h.1, (GSt_ok q L).2.1 A s U H hW h.2⟩, fun A s U H hv h => ⟨(GG_ok D cy).2.2.1 A s U H hv h.1, (GSt_ok q L).2.2.1 A s U H hv h.2⟩, fun A B U H hAB h => ⟨(GG_ok D cy).2.2.2 A B U H hAB h.1, (GSt_ok q L).2.2.2 A B U H hAB h.2⟩⟩
def wdK : Nat → Nat := fun i => [57, 63, 65, 67, 69, 71, 73].getD i 0
def wdT : Nat → String := fun i => ["trail", "point", "star", "pole", "set", "back", "search"].getD i ""
def wdA (ad : Nat → Nat) (A : Nat → Prop) (U : State) (H : Heap) : Prop := ∀ i : Nat, i < 7 → vk_R RX5 (wdK i) (wdT i) (ad i) U ∧ strA (ad i) (wdL (i : Int)) A U H
def GS (D : va_G) (cy : Nat → ClassId) : (Nat → Prop) → State → Heap → Prop := fun A U H => GG D cy A U H ∧ jdkA A U H ∧ ∃ ad : Nat → Nat, wdA ad A U H
theorem GS_ok (D : va_G) (cy : Nat → ClassId) : kGok (GS D cy) := by
  refine ⟨fun A U H H1 hq h => ?_, fun A s U H hW h => ?_, fun A s U H hv h => ?_, fun A B U H hAB h => ?_⟩
  · obtain ⟨h1, h2, ad, h3⟩ := h
    exact ⟨(GG_ok D cy).1 A U H H1 hq h1, jdkA_ok.1 A U H H1 hq h2, ad, fun i hi => ⟨(h3 i hi).1, (h3 i hi).2.kept hq⟩⟩
  · obtain ⟨h1, h2, ad, h3⟩ := h
    exact ⟨(GG_ok D cy).2.1 A s U H hW h1, jdkA_ok.2.1 A s U H hW h2, ad, fun i hi => ⟨vk_R.warm hW (h3 i hi).1, strA.moved hW.alike (h3 i hi).2⟩⟩
  · obtain ⟨h1, h2, ad, h3⟩ := h
    exact ⟨(GG_ok D cy).2.2.1 A s U H hv h1, jdkA_ok.2.2.1 A s U H hv h2, ad, fun i hi => ⟨vk_R.same hv.symm (h3 i hi).1, strA.moved (alike_eq hv) (h3 i hi).2⟩⟩
  · obtain ⟨h1, h2, ad, h3⟩ := h
    exact ⟨(GG_ok D cy).2.2.2 A B U H hAB h1, jdkA_ok.2.2.2 A B U H hAB h2, ad, fun i hi => ⟨(h3 i hi).1, (h3 i hi).2.narrow hAB⟩⟩
/-! methods of the JDK's String that only read -/
def kROv : Array Value → State → Outcome → State → Prop := fun _ st oc t => oc = .returned none ∧ t.heap = st.heap
section KRV
variable {p : Program} {l : Launch} {e : Env} {R : Room} {s : State} {m : MethodId} {args : Array Value} {below : List Frame} {meth : Method} {c : Code} {H : Heap} {locs : List Loc} {cells slots : Nat} {Q : State → Prop}
variable {pc : Nat} {ls : Array Slot} {rest st0 : List Value} {a : Array Value}
theorem k_rov {free : Addr → Prop} (hr : va_Run p l e R s m args below meth c H locs cells slots 0 0 (F0 m pc ls st0) rest (kROv a) (fun _ => False))
    (kk : W p l e R s m args below meth c H locs cells slots Q (F0 m (pc + 3) ls rest)) : W p l e R s m args below meth c H locs cells slots Q (F0 m pc ls st0) := by
  intro T hT X
  obtain ⟨v, st₀, t, T', L, h0, X', hL, e1, e2, ⟨hv, hh⟩, st⟩ := hr T hT X
  cases hv
  obtain ⟨t2, a1, b1⟩ := kk T' (by rw [e1, hh, h0]) (Stand.forget X' (fun q h => (hL q h).elim))
  exact ⟨t2, st t2 a1, b1⟩
variable {y : MethodName} {bytes cc : ByteArray} {maxL nL index : Nat} {ret : Option FieldType} {wsy ws' : List Cond} {rm : Room} {Ts : List Cond} {own C : String} {b : Addr} {As : List Value} {G : (Nat → Prop) → State → Heap → Prop} {D : va_G} {wsC : va_W} {post : Int → Prop}
theorem k_rovS (S : CallFix p m c cc nL s args Ts own) (hM : Met l y wsy rm (kPre G D wsC As) kROv 0 0 (fun _ => False)) (hT : GoodIn Ts (va_wsS own index y wsy)) (hw : wsy = Cond.code y bytes maxL ret :: ws') (hrm : rm.cells = 0 ∧ rm.slots = 0) (n9 : Nat) (hn9 : As.length = n9)
    (hd : y.cls ≠ "java/lang/invoke/MethodHandle" ∧ y.cls ≠ "java/lang/invoke/VarHandle" ∧ (parseMethodDescriptor y.desc).map (fun d => d.parameters.length) = some n9) (hR : rm.frames + 1 ≤ R.frames ∧ 8 + (maxL + 11) + rm.locals ≤ R.locals)
    (hGok : kGok G) (hG : G (fun _ => False) s H) (hP : va_P D vwCl wsC H) (hsize : ls.size = nL) (hstack : st0 = As.reverse ++ rest) (hW : (rest.map fun v => v.category).sum ≤ 8) (hcs : cells ≤ R.cells ∧ slots ≤ R.slots) (hdg : decode cc pc = .ok (.invokestatic index, 3))
    (kk : W p l e R s m args below meth c H locs cells slots Q (F0 m (pc + 3) ls rest)) : W p l e R s m args below meth c H locs cells slots Q (F0 m pc ls st0) :=
  k_rov (free := fun _ => False) (va_runS S hM (va_cwS n9 S.2.2.2.2 hT hw hrm.1 hrm.2 hd hR) ⟨kPre_blind hGok, fun U hU hW => ⟨rfl, by rw [hU]; exact hGok.2.1 _ s U H hW hG, by rw [hU]; exact hP⟩⟩ rfl hn9 hsize hstack (lv_room hW) hdg hcs) kk
end KRV
theorem strO {q : Nat} {L : List Int} {A : Nat → Prop} {s : State} {H : Heap} (h : strA q L A s H) : ∃ cell : Cell, H[q]? = some cell ∧ cell.vm.isStatics = false ∧ s.vm.findClass RJ0 = some cell.cls := by
  obtain ⟨v, ⟨cell, h1, h2, h3, _⟩, _⟩ := h
  exact ⟨cell, h1, h2, h3⟩
set_option maxHeartbeats 4000000 in
theorem c_J0_coder (l : Launch) (D : va_G) (q : Nat) (L : List Int) : Met l yJ0_coder_7d493 wsJ0_coder_7d493 { frames := 0, cells := 0, slots := 0, locals := 0 } (kPre (GSt q L) D [] [.ref q]) (kRO (fun r => r = 0)) 0 0 (fun _ => False) := by
  refine kRO_startF (cc := cJ0_coder_7d493) (maxL := 1) (ret := some .byte) (by decide +kernel) rfl (Nat.le_of_ble_eq_true rfl) ?_
  intro p e s m below meth c hx hb hr hlocks hml hts hown hG hP ls hl
  have hl : lv_has ls 1 [(0, .ref q)] := hl
  obtain ⟨⟨v, h1, h2, h3, h4⟩, g1, g2⟩ := hG
  refine va_gets hx hb g1 va_S.rf hown (hts (.fieldLink RJ0 38 "java/lang/String" "COMPACT_STRINGS" "Z") (by decide +kernel)) (fun _ h9 => h9) dJ0_coder_7d493_0 ?_
  refine k_if_eq (tgt := 13) hx hb dJ0_coder_7d493_3 (by decide) (by omega) (fun h => by exfalso; omega) (fun _ => ?_)
  refine lv_aload_n hx hb dJ0_coder_7d493_6 rfl (lv_at hl 0 rfl) ?_
  refine vk_getf hx hb h2 va_S.rf hown (hts (.fieldLink RJ0 15 "java/lang/String" "coder" "B") (by decide +kernel)) (fun _ h9 => h9) dJ0_coder_7d493_7 ?_
  refine lv_goto (tgt := 14) hx hb dJ0_coder_7d493_10 (by decide) ?_
  exact W.zret (v := iI 0) hx hb hr (by decide +kernel) (fun t9 ht _ => ⟨0, rfl, rfl, ht⟩) (fun _ h => nomatch h) dJ0_coder_7d493_14 hlocks
set_option maxHeartbeats 4000000 in
theorem c_J0_length (l : Launch) (D : va_G) (q : Nat) (L : List Int) (hL : L.length ≤ 10) : Met l yJ0_length_8abf5 wsJ0_length_8abf5 { frames := 1, cells := 0, slots := 0, locals := 20 } (kPre (GSt q L) D [] [.ref q]) (kRO (fun r => r = (L.length : Int))) 0 0 (fun _ => False) := by
  refine kRO_startF (cc := cJ0_length_8abf5) (maxL := 1) (ret := some .int) (by decide +kernel) rfl (Nat.le_of_ble_eq_true rfl) ?_
  intro p e s m below meth c hx hb hr hlocks hml hts hown hG hP ls hl
  have hl : lv_has ls 1 [(0, .ref q)] := hl
  have hG0 := hG
  obtain ⟨⟨v, h1, h2, h3, h4⟩, g1, g2⟩ := hG
  refine lv_aload_n hx hb dJ0_length_8abf5_0 rfl (lv_at hl 0 rfl) ?_
  refine vk_getf hx hb h3 va_S.rf hown (hts (.fieldLink RJ0 9 "java/lang/String" "value" "[B") (by decide +kernel)) (fun _ h9 => h9) dJ0_length_8abf5_1 ?_
  refine va_tlen hx hb h4 va_S.rf (iI_nat L.length) dJ0_length_8abf5_4 ?_
  refine lv_aload_n hx hb dJ0_length_8abf5_5 rfl (lv_at hl 0 rfl) ?_
  refine k_roV (As := []) (rest := [.int (iI (L.length : Int))]) ⟨hx, hb, hml, hown, hts⟩ (c_J0_coder l D q L) gJ0_length_8abf5_J0_coder_7d493 rfl ⟨rfl, rfl⟩ 0 rfl (by decide +kernel) ⟨Nat.le_of_ble_eq_true rfl, Nat.le_of_ble_eq_true rfl⟩ (GSt_ok q L) hG0 hP (strO hG0.1) hl.1 rfl (Nat.le_of_ble_eq_true rfl) ⟨Nat.le_of_ble_eq_true rfl, Nat.le_of_ble_eq_true rfl⟩ dJ0_length_8abf5_6 (fun r hr9 => ?_)
  have hr9 : r = 0 := hr9
  subst hr9
  refine k_ishr hx hb dJ0_length_8abf5_9 (by omega) (by omega) ?_
  refine k_eqI (v := (L.length : Int) / 2 ^ (0 : Int).toNat) (w := (L.length : Int)) (by rw [show (0 : Int).toNat = 0 from rfl, Int.pow_zero, Int.ediv_one]) ?_
  exact W.iret (v := iI (L.length : Int)) hx hb hr (fun t9 ht _ => ⟨(L.length : Int), rfl, rfl, ht⟩) (fun _ h => nomatch h) dJ0_length_8abf5_10 hlocks
set_option maxHeartbeats 4000000 in
theorem c_J0_isLatin1 (l : Launch) (D : va_G) (q : Nat) (L : List Int) : Met l yJ0_isLatin1_aae02 wsJ0_isLatin1_aae02 { frames := 0, cells := 0, slots := 0, locals := 0 } (kPre (GSt q L) D [] [.ref q]) (kRO (fun r => r = 1)) 0 0 (fun _ => False) := by
  refine kRO_startF (cc := cJ0_isLatin1_aae02) (maxL := 1) (ret := some .boolean) (by decide +kernel) rfl (Nat.le_of_ble_eq_true rfl) ?_
  intro p e s m below meth c hx hb hr hlocks hml hts hown hG hP ls hl
  have hl : lv_has ls 1 [(0, .ref q)] := hl
  obtain ⟨⟨v, h1, h2, h3, h4⟩, g1, g2⟩ := hG
  refine va_gets hx hb g1 va_S.rf hown (hts (.fieldLink RJ0 38 "java/lang/String" "COMPACT_STRINGS" "Z") (by decide +kernel)) (fun _ h9 => h9) dJ0_isLatin1_aae02_0 ?_
  refine k_if_eq (tgt := 17) hx hb dJ0_isLatin1_aae02_3 (by decide) (by omega) (fun h => by exfalso; omega) (fun _ => ?_)
  refine lv_aload_n hx hb dJ0_isLatin1_aae02_6 rfl (lv_at hl 0 rfl) ?_
  refine vk_getf hx hb h2 va_S.rf hown (hts (.fieldLink RJ0 15 "java/lang/String" "coder" "B") (by decide +kernel)) (fun _ h9 => h9) dJ0_isLatin1_aae02_7 ?_
  refine k_if_ne (tgt := 17) hx hb dJ0_isLatin1_aae02_10 (by decide) (by omega) (fun h => by exfalso; omega) (fun _ => ?_)
  refine k_iconst hx hb dJ0_isLatin1_aae02_13 ?_
  refine lv_goto (tgt := 18) hx hb dJ0_isLatin1_aae02_14 (by decide) ?_
  exact W.zret (v := iI 1) hx hb hr (by decide +kernel) (fun t9 ht _ => ⟨1, rfl, rfl, ht⟩) (fun _ h => nomatch h) dJ0_isLatin1_aae02_18 hlocks
set_option maxHeartbeats 4000000 in
theorem c_J3_checkIndex (l : Launch) (D : va_G) (i n : Int) (f : Value) (hf : f = .null ∨ ∃ t : Nat, f = .ref t) (h0 : 0 ≤ i ∧ i < n ∧ n ≤ 2147483647) : Met l yJ3_checkIndex_8e157 wsJ3_checkIndex_8e157 { frames := 0, cells := 0, slots := 0, locals := 0 } (kPre kGT D [] [.int (iI i), .int (iI n), f]) (kRO (fun r => r = i)) 0 0 (fun _ => False) := by
  have key : ∀ f : Value, (lg_sl [.int (iI i), .int (iI n), f]).length ≤ 3 → Met l yJ3_checkIndex_8e157 wsJ3_checkIndex_8e157 { frames := 0, cells := 0, slots := 0, locals := 0 } (kPre kGT D [] [.int (iI i), .int (iI n), f]) (kRO (fun r => r = i)) 0 0 (fun _ => False) := by
    intro f hlen
    refine kRO_startF (cc := cJ3_checkIndex_8e157) (maxL := 3) (ret := some .int) (by decide +kernel) rfl hlen ?_
    intro p e s m below meth c hx hb hr hlocks hml hts hown hG hP ls hl
    have hl : lv_has ls 3 [(0, .int (iI i)), (1, .int (iI n)), (2, f)] := hl
    refine lv_iload_n hx hb dJ3_checkIndex_8e157_0 rfl (lv_at hl 0 rfl) ?_
    refine k_if_lt (tgt := 9) hx hb dJ3_checkIndex_8e157_1 (by decide) (by omega) (fun h => by exfalso; omega) (fun _ => ?_)
    refine lv_iload_n hx hb dJ3_checkIndex_8e157_4 rfl (lv_at hl 0 rfl) ?_
    refine lv_iload_n hx hb dJ3_checkIndex_8e157_5 rfl (lv_at hl 1 rfl) ?_
    refine k_icmp_lt (tgt := 16) hx hb dJ3_checkIndex_8e157_6 (by decide) (by omega) (by omega) (fun _ => ?_) (fun h => by exfalso; omega)
    refine lv_iload_n hx hb dJ3_checkIndex_8e157_16 rfl (lv_at hl 0 rfl) ?_
    exact W.iret (v := iI i) hx hb hr (fun t9 ht _ => ⟨i, rfl, rfl, ht⟩) (fun _ h => nomatch h) dJ3_checkIndex_8e157_17 hlocks
  rcases hf with rfl | ⟨t, rfl⟩
  · exact key _ (Nat.le_of_ble_eq_true rfl)
  · exact key _ (Nat.le_of_ble_eq_true rfl)
set_option maxHeartbeats 4000000 in
theorem c_J0_checkIndex (l : Launch) (D : va_G) (i n : Int) (h0 : 0 ≤ i ∧ i < n ∧ n ≤ 2147483647) : Met l yJ0_checkIndex_df160 wsJ0_checkIndex_df160 { frames := 1, cells := 0, slots := 0, locals := 22 } (kPre jdkA D [] [.int (iI i), .int (iI n)]) kROv 0 0 (fun _ => False) := by
  refine kRO_startF (cc := cJ0_checkIndex_df160) (maxL := 2) (ret := none) (by decide +kernel) rfl (Nat.le_of_ble_eq_true rfl) ?_
  intro p e s m below meth c hx hb hr hlocks hml hts hown hG hP ls hl
  have hl : lv_has ls 2 [(0, .int (iI i)), (1, .int (iI n))] := hl
  have fin : ∀ f : Value, (f = .null ∨ ∃ t : Nat, f = .ref t) → W p l e { frames := 1, cells := 0, slots := 0, locals := 22 } s m ([.int (iI i), .int (iI n)] : List Value).toArray below meth c s.heap [] 0 0 (MQ below kROv ([.int (iI i), .int (iI n)] : List Value).toArray s 0 0 (fun _ => False)) (F0 m 5 ls [f, .int (iI n), .int (iI i)]) := by
    intro f hf
    refine k_roS (As := [.int (iI i), .int (iI n), f]) (rest := []) ⟨hx, hb, hml, hown, hts⟩ (c_J3_checkIndex l D i n f hf h0) gJ0_checkIndex_df160_J3_checkIndex_8e157 rfl ⟨rfl, rfl⟩ 3 rfl (by decide +kernel) ⟨Nat.le_of_ble_eq_true rfl, Nat.le_of_ble_eq_true rfl⟩ kGT_ok trivial (fun k q h => by simp at h) hl.1 rfl (Nat.le_of_ble_eq_true rfl) ⟨Nat.le_of_ble_eq_true rfl, Nat.le_of_ble_eq_true rfl⟩ dJ0_checkIndex_df160_5 (fun r _ => ?_)
    refine lv_pop hx hb dJ0_checkIndex_df160_8 rfl ?_
    exact W.vret hx hb hr (fun t9 ht _ => ⟨rfl, ht⟩) (fun _ h => nomatch h) dJ0_checkIndex_df160_9 hlocks
  have w := hts (.fieldLink RJ0 1053 "jdk/internal/util/Preconditions" "SIOOBE_FORMATTER" "Ljava/util/function/BiFunction;") (by decide +kernel)
  refine lv_iload_n hx hb dJ0_checkIndex_df160_0 rfl (lv_at hl 0 rfl) ?_
  refine lv_iload_n hx hb dJ0_checkIndex_df160_1 rfl (lv_at hl 1 rfl) ?_
  rcases hG.2 with g | ⟨t, g⟩
  · exact va_gets hx hb g va_S.rf hown w (fun _ h9 => h9) dJ0_checkIndex_df160_2 (fin _ (Or.inl rfl))
  · exact va_gets hx hb g va_S.rf hown w (fun _ h9 => h9) dJ0_checkIndex_df160_2 (fin _ (Or.inr ⟨t, rfl⟩))
theorem chr_ok : ∀ n : Nat, n < 128 → nI n &&& iI 255 = nI n ∧ ((nI n).toUInt32 % 65536).toInt32 = nI n ∧ narrow .char (.int (nI n)) = .int (nI n) := by decide +kernel
theorem chr_I {x : Int} (h : 0 ≤ x ∧ x ≤ 127) : iI x &&& iI 255 = iI x ∧ ((iI x).toUInt32 % 65536).toInt32 = iI x ∧ narrow .char (.int (iI x)) = .int (iI x) := by
  have e : iI x = nI x.toNat := by rw [iI_nat, Int.toNat_of_nonneg h.1]
  rw [e]
  exact chr_ok x.toNat (by omega)
set_option maxHeartbeats 4000000 in
theorem c_J1_charAt (l : Launch) (D : va_G) (v : Nat) (L : List Int) (i : Int) (h0 : 0 ≤ i ∧ i < (L.length : Int)) (hL : L.length ≤ 10) (hB : 0 ≤ listI L i ∧ listI L i ≤ 127) : Met l yJ1_charAt_3b067 wsJ1_charAt_3b067 { frames := 2, cells := 0, slots := 0, locals := 44 } (kPre (GAr v L) D [] [.ref v, .int (iI i)]) (kRO (fun r => r = listI L i)) 0 0 (fun _ => False) := by
  refine kRO_startF (cc := cJ1_charAt_3b067) (maxL := 2) (ret := some .char) (by decide +kernel) rfl (Nat.le_of_ble_eq_true rfl) ?_
  intro p e s m below meth c hx hb hr hlocks hml hts hown hG hP ls hl
  have hl : lv_has ls 2 [(0, .ref v), (1, .int (iI i))] := hl
  have hc := chr_I hB
  refine lv_iload_n hx hb dJ1_charAt_3b067_0 rfl (lv_at hl 1 rfl) ?_
  refine lv_aload_n hx hb dJ1_charAt_3b067_1 rfl (lv_at hl 0 rfl) ?_
  refine va_tlen hx hb hG.1 va_S.rf (iI_nat L.length) dJ1_charAt_3b067_2 ?_
  refine k_rovS (As := [.int (iI i), .int (iI (L.length : Int))]) (rest := []) ⟨hx, hb, hml, hown, hts⟩ (c_J0_checkIndex l D i (L.length : Int) (by omega)) gJ1_charAt_3b067_J0_checkIndex_df160 rfl ⟨rfl, rfl⟩ 2 rfl (by decide +kernel) ⟨Nat.le_of_ble_eq_true rfl, Nat.le_of_ble_eq_true rfl⟩ jdkA_ok hG.2 (fun k q h => by simp at h) hl.1 rfl (Nat.le_of_ble_eq_true rfl) ⟨Nat.le_of_ble_eq_true rfl, Nat.le_of_ble_eq_true rfl⟩ dJ1_charAt_3b067_3 ?_
  refine lv_aload_n hx hb dJ1_charAt_3b067_6 rfl (lv_at hl 0 rfl) ?_
  refine lv_iload_n hx hb dJ1_charAt_3b067_7 rfl (lv_at hl 1 rfl) ?_
  refine va_tb hx hb hG.1 va_S.rf (vp_iI (n := L.length) (by omega)) (v := .int (iI (listI L i))) (by rw [aI_get h0.1 (by omega)]) dJ1_charAt_3b067_8 ?_
  refine k_sipush hx hb dJ1_charAt_3b067_9 (by decide +kernel) ?_
  refine lv_iand hx hb dJ1_charAt_3b067_12 ?_
  rw [hc.1]
  refine lv_i2c hx hb dJ1_charAt_3b067_13 hc.2.1 ?_
  exact W.zret (v := iI (listI L i)) hx hb hr hc.2.2 (fun t9 ht _ => ⟨listI L i, rfl, rfl, ht⟩) (fun _ h => nomatch h) dJ1_charAt_3b067_14 hlocks
set_option maxHeartbeats 4000000 in
theorem c_J0_charAt (l : Launch) (D : va_G) (q : Nat) (L : List Int) (i : Int) (h0 : 0 ≤ i ∧ i < (L.length : Int)) (hL : L.length ≤ 10) (hB : 0 ≤ listI L i ∧ listI L i ≤ 127) : Met l yJ0_charAt_5068e wsJ0_charAt_5068e { frames := 3, cells := 0, slots := 0, locals := 66 } (kPre (GSt q L) D [] [.ref q, .int (iI i)]) (kRO (fun r => r = listI L i)) 0 0 (fun _ => False) := by
  refine kRO_startF (cc := cJ0_charAt_5068e) (maxL := 2) (ret := some .char) (by decide +kernel) rfl (Nat.le_of_ble_eq_true rfl) ?_
  intro p e s m below meth c hx hb hr hlocks hml hts hown hG hP ls hl
  have hl : lv_has ls 2 [(0, .ref q), (1, .int (iI i))] := hl
  have hc := chr_I hB
  have hG0 := hG
  obtain ⟨⟨v, h1, h2, h3, h4⟩, g⟩ := hG
  refine lv_aload_n hx hb dJ0_charAt_5068e_0 rfl (lv_at hl 0 rfl) ?_
  refine k_roV (As := []) (rest := []) ⟨hx, hb, hml, hown, hts⟩ (c_J0_isLatin1 l D q L) gJ0_charAt_5068e_J0_isLatin1_aae02 rfl ⟨rfl, rfl⟩ 0 rfl (by decide +kernel) ⟨Nat.le_of_ble_eq_true rfl, Nat.le_of_ble_eq_true rfl⟩ (GSt_ok q L) hG0 hP (strO hG0.1) hl.1 rfl (Nat.le_of_ble_eq_true rfl) ⟨Nat.le_of_ble_eq_true rfl, Nat.le_of_ble_eq_true rfl⟩ dJ0_charAt_5068e_1 (fun r hr9 => ?_)
  have hr9 : r = 1 := hr9
  subst hr9
  refine k_if_eq (tgt := 16) hx hb dJ0_charAt_5068e_4 (by decide) (by omega) (fun h => by exfalso; omega) (fun _ => ?_)
  refine lv_aload_n hx hb dJ0_charAt_5068e_7 rfl (lv_at hl 0 rfl) ?_
  refine vk_getf hx hb h3 va_S.rf hown (hts (.fieldLink RJ0 9 "java/lang/String" "value" "[B") (by decide +kernel)) (fun _ h9 => h9) dJ0_charAt_5068e_8 ?_
  refine lv_iload_n hx hb dJ0_charAt_5068e_11 rfl (lv_at hl 1 rfl) ?_
  refine k_roS (As := [.ref v, .int (iI i)]) (rest := []) ⟨hx, hb, hml, hown, hts⟩ (c_J1_charAt l D v L i h0 hL hB) gJ0_charAt_5068e_J1_charAt_3b067 rfl ⟨rfl, rfl⟩ 2 rfl (by decide +kernel) ⟨Nat.le_of_ble_eq_true rfl, Nat.le_of_ble_eq_true rfl⟩ (GAr_ok v L) ⟨h4, g⟩ (fun k q h => by simp at h) hl.1 rfl (Nat.le_of_ble_eq_true rfl) ⟨Nat.le_of_ble_eq_true rfl, Nat.le_of_ble_eq_true rfl⟩ dJ0_charAt_5068e_12 (fun r hr9 => ?_)
  have hr9 : r = listI L i := hr9
  subst hr9
  exact W.zret (v := iI (listI L i)) hx hb hr hc.2.2 (fun t9 ht _ => ⟨listI L i, rfl, rfl, ht⟩) (fun _ h => nomatch h) dJ0_charAt_5068e_15 hlocks
