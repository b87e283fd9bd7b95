/-! the law's frame: what holds all along, where a call ends -/
def zC (p : Program) (l : Launch) (s : State) (m : MethodId) (c : Code) (b L : Nat) (xs : Nat → Int32) (D : va_G) (cy : Nat → ClassId) : Prop :=
  (p.tables.exec = Jvm.exec ∧ c.code = cL_law ∧ c.maxLocals = 7 ∧ s.vm.findClass RL = some m.cls) ∧ (∀ w ∈ wsL_law, w.before #[Value.ref b] s = true) ∧ (va_X b L xs s s.heap ∧ b < s.heap.size ∧ L ≤ 2560) ∧ GX D cy (fun q : Nat => s.heap.size ≤ q) s s.heap ∧ l.stackTraces = false
def zK (p : Program) (l : Launch) (e : Env) (s : State) (m : MethodId) (below : List Frame) (meth : Method) (c : Code) (b : Nat) (D : va_G) (cy : Nat → ClassId) (Q : State → Prop) (i : Int) (cells slots : Nat) : Prop :=
  ∀ (a a2 : Nat → Nat) (o : Nat) (f : Nat → Int64) (P R : Nat → Int → Int) (H : Heap) (locs : List Loc) (ls : Array Slot), Rl P R → va_P D vwCl (lawW cy a a2 o f P R) H → va_D (fun q : Nat => s.heap.size ≤ q) (lawW cy a a2 o f P R) → va_S (fun q : Nat => s.heap.size ≤ q) s.heap H locs → lv_has ls 7 [(0, .ref b), (1, .ref (a 100)), (2, .ref (a2 0)), (3, .ref o), (4, .int (iI i))] → W p l e room_1 s m #[Value.ref b] below meth c H locs cells slots Q (F0 m 1588 ls [])
theorem rm_r {x y : Nat} (h : x ≤ 600000 ∧ y ≤ 7000000) : x ≤ room_1.cells ∧ y ≤ room_1.slots := ⟨show x ≤ 601024 by omega, show y ≤ 7293034 by omega⟩
theorem rm_0 {x y : Nat} (h : x ≤ 600000 ∧ y ≤ 7000000) : x + 0 ≤ room_1.cells ∧ y + 0 ≤ room_1.slots := ⟨show x + 0 ≤ 601024 by omega, show y + 0 ≤ 7293034 by omega⟩
theorem rm_1 {x y : Nat} (h : x ≤ 600000 ∧ y ≤ 7000000) : x + 1 ≤ room_1.cells ∧ y + 6 ≤ room_1.slots := ⟨show x + 1 ≤ 601024 by omega, show y + 6 ≤ 7293034 by omega⟩
theorem ev9 {f : Nat → Int64} {v w : Int} (h : f 0 = (iI v).toInt64) (e : v = w) : f 0 = (iI w).toInt64 := by rw [← e]; exact h
section ZT
variable {p : Program} {l : Launch} {e : Env} {s : State} {m : MethodId} {below : List Frame} {meth : Method} {c : Code} {b L : Nat} {xs : Nat → Int32} {D : va_G} {cy : Nat → ClassId} {Q : State → Prop} {H : Heap} {locs : List Loc} {cells slots : Nat} {ls : Array Slot} {rest : List Value} {pc : Nat}
/-- a word of the script is loaded -/
theorem z_arg (C : zC p l s m c b L xs D cy) (hS : va_S (fun q : Nat => s.heap.size ≤ q) s.heap H locs) {k i z : Int} (d0 : decode cL_law pc = .ok (.aload_n 0, 1)) (d1 : decode cL_law (pc + 1) = .ok (.iload 4, 2)) (d3 : decode cL_law (pc + 3) = .ok (.iconst k, 1)) (d4 : decode cL_law (pc + 4) = .ok (.iadd, 1)) (d5 : decode cL_law (pc + 5) = .ok (.iaload, 1)) (hk : 0 ≤ k ∧ k ≤ 4) (hi : 0 ≤ i ∧ i + 5 ≤ (L : Int)) (h0 : ls[0]? = some (.val (.ref b))) (h4 : ls[4]? = some (.val (.int (iI i)))) (hz : xs (i + k).toNat = iI z)
    (kk : W p l e room_1 s m #[Value.ref b] below meth c H locs cells slots Q (F0 m (pc + 6) ls (.int (iI z) :: rest))) : W p l e room_1 s m #[Value.ref b] below meth c H locs cells slots Q (F0 m pc ls rest) := by
  obtain ⟨⟨hx, hb, hml, hown⟩, hts, ⟨hX, hbl, hL⟩, hGX, hst⟩ := C
  refine lv_aload_n hx hb d0 rfl h0 ?_
  refine lv_iload hx hb d1 h4 ?_
  refine k_iconst hx hb d3 ?_
  refine k_iadd hx hb d4 ?_
  refine va_sld hx hb hX hbl (fun h => absurd h (Nat.not_le.mpr hbl)) hS (vp_iI (z := i + k) ⟨by omega, by omega, by omega⟩) d5 ?_
  rw [iI_cl (z := i + k) (by omega) (by omega), hz]
  exact kk
/-- the end of a call that may be refused: the two answers are held against each other -/
theorem z_tail (C : zC p l s m c b L xs D cy) {i : Int} {k9 n9 : Nat} (K : zK p l e s m below meth c b D cy Q i k9 n9) {off : Int} (d0 : decode cL_law pc = .ok (.istore 6, 2)) (d2 : decode cL_law (pc + 2) = .ok (.aload_n 2, 1)) (d3 : decode cL_law (pc + 3) = .ok (.invokevirtual 93, 3)) (d6 : decode cL_law (pc + 6) = .ok (.iload 5, 2)) (d8 : decode cL_law (pc + 8) = .ok (.if_icmp .eq 5, 3)) (d13 : decode cL_law (pc + 13) = .ok (.iload 5, 2)) (d15 : decode cL_law (pc + 15) = .ok (.ifCond .ne 15, 3)) (d18 : decode cL_law (pc + 18) = .ok (.aload_n 3, 1)) (d19 : decode cL_law (pc + 19) = .ok (.iconst 0, 1)) (d20 : decode cL_law (pc + 20) = .ok (.laload, 1)) (d21 : decode cL_law (pc + 21) = .ok (.iload 6, 2)) (d23 : decode cL_law (pc + 23) = .ok (.i2l, 1)) (d24 : decode cL_law (pc + 24) = .ok (.lcmp, 1)) (d25 : decode cL_law (pc + 25) = .ok (.ifCond .eq 5, 3)) (d30 : decode cL_law (pc + 30) = .ok (.goto off, 3)) (hoff : ((pc + 30 : Nat) : Int) + off = ((1588 : Nat) : Int))
    {a a2 : Nat → Nat} {o : Nat} {f : Nat → Int64} {P R : Nat → Int → Int} {k r9 : Int} (hk : R 0 6 = k) (hk3 : 0 ≤ k ∧ k ≤ 3) (hv : k = 0 → f 0 = (iI r9).toInt64) (hR : Rl P R) (hP : va_P D vwCl (lawW cy a a2 o f P R) H) (hD : va_D (fun q : Nat => s.heap.size ≤ q) (lawW cy a a2 o f P R)) (hS : va_S (fun q : Nat => s.heap.size ≤ q) s.heap H locs) (hl : lv_has ls 7 [(5, .int (iI k)), (0, .ref b), (1, .ref (a 100)), (2, .ref (a2 0)), (3, .ref o), (4, .int (iI i))]) (hcs : cells ≤ k9 ∧ slots ≤ n9) (hroom : cells ≤ 600000 ∧ slots ≤ 7000000) :
    W p l e room_1 s m #[Value.ref b] below meth c H locs cells slots Q (F0 m pc ls [.int (iI r9)]) := by
  obtain ⟨⟨hx, hb, hml, hown⟩, hts, ⟨hX, hbl, hL⟩, hGX, hst⟩ := C
  have hGG := hGX.1.1
  have hKk := hGG.1
  have hend : ∀ ls : Array Slot, lv_has ls 7 [(6, .int (iI r9)), (5, .int (iI k)), (0, .ref b), (1, .ref (a 100)), (2, .ref (a2 0)), (3, .ref o), (4, .int (iI i))] → W p l e room_1 s m #[Value.ref b] below meth c H locs cells slots Q (F0 m (pc + 30) ls []) := by
    intro ls hl
    refine lv_goto (tgt := 1588) hx hb d30 hoff ?_
    exact W.widen hcs.1 hcs.2 (K a a2 o f P R H locs ls hR hP hD hS (lv_sub hl [2, 3, 4, 5, 6] rfl))
  refine lv_istore (lv' := [(6, .int (iI r9)), (5, .int (iI k)), (0, .ref b), (1, .ref (a 100)), (2, .ref (a2 0)), (3, .ref o), (4, .int (iI i))]) hx hb d0 hl (by decide) rfl (fun ls hl => ?_)
  refine lv_aload_n hx hb d2 rfl (lv_at hl 4 rfl) ?_
  refine k_roV (As := []) (rest := []) ⟨hx, hb, hml, hown, hts⟩ (c_X7_thrown l D cy a2 R) gL_law_X7_thrown rfl ⟨rfl, rfl⟩ 0 rfl (by decide +kernel) ⟨Nat.le_of_ble_eq_true rfl, Nat.le_of_ble_eq_true rfl⟩ (GG_ok D cy) ((GG_ok D cy).2.2.2 _ _ _ _ (fun _ h => h.elim) ((GG_ok D cy).1 _ _ _ _ hS.2.1 hGG)) (pb_rw hP) (va_recv hKk (pb_rw hP) (ci := 6) (q0 := 0) rfl rfl) hl.1 rfl (Nat.le_of_ble_eq_true rfl) (rm_r hroom) d3 (fun r hr => ?_)
  have hr : r = k := Eq.trans hr hk
  rw [hr]
  refine lv_iload hx hb d6 (lv_at hl 1 rfl) ?_
  refine k_icmp_eq (tgt := pc + 13) hx hb d8 (by omega) (by omega) (by omega) (fun _ => ?_) (fun h => absurd rfl h)
  refine lv_iload hx hb d13 (lv_at hl 1 rfl) ?_
  refine k_if_ne (tgt := pc + 30) hx hb d15 (by omega) (by omega) (fun _ => hend ls hl) (fun hk0 => ?_)
  refine lv_aload_n hx hb d18 rfl (lv_at hl 5 rfl) ?_
  refine k_iconst hx hb d19 ?_
  refine va_lald hx hb hKk hP 0 4 rfl rfl (i := iI 0) (vp_iI (by decide)) d20 ?_
  refine lv_iload hx hb d21 (lv_at hl 0 rfl) ?_
  refine lv_i2l hx hb d23 rfl ?_
  refine W.lcmp hx hb d24 ?_
  have e0 : f (iI 0).toNatClampNeg = (iI r9).toInt64 := by
    rw [iI_cl (by decide) (by decide)]
    exact hv hk0
  rw [e0, cmp_self]
  exact lv_if_eq (tgt := pc + 30) hx hb d25 (by omega) (fun _ => hend ls hl) (fun h => absurd rfl h)
end ZT
