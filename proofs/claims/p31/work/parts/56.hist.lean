/-! the history: P 50 1 saved, its plates at 60, 70, 80, 90 in the order of their array; a map of addresses whose plates have moved -/
def pgm {α : Type} (a g : Nat → α) : Nat → α := fun i => cond (Nat.ble i 59) (a i) (cond (Nat.ble 100 i) (a i) (g i))
def rotI (i : Nat) : Nat := cond (Nat.ble i 89) (i + 10) (i - 30)
def q4 (w x y z : Nat) : Nat → Option Nat := fun j => match j with
  | 0 => some w
  | 1 => some x
  | 2 => some y
  | 3 => some z
  | _ => none
theorem q4_0 (w x y z v : Nat) : va_up (q4 w x y z) 0 (some v) = q4 v x y z := by
  funext j
  rcases j with _ | _ | _ | _ | j <;> rfl
theorem q4_1 (w x y z v : Nat) : va_up (q4 w x y z) 1 (some v) = q4 w v y z := by
  funext j
  rcases j with _ | _ | _ | _ | j <;> rfl
theorem q4_2 (w x y z v : Nat) : va_up (q4 w x y z) 2 (some v) = q4 w x v z := by
  funext j
  rcases j with _ | _ | _ | _ | j <;> rfl
theorem q4_3 (w x y z v : Nat) : va_up (q4 w x y z) 3 (some v) = q4 w x y v := by
  funext j
  rcases j with _ | _ | _ | _ | j <;> rfl
def hiqW (cy : Nat → ClassId) (a : Nat → Nat) (P : Nat → Int → Int) (w x y z : Nat) : va_W := [(a 50, .inr (1, [.ref (a 51), .int (iI (P 50 1))])), (a 51, .inl (cy 3, 4, .inr (.inr (.inr (.inr (q4 w x y z))))))]
def hiW (cy : Nat → ClassId) (a : Nat → Nat) (P : Nat → Int → Int) : va_W := hiqW cy a P (a 60) (a 70) (a 80) (a 90)
def pgsW (cy : Nat → ClassId) (a : Nat → Nat) (P : Nat → Int → Int) : va_W := plW cy (fun i => a (i + 60)) (fun i => P (i + 60)) ++ plW cy (fun i => a (i + 70)) (fun i => P (i + 70)) ++ plW cy (fun i => a (i + 80)) (fun i => P (i + 80)) ++ plW cy (fun i => a (i + 90)) (fun i => P (i + 90))
def hsW (cy : Nat → ClassId) (a : Nat → Nat) (P : Nat → Int → Int) : va_W := hiW cy a P ++ pgsW cy a P
def hsplW (cy : Nat → ClassId) (a : Nat → Nat) (P : Nat → Int → Int) : va_W := hsW cy a P ++ plW cy a P
/-! the whole object: P 100 6 looked, P 100 7 halt -/
def obW (cy : Nat → ClassId) (a : Nat → Nat) (P : Nat → Int → Int) : va_W := [(a 100, .inr (5, [.ref (a 0), .ref (a 50), .ref (a 10), .ref (a 20), .ref (a 30), .ref (a 40), .int (iI (P 100 6)), .int (iI (P 100 7))]))]
def trW (cy : Nat → ClassId) (a : Nat → Nat) (P : Nat → Int → Int) : va_W := maW cy (fun i => a (i + 10)) (fun i => P (i + 10))
def obplW (cy : Nat → ClassId) (a : Nat → Nat) (P : Nat → Int → Int) : va_W := obW cy a P ++ plW cy a P
def obscW (cy : Nat → ClassId) (a : Nat → Nat) (P : Nat → Int → Int) : va_W := obW cy a P ++ scW cy a P
def oblkW (cy : Nat → ClassId) (a : Nat → Nat) (P : Nat → Int → Int) : va_W := obW cy a P ++ plW cy a P ++ fgW cy a P ++ maW cy a P
def obzW (cy : Nat → ClassId) (a : Nat → Nat) (P : Nat → Int → Int) : va_W := obW cy a P ++ plW cy a P ++ fgW cy a P ++ maW cy a P ++ trW cy a P
def obhsW (cy : Nat → ClassId) (a : Nat → Nat) (P : Nat → Int → Int) : va_W := obW cy a P ++ hsW cy a P ++ plW cy a P
def obrunW (cy : Nat → ClassId) (a : Nat → Nat) (P : Nat → Int → Int) : va_W := obW cy a P ++ hsW cy a P ++ plW cy a P ++ scW cy a P
def obdgW (cy : Nat → ClassId) (a : Nat → Nat) (P : Nat → Int → Int) : va_W := obW cy a P ++ plW cy a P ++ fgW cy a P ++ maW cy a P ++ hiW cy a P ++ scW cy a P
def fullW (cy : Nat → ClassId) (a : Nat → Nat) (P : Nat → Int → Int) : va_W := obW cy a P ++ hsW cy a P ++ plW cy a P ++ scW cy a P ++ fgW cy a P ++ maW cy a P ++ trW cy a P
section KAQ
variable {p : Program} {l : Launch} {e : Env} {R : Room} {s : State} {m : MethodId} {args : Array Value} {below : List Frame} {meth : Method} {c : Code} {H : Heap} {locs : List Loc} {cells slots : Nat} {Q : State → Prop}
variable {cc : ByteArray} {pc : Nat} {ls : Array Slot} {rest : List Value} {D : va_G} {cl : List vw_C} {ws : va_W} {tys : List (ClassId × FieldType)} {a : Nat} {A : Nat → Prop} {H0 : Heap}
theorem k_aald (hexec : p.tables.exec = Jvm.exec) (hb : c.code = cc) (hK : va_K D cl tys s) (hP : va_P D cl ws H) (q0 t0 : Nat) {cA : ClassId} {C : String} {n : Nat} {f : Nat → Option Nat} {v : Nat} (ha : ws[q0]? = some (a, .inl (cA, n, .inr (.inr (.inr (.inr f)))))) (ht : tys[t0]? = some (cA, .object C)) {i : Int} (hi : 0 ≤ i ∧ i < (n : Int) ∧ (n : Int) ≤ 2147483647) (hv : f i.toNat = some v) (hdg : decode cc pc = .ok (.aaload, 1))
    (kk : W p l e R s m args below meth c H locs cells slots Q (F0 m (pc + 1) ls (.ref v :: rest))) : W p l e R s m args below meth c H locs cells slots Q (F0 m pc ls (.int (iI i) :: .ref a :: rest)) :=
  va_aldq hexec hb hK hP q0 t0 ha ht (vp_iI hi) hdg (by rw [iI_cl hi.1 (by omega), hv]; exact kk)
theorem k_aast (hexec : p.tables.exec = Jvm.exec) (hb : c.code = cc) (hK : va_K D cl tys s) (hP : va_P D cl ws H) (hD : va_D A ws) (hS : va_S A H0 H locs) (q0 t0 qk ci : Nat) {cA : ClassId} {r : vw_C} {n v : Nat} {vs : List Value} {f f' : Nat → Option Nat} (ha : ws[q0]? = some (a, .inl (cA, n, .inr (.inr (.inr (.inr f)))))) (ht : tys[t0]? = some (cA, .object r.1)) (hv : ws[qk]? = some (v, .inr (ci, vs))) (hc : cl[ci]? = some r) {i : Int} (hi : 0 ≤ i ∧ i < (n : Int) ∧ (n : Int) ≤ 2147483647) (hf : va_up f i.toNat (some v) = f') (hdg : decode cc pc = .ok (.aastore, 1))
    (kk : ∀ (H1 : Heap) (locs1 : List Loc), va_P D cl (ws.set q0 (a, .inl (cA, n, .inr (.inr (.inr (.inr f')))))) H1 → va_D A (ws.set q0 (a, .inl (cA, n, .inr (.inr (.inr (.inr f')))))) → va_S A H0 H1 locs1 → W p l e R s m args below meth c H1 locs1 cells slots Q (F0 m (pc + 1) ls rest)) : W p l e R s m args below meth c H locs cells slots Q (F0 m pc ls (.ref v :: .int (iI i) :: .ref a :: rest)) :=
  va_astq hexec hb hK hP hD hS q0 t0 qk ci ha ht hv hc (vp_iI hi) hdg (fun H1 locs1 h1 h2 h3 => kk H1 locs1 (by rw [iI_cl hi.1 (by omega), hf] at h1; exact h1) (by rw [iI_cl hi.1 (by omega), hf] at h2; exact h2) h3)
end KAQ
set_option maxHeartbeats 4000000 in
set_option maxRecDepth 100000 in
theorem c_X2_dropOldest (l : Launch) (D : va_G) (cy : Nat → ClassId) (sz : Nat) (a : Nat → Nat) (P : Nat → Int → Int) : Met l yX2_dropOldest wsX2_dropOldest { frames := 0, cells := 0, slots := 0, locals := 0 } (mPre (GG D cy) D (hsW cy a P) sz [.ref (a 50)]) (kQv D (hsW cy a P) sz (fun u9 : (Nat → Nat) × (Nat → Int → Int) => hsW cy (pgm a u9.1) u9.2) (fun u9 => (u9.1 = (fun i => a (rotI i)) ∧ u9.2 = upr (pgm P (fun i => P (rotI i))) 50 (ups (P 50) 1 3)))) 0 0 (va_A (hsW cy a P) sz) := by
  refine kM_start (cc := cX2_dropOldest) (maxL := 3) (ret := none) (by decide) rfl (Nat.le_of_ble_eq_true rfl) ?_
  intro p e s m below meth c hx hb hr hlocks hml hts hown hsz hA hG hP hD hS hin ls hl
  have hK := hG.1
  have hl : lv_has ls 3 [(0, .ref (a 50))] := hl
  have hinX2 : ∀ w ∈ u_ws RX2 TX2 2, w ∈ wsX2_dropOldest := by decide +kernel
  have hmw0 := hts (.fieldLink RX2 17 "ArcPlate$History" "states" "[LArcPlate$Plate;") (by decide +kernel)
  have hmw1 := hts (.fieldLink RX2 9 "ArcPlate$History" "saved" "I") (by decide +kernel)
  have hP : va_P D vwCl (hiqW cy a P (a 60) (a 70) (a 80) (a 90) ++ pgsW cy a P) s.heap := hP
  have hD : va_D (va_A (hsW cy a P) sz) (hiqW cy a P (a 60) (a 70) (a 80) (a 90) ++ pgsW cy a P) := hD
  have hbody : ∀ (H : Heap) (locs : List Loc) (hP : va_P D vwCl (hiqW cy a P (a 60) (a 70) (a 80) (a 90) ++ pgsW cy a P) H) (hS : va_S (va_A (hsW cy a P) sz) s.heap H locs) (ls : Array Slot) (hl : lv_has ls 3 [(0, .ref (a 50))]), W p l e { frames := 0, cells := 0, slots := 0, locals := 0 } s m ([.ref (a 50)] : List Value).toArray below meth c H locs 0 0 (MQ below (kQv D (hsW cy a P) sz (fun u9 : (Nat → Nat) × (Nat → Int → Int) => hsW cy (pgm a u9.1) u9.2) (fun u9 => (u9.1 = (fun i => a (rotI i)) ∧ u9.2 = upr (pgm P (fun i => P (rotI i))) 50 (ups (P 50) 1 3)))) ([.ref (a 50)] : List Value).toArray s 0 0 (va_A (hsW cy a P) sz)) (F0 m 0 ls []) := by
    intro H locs hP hS ls hl
    refine lv_aload_n hx hb dX2_dropOldest_0 rfl (lv_at hl 0 rfl) ?_
    refine va_get (D := D) (ci := 1) (v := .ref (a 51)) (C := RX2) (T := TX2) (N := 2) hx hb hts hinX2 hown hK hP 0 rfl rfl 0 (by decide) hmw0 (fun _ h9 => h9) rfl dX2_dropOldest_1 ?_
    refine k_iconst hx hb dX2_dropOldest_4 ?_
    refine k_aald hx hb hK hP 1 3 (v := a 60) rfl rfl (i := 0) (by decide) rfl dX2_dropOldest_5 ?_
    refine lv_astore_n (lv' := [(1, .ref (a 60)), (0, .ref (a 50))]) hx hb dX2_dropOldest_6 rfl hl (by decide) rfl (fun ls hl => ?_)
    refine k_iconst hx hb dX2_dropOldest_7 ?_
    refine lv_istore_n (lv' := [(2, .int (iI 1)), (1, .ref (a 60)), (0, .ref (a 50))]) hx hb dX2_dropOldest_8 rfl hl (by decide) rfl (fun ls hl => ?_)
    refine lv_iload_n hx hb dX2_dropOldest_9 rfl (lv_at hl 0 rfl) ?_
    refine k_iconst hx hb dX2_dropOldest_10 ?_
    refine k_icmp_ge (tgt := 34) hx hb dX2_dropOldest_11 (by decide) (by omega) (by omega) (fun h => by exfalso; omega) (fun _ => ?_)
    refine lv_aload_n hx hb dX2_dropOldest_14 rfl (lv_at hl 2 rfl) ?_
    refine va_get (D := D) (ci := 1) (v := .ref (a 51)) (C := RX2) (T := TX2) (N := 2) hx hb hts hinX2 hown hK hP 0 rfl rfl 0 (by decide) hmw0 (fun _ h9 => h9) rfl dX2_dropOldest_15 ?_
    refine lv_iload_n hx hb dX2_dropOldest_18 rfl (lv_at hl 0 rfl) ?_
    refine k_iconst hx hb dX2_dropOldest_19 ?_
    refine k_isub hx hb dX2_dropOldest_20 ?_
    refine k_eqI (v := 1 - 1) (w := 0) (by decide) ?_
    refine lv_aload_n hx hb dX2_dropOldest_21 rfl (lv_at hl 2 rfl) ?_
    refine va_get (D := D) (ci := 1) (v := .ref (a 51)) (C := RX2) (T := TX2) (N := 2) hx hb hts hinX2 hown hK hP 0 rfl rfl 0 (by decide) hmw0 (fun _ h9 => h9) rfl dX2_dropOldest_22 ?_
    refine lv_iload_n hx hb dX2_dropOldest_25 rfl (lv_at hl 0 rfl) ?_
    refine k_aald hx hb hK hP 1 3 (v := a 70) rfl rfl (i := 1) (by decide) rfl dX2_dropOldest_26 ?_
    refine k_aast hx hb hK hP hD hS 1 3 11 3 rfl rfl rfl rfl (i := 0) (f' := q4 (a 70) (a 70) (a 80) (a 90)) (by decide) (q4_0 _ _ _ _ _) dX2_dropOldest_27 (fun H locs hP hD hS => ?_)
    have hP : va_P D vwCl (hiqW cy a P (a 70) (a 70) (a 80) (a 90) ++ pgsW cy a P) H := hP
    have hD : va_D (va_A (hsW cy a P) sz) (hiqW cy a P (a 70) (a 70) (a 80) (a 90) ++ pgsW cy a P) := hD
    refine lv_iinc (v := iI 2) (lv' := [(2, .int (iI 2)), (1, .ref (a 60)), (0, .ref (a 50))]) hx hb dX2_dropOldest_28 hl (k := 0) rfl (show iI 1 + iI 1 = iI 2 from iI_add _ _) (by decide) rfl (fun ls hl => ?_)
    refine lv_goto (tgt := 9) hx hb dX2_dropOldest_31 (by decide) ?_
    refine lv_iload_n hx hb dX2_dropOldest_9 rfl (lv_at hl 0 rfl) ?_
    refine k_iconst hx hb dX2_dropOldest_10 ?_
    refine k_icmp_ge (tgt := 34) hx hb dX2_dropOldest_11 (by decide) (by omega) (by omega) (fun h => by exfalso; omega) (fun _ => ?_)
    refine lv_aload_n hx hb dX2_dropOldest_14 rfl (lv_at hl 2 rfl) ?_
    refine va_get (D := D) (ci := 1) (v := .ref (a 51)) (C := RX2) (T := TX2) (N := 2) hx hb hts hinX2 hown hK hP 0 rfl rfl 0 (by decide) hmw0 (fun _ h9 => h9) rfl dX2_dropOldest_15 ?_
    refine lv_iload_n hx hb dX2_dropOldest_18 rfl (lv_at hl 0 rfl) ?_
    refine k_iconst hx hb dX2_dropOldest_19 ?_
    refine k_isub hx hb dX2_dropOldest_20 ?_
    refine k_eqI (v := 2 - 1) (w := 1) (by decide) ?_
    refine lv_aload_n hx hb dX2_dropOldest_21 rfl (lv_at hl 2 rfl) ?_
    refine va_get (D := D) (ci := 1) (v := .ref (a 51)) (C := RX2) (T := TX2) (N := 2) hx hb hts hinX2 hown hK hP 0 rfl rfl 0 (by decide) hmw0 (fun _ h9 => h9) rfl dX2_dropOldest_22 ?_
    refine lv_iload_n hx hb dX2_dropOldest_25 rfl (lv_at hl 0 rfl) ?_
    refine k_aald hx hb hK hP 1 3 (v := a 80) rfl rfl (i := 2) (by decide) rfl dX2_dropOldest_26 ?_
    refine k_aast hx hb hK hP hD hS 1 3 20 3 rfl rfl rfl rfl (i := 1) (f' := q4 (a 70) (a 80) (a 80) (a 90)) (by decide) (q4_1 _ _ _ _ _) dX2_dropOldest_27 (fun H locs hP hD hS => ?_)
    have hP : va_P D vwCl (hiqW cy a P (a 70) (a 80) (a 80) (a 90) ++ pgsW cy a P) H := hP
    have hD : va_D (va_A (hsW cy a P) sz) (hiqW cy a P (a 70) (a 80) (a 80) (a 90) ++ pgsW cy a P) := hD
    refine lv_iinc (v := iI 3) (lv' := [(2, .int (iI 3)), (1, .ref (a 60)), (0, .ref (a 50))]) hx hb dX2_dropOldest_28 hl (k := 0) rfl (show iI 2 + iI 1 = iI 3 from iI_add _ _) (by decide) rfl (fun ls hl => ?_)
    refine lv_goto (tgt := 9) hx hb dX2_dropOldest_31 (by decide) ?_
    refine lv_iload_n hx hb dX2_dropOldest_9 rfl (lv_at hl 0 rfl) ?_
    refine k_iconst hx hb dX2_dropOldest_10 ?_
    refine k_icmp_ge (tgt := 34) hx hb dX2_dropOldest_11 (by decide) (by omega) (by omega) (fun h => by exfalso; omega) (fun _ => ?_)
    refine lv_aload_n hx hb dX2_dropOldest_14 rfl (lv_at hl 2 rfl) ?_
    refine va_get (D := D) (ci := 1) (v := .ref (a 51)) (C := RX2) (T := TX2) (N := 2) hx hb hts hinX2 hown hK hP 0 rfl rfl 0 (by decide) hmw0 (fun _ h9 => h9) rfl dX2_dropOldest_15 ?_
    refine lv_iload_n hx hb dX2_dropOldest_18 rfl (lv_at hl 0 rfl) ?_
    refine k_iconst hx hb dX2_dropOldest_19 ?_
    refine k_isub hx hb dX2_dropOldest_20 ?_
    refine k_eqI (v := 3 - 1) (w := 2) (by decide) ?_
    refine lv_aload_n hx hb dX2_dropOldest_21 rfl (lv_at hl 2 rfl) ?_
    refine va_get (D := D) (ci := 1) (v := .ref (a 51)) (C := RX2) (T := TX2) (N := 2) hx hb hts hinX2 hown hK hP 0 rfl rfl 0 (by decide) hmw0 (fun _ h9 => h9) rfl dX2_dropOldest_22 ?_
    refine lv_iload_n hx hb dX2_dropOldest_25 rfl (lv_at hl 0 rfl) ?_
    refine k_aald hx hb hK hP 1 3 (v := a 90) rfl rfl (i := 3) (by decide) rfl dX2_dropOldest_26 ?_
    refine k_aast hx hb hK hP hD hS 1 3 29 3 rfl rfl rfl rfl (i := 2) (f' := q4 (a 70) (a 80) (a 90) (a 90)) (by decide) (q4_2 _ _ _ _ _) dX2_dropOldest_27 (fun H locs hP hD hS => ?_)
    have hP : va_P D vwCl (hiqW cy a P (a 70) (a 80) (a 90) (a 90) ++ pgsW cy a P) H := hP
    have hD : va_D (va_A (hsW cy a P) sz) (hiqW cy a P (a 70) (a 80) (a 90) (a 90) ++ pgsW cy a P) := hD
    refine lv_iinc (v := iI 4) (lv' := [(2, .int (iI 4)), (1, .ref (a 60)), (0, .ref (a 50))]) hx hb dX2_dropOldest_28 hl (k := 0) rfl (show iI 3 + iI 1 = iI 4 from iI_add _ _) (by decide) rfl (fun ls hl => ?_)
    refine lv_goto (tgt := 9) hx hb dX2_dropOldest_31 (by decide) ?_
    refine lv_iload_n hx hb dX2_dropOldest_9 rfl (lv_at hl 0 rfl) ?_
    refine k_iconst hx hb dX2_dropOldest_10 ?_
    refine k_icmp_ge (tgt := 34) hx hb dX2_dropOldest_11 (by decide) (by omega) (by omega) (fun _ => ?_) (fun h => by exfalso; omega)
    refine lv_aload_n hx hb dX2_dropOldest_34 rfl (lv_at hl 2 rfl) ?_
    refine va_get (D := D) (ci := 1) (v := .ref (a 51)) (C := RX2) (T := TX2) (N := 2) hx hb hts hinX2 hown hK hP 0 rfl rfl 0 (by decide) hmw0 (fun _ h9 => h9) rfl dX2_dropOldest_35 ?_
    refine k_iconst hx hb dX2_dropOldest_38 ?_
    refine lv_aload_n hx hb dX2_dropOldest_39 rfl (lv_at hl 1 rfl) ?_
    refine k_aast hx hb hK hP hD hS 1 3 2 3 rfl rfl rfl rfl (i := 3) (f' := q4 (a 70) (a 80) (a 90) (a 60)) (by decide) (q4_3 _ _ _ _ _) dX2_dropOldest_40 (fun H locs hP hD hS => ?_)
    have hP : va_P D vwCl (hiqW cy a P (a 70) (a 80) (a 90) (a 60) ++ pgsW cy a P) H := hP
    have hD : va_D (va_A (hsW cy a P) sz) (hiqW cy a P (a 70) (a 80) (a 90) (a 60) ++ pgsW cy a P) := hD
    refine lv_aload_n hx hb dX2_dropOldest_41 rfl (lv_at hl 2 rfl) ?_
    refine k_iconst hx hb dX2_dropOldest_42 ?_
    refine va_put (D := D) (ci := 1) (v := .int (iI 3)) (ty := .int) (C := RX2) (T := TX2) (N := 2) hx hb hts hinX2 tyX2 tyX2_ok nmX2 hown hK hP hD hS 0 rfl rfl 1 (by decide) hmw1 (fun _ h9 => h9) rfl (by decide +kernel) rfl rfl (Nat.le_of_ble_eq_true rfl) dX2_dropOldest_43 (fun H locs hP hD hS => ?_)
    have hP : va_P D vwCl (hiqW cy a (upr P 50 (ups (P 50) 1 3)) (a 70) (a 80) (a 90) (a 60) ++ pgsW cy a P) H := hP
    have hD : va_D (va_A (hsW cy a P) sz) (hiqW cy a (upr P 50 (ups (P 50) 1 3)) (a 70) (a 80) (a 90) (a 60) ++ pgsW cy a P) := hD
    have hP : va_P D vwCl (hsW cy (pgm a (fun i => a (rotI i))) (upr (pgm P (fun i => P (rotI i))) 50 (ups (P 50) 1 3))) H := hP.sub (ws' := (hsW cy (pgm a (fun i => a (rotI i))) (upr (pgm P (fun i => P (rotI i))) 50 (ups (P 50) 1 3)))) [0, 1, 11, 12, 13, 14, 15, 16, 17, 18, 19, 20, 21, 22, 23, 24, 25, 26, 27, 28, 29, 30, 31, 32, 33, 34, 35, 36, 37, 2, 3, 4, 5, 6, 7, 8, 9, 10] rfl
    have hD : va_D (va_A (hsW cy a P) sz) (hsW cy (pgm a (fun i => a (rotI i))) (upr (pgm P (fun i => P (rotI i))) 50 (ups (P 50) 1 3))) := hD.sub (ws' := (hsW cy (pgm a (fun i => a (rotI i))) (upr (pgm P (fun i => P (rotI i))) 50 (ups (P 50) 1 3)))) [0, 1, 11, 12, 13, 14, 15, 16, 17, 18, 19, 20, 21, 22, 23, 24, 25, 26, 27, 28, 29, 30, 31, 32, 33, 34, 35, 36, 37, 2, 3, 4, 5, 6, 7, 8, 9, 10] (by decide) rfl
    exact W.vret hx hb hr (fun t9 ht _ => ⟨⟨(fun i => a (rotI i), upr (pgm P (fun i => P (rotI i))) 50 (ups (P 50) 1 3)), rfl, ⟨rfl, rfl⟩, by rw [ht]; exact hP, hD⟩, hS.F ht⟩) hS.2.2 dX2_dropOldest_46 hlocks
  exact hbody s.heap [] hP hS ls hl
/-! what is kept of a plate -/
def pgR (P : Nat → Int → Int) (k : Nat) : Nat → Int → Int := fun i => P (i + (60 + 10 * k))
theorem cpd_ag {P Z : Nat → Int → Int} {F0 F1 F2 F3 F4 F5 F6 F7 F8 : Int → Int} (hI : Inv (mO P)) (h0 : Z 0 = ups (ups (ups (ups F0 0 (P 0 0)) 1 (P 0 1)) 2 (P 0 2)) 3 (P 0 3)) (h1 : Z 1 = cpyI F1 (P 1) 0 12) (h2 : Z 2 = cpyI F2 (P 2) 0 144) (h3 : Z 3 = cpyI F3 (P 3) 0 144) (h4 : Z 4 = cpyI F4 (P 4) 0 144) (h5 : Z 5 = cpyI F5 (P 5) 0 12) (h6 : Z 6 = cpyI F6 (P 6) 0 12) (h7 : Z 7 = cpyI F7 (P 7) 0 12) (h8 : Z 8 = cpyI F8 (P 8) 0 10) : ag (mO P) (mO Z) := by
  refine cp_ag hI ?_ (fun k a b => ?_) (fun k a b => ?_) (fun k a b => ?_) (fun k a b => ?_)
  · rw [h0]; exact ⟨⟨rfl, rfl⟩, rfl, rfl⟩
  · rw [h1]; exact cpyI_in _ _ a b
  · rw [h2, h3, h4]; exact ⟨cpyI_in _ _ a b, cpyI_in _ _ a b, cpyI_in _ _ a b⟩
  · rw [h5, h6, h7]; exact ⟨cpyI_in _ _ a b, cpyI_in _ _ a b, cpyI_in _ _ a b⟩
  · rw [h8]; exact cpyI_in _ _ a b
theorem mO_cg {P Q : Nat → Int → Int} (h : ∀ i : Nat, i < 9 → P i = Q i) : mO P = mO Q := by
  funext k
  unfold mO
  rw [h 0 (by decide), h 1 (by decide), h 2 (by decide), h 3 (by decide), h 4 (by decide), h 5 (by decide), h 6 (by decide), h 7 (by decide), h 8 (by decide)]
theorem drop_f {a : Nat → Nat} {g : Nat → Nat} {P Q : Nat → Int → Int} (h : g = (fun i => a (rotI i)) ∧ Q = upr (pgm P (fun i => P (rotI i))) 50 (ups (P 50) 1 3)) : Q 50 1 = 3 ∧ (∀ c : Nat, c < 50 → Q c = P c) ∧ (∀ c : Nat, 100 ≤ c → Q c = P c) ∧ ∀ k : Nat, k < 3 → mO (pgR Q k) = mO (pgR P (k + 1)) := by
  obtain ⟨_, hQ⟩ := h
  have hp1 : ∀ c : Nat, c < 50 → pgm P (fun i => P (rotI i)) c = P c := fun c hc => by
    unfold pgm
    rw [show Nat.ble c 59 = true from Nat.ble_eq_true_of_le (by omega)]
    rfl
  have hp2 : ∀ c : Nat, 100 ≤ c → pgm P (fun i => P (rotI i)) c = P c := fun c hc => by
    unfold pgm
    rw [show Nat.ble 100 c = true from Nat.ble_eq_true_of_le hc]
    cases Nat.ble c 59 <;> rfl
  have hp3 : ∀ c : Nat, 60 ≤ c → c < 90 → pgm P (fun i => P (rotI i)) c = P (c + 10) := fun c h1 h2 => by
    unfold pgm rotI
    rw [show Nat.ble c 59 = false from by cases h : Nat.ble c 59 with
          | false => rfl
          | true => exact absurd (Nat.le_of_ble_eq_true h) (by omega),
        show Nat.ble 100 c = false from by cases h : Nat.ble 100 c with
          | false => rfl
          | true => exact absurd (Nat.le_of_ble_eq_true h) (by omega)]
    show P (cond (Nat.ble c 89) (c + 10) (c - 30)) = P (c + 10)
    rw [show Nat.ble c 89 = true from Nat.ble_eq_true_of_le (by omega)]
    rfl
  have ho : ∀ c : Nat, c ≠ 50 → Q c = pgm P (fun i => P (rotI i)) c := fun c hc => by
    rw [hQ]
    unfold upr
    rw [show Nat.beq c 50 = false from by cases h : Nat.beq c 50 with
          | false => rfl
          | true => exact absurd (Nat.eq_of_beq_eq_true h) hc]
    rfl
  refine ⟨by rw [hQ]; rfl, fun c hc => by rw [ho c (by omega), hp1 c hc], fun c hc => by rw [ho c (by omega), hp2 c hc], fun k hk => mO_cg (fun i hi => ?_)⟩
  show Q (i + (60 + 10 * k)) = P (i + (60 + 10 * (k + 1)))
  rw [ho _ (by omega), hp3 _ (by omega) (by omega), show i + (60 + 10 * k) + 10 = i + (60 + 10 * (k + 1)) by omega]
theorem lo9 {P Q : Nat → Int → Int} (h1 : ∀ c : Nat, c < 9 → Q c = P c) (h2 : ∀ c : Nat, 9 ≤ c → c < 50 → Q c = P c) : ∀ c : Nat, c < 50 → Q c = P c := fun c h => by
  by_cases z : c < 9
  · exact h1 c z
  · exact h2 c (by omega) h
def kept (P Q : Nat → Int → Int) : Prop := ((∀ c : Nat, c < 50 → Q c = P c) ∧ ∀ c : Nat, 100 ≤ c → Q c = P c) ∧ Q 50 1 = kpN (P 50 1) ∧ (∀ k : Nat, (k : Int) < kpN (P 50 1) - 1 → mO (pgR Q k) = mO (pgR P (if P 50 1 = 4 then k + 1 else k))) ∧ ∀ k : Nat, (k : Int) = kpN (P 50 1) - 1 → ag (mO P) (mO (pgR Q k))
theorem kept_lo {P : Nat → Int → Int} {n : Nat} {Q : Nat → Int → Int} (hn : P 50 1 = (n : Int)) (hn4 : n < 4) (h1 : (∀ c : Nat, c < 50 → Q c = P c) ∧ ∀ c : Nat, 100 ≤ c → Q c = P c) (h2 : Q 50 1 = (n : Int) + 1) (h3 : ∀ k : Nat, k < n → mO (pgR Q k) = mO (pgR P k)) (h4 : ag (mO P) (mO (pgR Q n))) : kept P Q := by
  have e : kpN (P 50 1) = (n : Int) + 1 := by unfold kpN; rw [if_neg (by omega), hn]
  refine ⟨h1, by rw [e]; exact h2, fun k hk => ?_, fun k hk => ?_⟩
  · rw [e] at hk; rw [if_neg (by omega)]; exact h3 k (by omega)
  · rw [e] at hk; have e2 : k = n := by omega
    rw [e2]; exact h4
theorem kept_hi {P Q : Nat → Int → Int} (hn : P 50 1 = 4) (h1 : (∀ c : Nat, c < 50 → Q c = P c) ∧ ∀ c : Nat, 100 ≤ c → Q c = P c) (h2 : Q 50 1 = 4) (h3 : ∀ k : Nat, k < 3 → mO (pgR Q k) = mO (pgR P (k + 1))) (h4 : ag (mO P) (mO (pgR Q 3))) : kept P Q := by
  have e : kpN (P 50 1) = 4 := by unfold kpN; rw [if_pos hn]
  refine ⟨h1, by rw [e]; exact h2, fun k hk => ?_, fun k hk => ?_⟩
  · rw [e] at hk; rw [if_pos hn]; exact h3 k (by omega)
  · rw [e] at hk; have e2 : k = 3 := by omega
    rw [e2]; exact h4
def back (P Q : Nat → Int → Int) (n : Nat) : Prop := ((∀ c : Nat, 9 ≤ c → c < 50 → Q c = P c) ∧ ∀ c : Nat, 100 ≤ c → Q c = P c) ∧ Q 50 1 = (n : Int) ∧ (∀ k : Nat, k < 4 → mO (pgR Q k) = mO (pgR P k)) ∧ ag (mO (pgR P n)) (mO Q)
/-! behind a call that moves plates: the cells are apart still -/
theorem k_sel_at2 {ws w1 : va_W} {isC : List Nat} {q : Nat × va_E} : ∀ (js : List (Option Nat)) (k0 k : Nat), (k_sel ws w1 k0 js)[k]? = some (some q) → k_jok isC k0 js = true → (∃ j : Nat, js[k]? = some (some j) ∧ w1[j]? = some q) ∨ (ws[k0 + k]? = some q ∧ k0 + k ∉ isC)
  | [], k0, k, h, _ => by simp [k_sel] at h
  | some j :: r, k0, 0, h, _ => by
    simp only [k_sel, List.getElem?_cons_zero] at h
    exact Or.inl ⟨j, rfl, Option.some.inj h⟩
  | none :: r, k0, 0, h, hj => by
    simp only [k_sel, List.getElem?_cons_zero] at h
    simp only [k_jok, Bool.and_eq_true, Bool.not_eq_true', List.contains_eq_mem, decide_eq_false_iff_not] at hj
    exact Or.inr ⟨Option.some.inj h, hj.1⟩
  | some j :: r, k0, k + 1, h, hj => by
    simp only [k_sel, List.getElem?_cons_succ] at h
    rcases k_sel_at2 r (k0 + 1) k h hj with ⟨j2, e, w⟩ | ⟨w, e⟩
    · exact Or.inl ⟨j2, by rw [List.getElem?_cons_succ]; exact e, w⟩
    · rw [show k0 + 1 + k = k0 + (k + 1) by omega] at w e
      exact Or.inr ⟨w, e⟩
  | none :: r, k0, k + 1, h, hj => by
    simp only [k_sel, List.getElem?_cons_succ] at h
    simp only [k_jok, Bool.and_eq_true] at hj
    rcases k_sel_at2 r (k0 + 1) k h hj.2 with ⟨j2, e, w⟩ | ⟨w, e⟩
    · exact Or.inl ⟨j2, by rw [List.getElem?_cons_succ]; exact e, w⟩
    · rw [show k0 + 1 + k = k0 + (k + 1) by omega] at w e
      exact Or.inr ⟨w, e⟩
theorem k_js_inj : ∀ (js : List (Option Nat)) (i i' j : Nat), (js.filterMap (fun x => x)).Nodup → js[i]? = some (some j) → js[i']? = some (some j) → i = i'
  | [], i, i', j, _, h, _ => by simp at h
  | x :: r, 0, 0, j, _, _, _ => rfl
  | x :: r, 0, i' + 1, j, hn, h, h' => by
    rw [List.getElem?_cons_zero] at h
    cases Option.some.inj h
    rw [List.getElem?_cons_succ] at h'
    have hm : j ∈ r.filterMap (fun x => x) := List.mem_filterMap.mpr ⟨some j, List.mem_of_getElem? h', rfl⟩
    have hn3 : (j :: r.filterMap (fun x => x)).Nodup := hn
    exact absurd hm (List.nodup_cons.mp hn3).1
  | x :: r, i + 1, 0, j, hn, h, h' => by
    rw [List.getElem?_cons_zero] at h'
    cases Option.some.inj h'
    rw [List.getElem?_cons_succ] at h
    have hm : j ∈ r.filterMap (fun x => x) := List.mem_filterMap.mpr ⟨some j, List.mem_of_getElem? h, rfl⟩
    have hn3 : (j :: r.filterMap (fun x => x)).Nodup := hn
    exact absurd hm (List.nodup_cons.mp hn3).1
  | x :: r, i + 1, i' + 1, j, hn, h, h' => by
    rw [List.getElem?_cons_succ] at h h'
    have hn2 : (r.filterMap (fun x => x)).Nodup := by
      cases x with
      | none => exact hn
      | some y =>
        have hn3 : (y :: r.filterMap (fun x => x)).Nodup := hn
        exact (List.nodup_cons.mp hn3).2
    rw [k_js_inj r i i' j hn2 h h']
theorem k_joinD {A0 : Nat → Prop} {D : va_G} {cl : List vw_C} {ws wc w1 ws' : va_W} {H : Heap} (hP : va_P D cl ws H) (hD : va_D A0 ws) (isC : List Nat) (js : List (Option Nat)) (hC : isC.map (fun i => ws[i]?) = wc.map some) (hF : ∀ q, va_A wc H.size q → A0 q)
    (hD1 : va_D (va_A wc H.size) w1) (hn : k_sel ws w1 0 js = ws'.map some) (hj : k_jok isC 0 js = true) (hi : (js.filterMap (fun x => x)).Nodup) : va_D A0 ws' := by
  have key : ∀ (k : Nat) (q : Nat × va_E), ws'[k]? = some q → (∃ j : Nat, js[k]? = some (some j) ∧ w1[j]? = some q) ∨ (ws[k]? = some q ∧ k ∉ isC) := by
    intro k q hq
    have h1 : (k_sel ws w1 0 js)[k]? = some (some q) := by rw [hn, List.getElem?_map, hq]; rfl
    rcases k_sel_at2 js 0 k h1 hj with h | ⟨h, h2⟩
    · exact Or.inl h
    · rw [Nat.zero_add] at h h2; exact Or.inr ⟨h, h2⟩
  have apart : ∀ (i k j : Nat) (x y : Nat × va_E), w1[j]? = some x → ws[k]? = some y → k ∉ isC → x.1 = y.1 → False := by
    intro i k j x y hx hy hk e
    rcases hD1.2 j x hx with ⟨k2, e2, h2⟩ | h2
    · have h3 : (isC.map (fun i => ws[i]?))[k2]? = some (some (x.1, e2)) := by rw [hC, List.getElem?_map, h2]; rfl
      rw [List.getElem?_map] at h3
      cases hi2 : isC[k2]? with
      | none => rw [hi2] at h3; cases h3
      | some i2 =>
        rw [hi2] at h3
        have h4 : ws[i2]? = some (x.1, e2) := Option.some.inj h3
        have h5 := hD.1 i2 k (x.1, e2) y h4 hy e
        subst h5
        exact hk (List.mem_of_getElem? hi2)
    · have hl := (hP k y hy).lt
      omega
  refine ⟨fun i k x y hx hy e => ?_, fun k q hq => ?_⟩
  · rcases key i x hx with ⟨j, a1, a2⟩ | ⟨a1, a2⟩ <;> rcases key k y hy with ⟨j2, b1, b2⟩ | ⟨b1, b2⟩
    · have ej := hD1.1 j j2 x y a2 b2 e
      subst ej
      exact k_js_inj js i k j hi a1 b1
    · exact (apart i k j x y a2 b1 b2 e).elim
    · exact (apart k i j2 y x b2 a1 a2 e.symm).elim
    · exact hD.1 i k x y a1 b1 e
  · rcases key k q hq with ⟨j, a1, a2⟩ | ⟨a1, a2⟩
    · exact hF q.1 (hD1.2 j q a2)
    · exact hD.2 k q a1
