/-! figures: P 21 radius, 22 spread, 23 sweep, 24 expected, 25 misfit, 26 gaps, 27 first angle, 28 good; matches: P 30 .. -/
def fgW (cy : Nat → ClassId) (a : Nat → Nat) (P : Nat → Int → Int) : va_W := [
  (a 20, .inr (0, [.ref (a 21), .ref (a 22), .ref (a 23), .ref (a 24), .ref (a 25), .ref (a 26), .ref (a 27), .ref (a 28)])),
  (a 21, .inl (cy 0, 12, .inl (aI (P 21)))), (a 22, .inl (cy 0, 12, .inl (aI (P 22)))), (a 23, .inl (cy 0, 12, .inl (aI (P 23)))), (a 24, .inl (cy 0, 12, .inl (aI (P 24)))), (a 25, .inl (cy 0, 12, .inl (aI (P 25)))), (a 26, .inl (cy 0, 12, .inl (aI (P 26)))), (a 27, .inl (cy 0, 12, .inl (aI (P 27)))), (a 28, .inl (cy 2, 12, .inl (aI (P 28))))]
def fgplW (cy : Nat → ClassId) (a : Nat → Nat) (P : Nat → Int → Int) : va_W := fgW cy a P ++ plW cy a P
def maW (cy : Nat → ClassId) (a : Nat → Nat) (P : Nat → Int → Int) : va_W := [
  (a 30, .inr (2, [.ref (a 31), .ref (a 32), .ref (a 33), .int (iI (P 30 3)), .int (iI (P 30 4)), .ref (a 34), .ref (a 35), .ref (a 36), .int (iI (P 30 8))])),
  (a 31, .inl (cy 0, 12, .inl (aI (P 31)))), (a 32, .inl (cy 0, 12, .inl (aI (P 32)))), (a 33, .inl (cy 0, 12, .inl (aI (P 33)))), (a 34, .inl (cy 0, 144, .inl (aI (P 34)))), (a 35, .inl (cy 0, 144, .inl (aI (P 35)))), (a 36, .inl (cy 0, 144, .inl (aI (P 36))))]
def mafgplW (cy : Nat → ClassId) (a : Nat → Nat) (P : Nat → Int → Int) : va_W := maW cy a P ++ fgW cy a P ++ plW cy a P
def figAt (M : Int → Int) (Z : Nat → Int → Int) (k : Int) : Prop :=
  (0 < pts M k → (Z 21 k = rdT M k ∧ Z 22 k = sprd M k ∧ Z 23 k = swp M k ∧ Z 24 k = M 0 * fspan M k) ∧ (Z 25 k = misf M k ∧ Z 26 k = gapN M k ∧ Z 27 k = angOf M k 0 ∧ Z 28 k = goodN M k)) ∧
  (pts M k = 0 → (Z 21 k = -1000000000 ∧ Z 22 k = -1000000000 ∧ Z 23 k = -1000000000 ∧ Z 24 k = -1000000000) ∧ (Z 25 k = -1000000000 ∧ Z 26 k = 0 ∧ Z 27 k = -1000000000 ∧ Z 28 k = 0))
def figOK (M : Int → Int) (Z : Nat → Int → Int) (n : Int) : Prop := ∀ k : Int, 0 ≤ k → k < n → figAt M Z k
theorem figOK_0 (M : Int → Int) (Z : Nat → Int → Int) : figOK M Z 0 := fun k a b => by omega
theorem figOK_s {M : Int → Int} {Z Z' : Nat → Int → Int} {t : Int} (h : figOK M Z t) (ho : ∀ (c : Nat) (k : Int), 21 ≤ c → c ≤ 28 → k ≠ t → Z' c k = Z c k) (ht : figAt M Z' t) : figOK M Z' (t + 1) := by
  intro k a b
  by_cases e : k = t
  · rw [e]; exact ht
  · have g := h k a (by omega)
    unfold figAt at g ⊢
    rw [ho 21 k (by decide) (by decide) e, ho 22 k (by decide) (by decide) e, ho 23 k (by decide) (by decide) e, ho 24 k (by decide) (by decide) e, ho 25 k (by decide) (by decide) e, ho 26 k (by decide) (by decide) e, ho 27 k (by decide) (by decide) e, ho 28 k (by decide) (by decide) e]
    exact g
theorem mO_12lt {P : Nat → Int → Int} {t : Int} (h : t < P 0 0) : t < mO P 12 := by rw [mO_12]; exact h
theorem mO_13lt {P : Nat → Int → Int} {u : Int} (h : u < P 0 1) : u < mO P 13 := by rw [mO_13]; exact h
theorem swp_p {P : Nat → Int → Int} (h : Inv (mO P)) {t : Int} (h0 : 0 ≤ t) (h1 : t < P 0 0) (h2 : 0 < P 1 t) : (-2160000 ≤ swp (mO P) t ∧ swp (mO P) t ≤ 2160000) ∧ ((-5000000 ≤ P 8 0 * fspan (mO P) t ∧ P 8 0 * fspan (mO P) t ≤ 5000000) ∧ misf (mO P) t = absI (swp (mO P) t - P 8 0 * fspan (mO P) t)) ∧ (0 ≤ sprd (mO P) t ∧ sprd (mO P) t ≤ 9900) ∧ (0 ≤ rdT (mO P) t ∧ rdT (mO P) t ≤ 9900) := by
  have hS := po_S h
  have e : pts (mO P) t = P 1 t := mO_pts P h0 (by omega)
  have a := inv_swp2 h h0 (mO_12lt h1) (by omega)
  have b := (inv_fspan h h0 (mO_12lt h1) (by omega)).2
  have c := inv_sprd h h0 (mO_12lt h1) (by omega)
  have d := inv_rdT h h0 (mO_12lt h1) (by omega)
  have f : mO P 0 = P 8 0 := mO_set P (by decide)
  rw [f] at b
  refine ⟨a, ⟨b, ?_⟩, c, d⟩
  unfold misf
  rw [f]
/-! pairs of trails and stars -/
def colOK (M : Int → Int) (z n : Int) (A B C : Int → Int) (K : Int) : Prop :=
  (0 ≤ n ∧ n ≤ K) ∧ (∀ i : Int, 0 ≤ i → i < n → ((0 ≤ A i ∧ A i < M 12) ∧ (0 ≤ B i ∧ B i < M 13) ∧ 0 < pts M (A i)) ∧ (C i = cstZ M z (A i) (B i) ∧ C i ≤ M 5) ∧ i ≤ 12 * A i + B i ∧ 12 * A i + B i < K) ∧ (∀ i j : Int, 0 ≤ i → i < j → j < n → 12 * A i + B i < 12 * A j + B j) ∧ (∀ t u : Int, 0 ≤ t → t < M 12 → 0 ≤ u → u < M 13 → 12 * t + u < K → 0 < pts M t → cstZ M z t u ≤ M 5 → ∃ i : Int, 0 ≤ i ∧ i < n ∧ A i = t ∧ B i = u)
theorem colOK_0 (M : Int → Int) (z : Int) (A B C : Int → Int) : colOK M z 0 A B C 0 := ⟨by omega, fun i a b => by omega, fun i j a b c => by omega, fun t u a b c d e _ _ => by omega⟩
theorem colOK_no {M : Int → Int} {z n : Int} {A B C : Int → Int} {K K' : Int} (h : colOK M z n A B C K) (hK : K ≤ K') (hn : ∀ t u : Int, 0 ≤ t → t < M 12 → 0 ≤ u → u < M 13 → K ≤ 12 * t + u → 12 * t + u < K' → 0 < pts M t → ¬ cstZ M z t u ≤ M 5) : colOK M z n A B C K' := by
  obtain ⟨h1, h2, h3, h4⟩ := h
  refine ⟨by omega, fun i a b => ?_, h3, fun t u a b c d e f g => ?_⟩
  · obtain ⟨g1, g2, g3, g4⟩ := h2 i a b
    exact ⟨g1, g2, g3, by omega⟩
  · by_cases q : 12 * t + u < K
    · exact h4 t u a b c d q f g
    · exact absurd g (hn t u a b c d (by omega) e f)
theorem colOK_yes {M : Int → Int} {z n t u : Int} {A B C : Int → Int} (h : colOK M z n A B C (12 * t + u)) (h12 : M 13 ≤ 12) (ht : 0 ≤ t ∧ t < M 12) (hu : 0 ≤ u ∧ u < M 13) (hp : 0 < pts M t) (hc : cstZ M z t u ≤ M 5) : colOK M z (n + 1) (ups A n t) (ups B n u) (ups C n (cstZ M z t u)) (12 * t + u + 1) := by
  obtain ⟨h1, h2, h3, h4⟩ := h
  refine ⟨by omega, fun i a b => ?_, fun i j a b c => ?_, fun t' u' a b c d e f g => ?_⟩
  · by_cases q : i = n
    · rw [q, ups_eq, ups_eq, ups_eq]
      exact ⟨⟨ht, hu, hp⟩, ⟨rfl, hc⟩, by omega, by omega⟩
    · rw [ups_ne _ _ q, ups_ne _ _ q, ups_ne _ _ q]
      obtain ⟨g1, g2, g3, g4⟩ := h2 i a (by omega)
      exact ⟨g1, g2, g3, by omega⟩
  · have hi := h2 i a (by omega)
    rw [ups_ne _ _ (show i ≠ n by omega), ups_ne _ _ (show i ≠ n by omega)]
    by_cases q : j = n
    · rw [q, ups_eq, ups_eq]
      exact hi.2.2.2
    · rw [ups_ne _ _ q, ups_ne _ _ q]
      exact h3 i j a b (by omega)
  · by_cases q : 12 * t' + u' < 12 * t + u
    · obtain ⟨i, i0, i1, i2, i3⟩ := h4 t' u' a b c d q f g
      exact ⟨i, i0, by omega, by rw [ups_ne _ _ (show i ≠ n by omega)]; exact i2, by rw [ups_ne _ _ (show i ≠ n by omega)]; exact i3⟩
    · exact ⟨n, h1.1, by omega, by rw [ups_eq]; omega, by rw [ups_eq]; omega⟩
/-- the first cheapest pair that is free -/
def fre (SO TR A B : Int → Int) (i : Int) : Prop := SO (A i) = -1000000000 ∧ TR (B i) = -1000000000
def bfp (SO TR A B C : Int → Int) (n r : Int) : Prop := (r = -1 ∧ ∀ i : Int, 0 ≤ i → i < n → ¬ fre SO TR A B i) ∨ ((0 ≤ r ∧ r < n) ∧ fre SO TR A B r ∧ ∀ i : Int, 0 ≤ i → i < n → fre SO TR A B i → C r < C i ∨ (C r = C i ∧ r ≤ i))
theorem bfp_0 (SO TR A B C : Int → Int) : bfp SO TR A B C 0 (-1) := Or.inl ⟨rfl, fun i a b => by omega⟩
theorem bfp_r {SO TR A B C : Int → Int} {n r : Int} (h : bfp SO TR A B C n r) : r = -1 ∨ (0 ≤ r ∧ r < n) := by
  rcases h with ⟨h1, _⟩ | ⟨h1, _⟩
  · exact Or.inl h1
  · exact Or.inr h1
theorem bfp_no {SO TR A B C : Int → Int} {n r : Int} (h : bfp SO TR A B C n r) (hn : ¬ fre SO TR A B n) : bfp SO TR A B C (n + 1) r := by
  rcases h with ⟨h1, h2⟩ | ⟨h1, h2, h3⟩
  · refine Or.inl ⟨h1, fun i a b => ?_⟩
    by_cases e : i = n
    · rw [e]; exact hn
    · exact h2 i a (by omega)
  · refine Or.inr ⟨by omega, h2, fun i a b c => ?_⟩
    by_cases e : i = n
    · rw [e] at c; exact absurd c hn
    · exact h3 i a (by omega) c
theorem bfp_new {SO TR A B C : Int → Int} {n r : Int} (h : bfp SO TR A B C n r) (hn0 : 0 ≤ n) (hf : fre SO TR A B n) (hc : r < 0 ∨ C n < C r) : bfp SO TR A B C (n + 1) n := by
  refine Or.inr ⟨by omega, hf, fun i a b c => ?_⟩
  by_cases e : i = n
  · rw [e]; exact Or.inr ⟨rfl, Int.le_refl _⟩
  · rcases h with ⟨h1, h2⟩ | ⟨h1, h2, h3⟩
    · exact absurd c (h2 i a (by omega))
    · have := h3 i a (by omega) c
      omega
theorem bfp_old {SO TR A B C : Int → Int} {n r : Int} (h : bfp SO TR A B C n r) (hr : 0 ≤ r) (hc : C r ≤ C n) : bfp SO TR A B C (n + 1) r := by
  rcases h with ⟨h1, h2⟩ | ⟨h1, h2, h3⟩
  · omega
  · refine Or.inr ⟨by omega, h2, fun i a b c => ?_⟩
    by_cases e : i = n
    · rw [e]; omega
    · exact h3 i a (by omega) c
/-- it is the pair that the reference picks -/
theorem bfp_pick {M : Int → Int} {z n r : Int} {SO TR A B C : Int → Int} (hI : Inv M) (h : bfp SO TR A B C n r) (hc : colOK M z n A B C (12 * M 12)) : (r = -1 ∧ pick M z SO TR = -1000000000) ∨ ((0 ≤ r ∧ r < n) ∧ pick M z SO TR = 12 * A r + B r) := by
  obtain ⟨c1, c2, c3, c4⟩ := hc
  have h12 := inv_S12 hI
  have fwd : ∀ k : Int, cnd M z SO TR k → ∃ i : Int, (0 ≤ i ∧ i < n) ∧ fre SO TR A B i ∧ k = 12 * A i + B i ∧ C i = cstK M z k := by
    intro k hk
    obtain ⟨k1, k2, k3, k4, k5, k6⟩ := hk
    obtain ⟨i, i0, i1, i2, i3⟩ := c4 (k / 12) (k % 12) (by omega) (by omega) (by omega) k2 (by omega) k3 k6
    have ci := c2 i i0 i1
    refine ⟨i, ⟨i0, i1⟩, ⟨by rw [i2]; exact k4, by rw [i3]; exact k5⟩, by rw [i2, i3]; omega, ?_⟩
    rw [ci.2.1.1, i2, i3]
    rfl
  rcases h with ⟨h1, h2⟩ | ⟨h1, h2, h3⟩
  · refine Or.inl ⟨h1, pick_none (fun k hk => ?_)⟩
    obtain ⟨i, i0, i1, _⟩ := fwd k hk
    exact h2 i i0.1 i0.2 i1
  · have cr := c2 r h1.1 h1.2
    have e1 : (12 * A r + B r) / 12 = A r := by omega
    have e2 : (12 * A r + B r) % 12 = B r := by omega
    have ek : cstK M z (12 * A r + B r) = C r := by
      unfold cstK
      rw [e1, e2]
      exact cr.2.1.1.symm
    refine Or.inr ⟨h1, pick_some ⟨⟨by omega, by rw [e2]; exact cr.1.2.1.2, by rw [e1]; exact cr.1.2.2, by rw [e1]; exact h2.1, by rw [e2]; exact h2.2, ?_⟩, fun j hj => ?_⟩⟩
    · rw [e1, e2, ← cr.2.1.1]; exact cr.2.1.2
    · obtain ⟨i, i0, i1, i2, i3⟩ := fwd j hj
      have g := h3 i i0.1 i0.2 i1
      rw [ek, ← i3, i2]
      rcases Int.lt_or_le r i with q | q
      · have := c3 r i h1.1 q i0.2
        omega
      · by_cases e : r = i
        · rw [e]; omega
        · omega
/-- what the class knows behind its matching -/
def maOK (M : Int → Int) (z : Int) (SO TR CO : Int → Int) : Prop := (∀ k : Int, 0 ≤ k → k < 12 → SO k = (mat M z).1 k ∧ TR k = (mat M z).2.1 k) ∧ (∀ u : Int, 0 ≤ u → u < 12 → (TR u = -1000000000 → CO u = -1000000000) ∧ (TR u ≠ -1000000000 → CO u = cstK M z (12 * TR u + u)))
theorem nar_z {z : Int} (h : z = 0 ∨ z = 1) : vp_nar .boolean (iI z) = iI z := by
  rcases h with h | h <;> subst h <;> decide +kernel
theorem nar_b0 {z : Int} (h : -128 ≤ z ∧ z ≤ 127) : (iI z).toInt8.toInt32 = iI z := by
  rw [iI_of (iI z).toInt8.toInt32, Int8.toInt_toInt32, Int32.toInt_toInt8, iI_toInt (by omega)]
  congr 1
  rw [Int.bmod_eq_of_le] <;> omega
theorem nar_b {z : Int} (h : -128 ≤ z ∧ z ≤ 127) : vp_nar .byte (iI z) = iI z := by rw [vp_nar_byte, nar_b0 h]
section KZB
variable {p : Program} {l : Launch} {e : Env} {R : Room} {s : State} {m : MethodId} {args : Array Value} {below : List Frame} {meth : Method} {c : Code} {H : Heap} {locs : List Loc} {cells slots : Nat} {Q : State → Prop}
variable {cc : ByteArray} {pc : Nat} {ls : Array Slot} {rest : List Value} {D : va_G} {cl : List vw_C} {ws : va_W} {tys : List (ClassId × FieldType)} {a : Nat} {A : Nat → Prop} {H0 : Heap}
theorem k_zast (hexec : p.tables.exec = Jvm.exec) (hb : c.code = cc) (hK : va_K D cl tys s) (hP : va_P D cl ws H) (hD : va_D A ws) (hS : va_S A H0 H locs) (q0 t0 : Nat) {cA : ClassId} {n : Nat} {f : Int → Int} (ha : ws[q0]? = some (a, .inl (cA, n, .inl (aI f)))) (ht : tys[t0]? = some (cA, .boolean)) {i x : Int} (hi : 0 ≤ i ∧ i < (n : Int) ∧ (n : Int) ≤ 2147483647) (hx : x = 0 ∨ x = 1) (hdg : decode cc pc = .ok (.bastore, 1))
    (kk : ∀ (H1 : Heap) (locs1 : List Loc), va_P D cl (ws.set q0 (a, .inl (cA, n, .inl (aI (ups f i x))))) H1 → va_D A (ws.set q0 (a, .inl (cA, n, .inl (aI (ups f i x))))) → va_S A H0 H1 locs1 → W p l e R s m args below meth c H1 locs1 cells slots Q (F0 m (pc + 1) ls rest)) : W p l e R s m args below meth c H locs cells slots Q (F0 m pc ls (.int (iI x) :: .int (iI i) :: .ref a :: rest)) :=
  va_zast hexec hb hK hP hD hS q0 t0 ha ht (vp_iI hi) hdg (fun H1 locs1 h1 h2 h3 => kk H1 locs1 (by rw [nar_z hx, aI_upd hi.1 (by omega)] at h1; exact h1) (by rw [nar_z hx, aI_upd hi.1 (by omega)] at h2; exact h2) h3)
theorem k_bast (hexec : p.tables.exec = Jvm.exec) (hb : c.code = cc) (hK : va_K D cl tys s) (hP : va_P D cl ws H) (hD : va_D A ws) (hS : va_S A H0 H locs) (q0 t0 : Nat) {cA : ClassId} {n : Nat} {f : Int → Int} (ha : ws[q0]? = some (a, .inl (cA, n, .inl (aI f)))) (ht : tys[t0]? = some (cA, .byte)) {i x : Int} (hi : 0 ≤ i ∧ i < (n : Int) ∧ (n : Int) ≤ 2147483647) (hx : -128 ≤ x ∧ x ≤ 127) (hdg : decode cc pc = .ok (.bastore, 1))
    (kk : ∀ (H1 : Heap) (locs1 : List Loc), va_P D cl (ws.set q0 (a, .inl (cA, n, .inl (aI (ups f i x))))) H1 → va_D A (ws.set q0 (a, .inl (cA, n, .inl (aI (ups f i x))))) → va_S A H0 H1 locs1 → W p l e R s m args below meth c H1 locs1 cells slots Q (F0 m (pc + 1) ls rest)) : W p l e R s m args below meth c H locs cells slots Q (F0 m pc ls (.int (iI x) :: .int (iI i) :: .ref a :: rest)) :=
  va_bast hexec hb hK hP hD hS q0 t0 ha ht (vp_iI hi) hdg (fun H1 locs1 h1 h2 h3 => kk H1 locs1 (by rw [nar_b hx, aI_upd hi.1 (by omega)] at h1; exact h1) (by rw [nar_b hx, aI_upd hi.1 (by omega)] at h2; exact h2) h3)
theorem k_i2b (hexec : p.tables.exec = Jvm.exec) (hb : c.code = cc) {x : Int} (hdg : decode cc pc = .ok (.i2b, 1)) (hx : -128 ≤ x ∧ x ≤ 127) (k : W p l e R s m args below meth c H locs cells slots Q (F0 m (pc + 1) ls (.int (iI x) :: rest))) : W p l e R s m args below meth c H locs cells slots Q (F0 m pc ls (.int (iI x) :: rest)) := lv_i2b hexec hb hdg (nar_b0 hx) k
end KZB
