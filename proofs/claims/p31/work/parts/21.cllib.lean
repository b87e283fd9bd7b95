/-! one array alone -/
def arW (n : Nat) (cy : Nat → ClassId) (b : Nat → Nat) (F : Nat → Int → Int) : va_W := [(b 0, .inl (cy 0, n, .inl (aI (F 0))))]
theorem shf_end (M : Int → Int) {lo hi k d : Int} (h : k ≤ hi ∨ k = lo) (h2 : hi ≤ k) : shf M lo k d = shf M lo hi d := by
  by_cases e : k = hi
  · rw [e]
  · have e2 : k = lo := by omega
    rw [e2, shf_0 M d (Int.le_refl lo), shf_0 M d (by omega)]
theorem shb_s1 (M : Int → Int) {i hi : Int} (h : i < hi) : shb M i hi 1 = ups (shb M (i + 1) hi 1) i (shb M (i + 1) hi 1 (i - 1)) := by
  rw [shb_out M (show i - 1 < i + 1 ∨ hi ≤ i - 1 by omega)]
  funext j
  by_cases e : j = i
  · subst e
    rw [ups_eq]
    unfold shb
    rw [if_pos (by omega)]
  · rw [ups_ne _ _ e]
    unfold shb
    by_cases z : i ≤ j ∧ j < hi
    · rw [if_pos z, if_pos (by omega)]
    · rw [if_neg z, if_neg (by omega)]
theorem iI_min {x y : Int} (hx : -2147483648 ≤ x ∧ x ≤ 2147483647) (hy : -2147483648 ≤ y ∧ y ≤ 2147483647) : (if iI y < iI x then iI y else iI x) = iI (min x y) := by
  by_cases h : y < x
  · rw [if_pos ((iI_lt hy hx).mpr h)]
    congr 1
    omega
  · rw [if_neg (fun q => h ((iI_lt hy hx).mp q))]
    congr 1
    omega
theorem iI_max {x y : Int} (hx : -2147483648 ≤ x ∧ x ≤ 2147483647) (hy : -2147483648 ≤ y ∧ y ≤ 2147483647) : (if iI x < iI y then iI y else iI x) = iI (max x y) := by
  by_cases h : x < y
  · rw [if_pos ((iI_lt hx hy).mpr h)]
    congr 1
    omega
  · rw [if_neg (fun q => h ((iI_lt hx hy).mp q))]
    congr 1
    omega
theorem iI_abs {x : Int} (hx : -2147483647 ≤ x ∧ x ≤ 2147483647) : (if (0 : Int32) ≤ iI x then iI x else 0 - iI x) = iI (absI x) := by
  have h0 : (0 : Int32) = iI 0 := rfl
  rw [h0]
  unfold absI
  by_cases h : 0 ≤ x
  · rw [if_pos ((iI_le (by omega) (by omega)).mpr h), if_neg (by omega)]
  · rw [if_neg (fun q => h ((iI_le (by omega) (by omega)).mp q)), if_pos (by omega), iI_sub]
    congr 1
    omega
section KMM
variable {p : Program} {l : Launch} {e : Env} {R : Room} {s : State} {m : MethodId} {args : Array Value} {below : List Frame} {meth : Method} {c : Code} {H : Heap} {locs : List Loc} {cells slots : Nat} {Q : State → Prop}
variable {pc : Nat} {ls : Array Slot} {rest : List Value}
theorem k_mmin {cc : ByteArray} (hexec : p.tables.exec = Jvm.exec) (hb : c.code = cc) (hml : c.maxLocals = ls.size) {own : String} {index : Nat} (hown : s.vm.findClass own = some m.cls) (hlink : (Cond.methodLink own index Lib.Math.min.name).before args s = true) (hstat : (Cond.static Lib.Math.min.name).before args s = true) (hini : (Cond.initialized "java/lang/Math").before args s = true) (hcode : (Cond.code Lib.Math.min.name Lib.Math.min.code 2 (some .int)).before args s = true)
    (hframes : 1 ≤ R.frames) (hlocals : (rest.map fun v => v.category).sum + 13 ≤ R.locals) (hc : cells ≤ R.cells) (hs : slots ≤ R.slots) {x y : Int} (hx : -2147483648 ≤ x ∧ x ≤ 2147483647) (hy : -2147483648 ≤ y ∧ y ≤ 2147483647) (hdg : decode cc pc = .ok (.invokestatic index, 3))
    (kk : W p l e R s m args below meth c H locs cells slots Q (F0 m (pc + 3) ls (.int (iI (min x y)) :: rest))) : W p l e R s m args below meth c H locs cells slots Q (F0 m pc ls (.int (iI y) :: .int (iI x) :: rest)) :=
  va_mmin hexec hb hml hown hlink hstat hini hcode hframes hlocals hc hs hdg (by rw [iI_min hx hy]; exact kk)
theorem k_mmax {cc : ByteArray} (hexec : p.tables.exec = Jvm.exec) (hb : c.code = cc) (hml : c.maxLocals = ls.size) {own : String} {index : Nat} (hown : s.vm.findClass own = some m.cls) (hlink : (Cond.methodLink own index Lib.Math.max.name).before args s = true) (hstat : (Cond.static Lib.Math.max.name).before args s = true) (hini : (Cond.initialized "java/lang/Math").before args s = true) (hcode : (Cond.code Lib.Math.max.name Lib.Math.max.code 2 (some .int)).before args s = true)
    (hframes : 1 ≤ R.frames) (hlocals : (rest.map fun v => v.category).sum + 13 ≤ R.locals) (hc : cells ≤ R.cells) (hs : slots ≤ R.slots) {x y : Int} (hx : -2147483648 ≤ x ∧ x ≤ 2147483647) (hy : -2147483648 ≤ y ∧ y ≤ 2147483647) (hdg : decode cc pc = .ok (.invokestatic index, 3))
    (kk : W p l e R s m args below meth c H locs cells slots Q (F0 m (pc + 3) ls (.int (iI (max x y)) :: rest))) : W p l e R s m args below meth c H locs cells slots Q (F0 m pc ls (.int (iI y) :: .int (iI x) :: rest)) :=
  va_mmax hexec hb hml hown hlink hstat hini hcode hframes hlocals hc hs hdg (by rw [iI_max hx hy]; exact kk)
theorem k_mabs {cc : ByteArray} (hexec : p.tables.exec = Jvm.exec) (hb : c.code = cc) (hml : c.maxLocals = ls.size) {own : String} {index : Nat} (hown : s.vm.findClass own = some m.cls) (hlink : (Cond.methodLink own index Lib.Math.abs.name).before args s = true) (hstat : (Cond.static Lib.Math.abs.name).before args s = true) (hini : (Cond.initialized "java/lang/Math").before args s = true) (hcode : (Cond.code Lib.Math.abs.name Lib.Math.abs.code 1 (some .int)).before args s = true)
    (hframes : 1 ≤ R.frames) (hlocals : (rest.map fun v => v.category).sum + 13 ≤ R.locals) (hc : cells ≤ R.cells) (hs : slots ≤ R.slots) {x : Int} (hx : -2147483647 ≤ x ∧ x ≤ 2147483647) (hdg : decode cc pc = .ok (.invokestatic index, 3))
    (kk : W p l e R s m args below meth c H locs cells slots Q (F0 m (pc + 3) ls (.int (iI (absI x)) :: rest))) : W p l e R s m args below meth c H locs cells slots Q (F0 m pc ls (.int (iI x) :: rest)) :=
  va_mabs hexec hb hml hown hlink hstat hini hcode hframes hlocals hc hs hdg (by rw [iI_abs hx]; exact kk)
end KMM
theorem hasP_iff {P : Nat → Int → Int} (h : Inv (mO P)) {t f : Int} (h0 : 0 ≤ t) (h1 : t < P 0 0) : hasF (mO P) t f ↔ ∃ k : Int, 0 ≤ k ∧ k < P 1 t ∧ P 2 (12 * t + k) = f := by
  have hS := po_S h
  have hp := po_pts h h0 h1
  unfold hasF
  rw [mO_pts P h0 (by omega)]
  constructor
  · rintro ⟨k, k0, k1, k2⟩
    rw [mO_frm P h0 (by omega) k0 (by omega)] at k2
    exact ⟨k, k0, k1, k2⟩
  · rintro ⟨k, k0, k1, k2⟩
    exact ⟨k, k0, k1, by rw [mO_frm P h0 (by omega) k0 (by omega)]; exact k2⟩
theorem posF_of {M : Int → Int} {t f q : Int} (h0 : 0 ≤ q) (h1 : q ≤ pts M t) (hlo : 0 < q → frm M t (q - 1) ≤ f) (hhi : ∀ k : Int, q ≤ k → k < pts M t → f < frm M t k) : posF M t f = q := by
  have key : ∀ n : Nat, q + n ≤ pts M t → posI M t f (q + n).toNat = q := by
    intro n
    induction n with
    | zero =>
      intro _
      rw [show q + ((0 : Nat) : Int) = q by omega]
      by_cases z : q = 0
      · exact posI_zero M t f z
      · exact posI_stop (by omega) (by have := hlo (by omega); omega)
    | succ n ih =>
      intro hn
      rw [posI_step (p := q + ((n + 1 : Nat) : Int)) (by omega) (hhi _ (by omega) (by omega)), show q + ((n + 1 : Nat) : Int) - 1 = q + (n : Int) by omega]
      exact ih (by omega)
  have k := key (pts M t - q).toNat (by omega)
  rw [show q + ((pts M t - q).toNat : Int) = pts M t by omega] at k
  exact k
theorem posP_of {P : Nat → Int → Int} (h : Inv (mO P)) {t f q : Int} (h0 : 0 ≤ t) (h1 : t < P 0 0) (hq : 0 ≤ q) (hq1 : q ≤ P 1 t) (hlo : ∀ k : Int, 0 ≤ k → k < q → P 2 (12 * t + k) < f) (hhi : q = P 1 t ∨ f < P 2 (12 * t + q)) : posF (mO P) t f = q := by
  have hS := po_S h
  have hp := po_pts h h0 h1
  refine posF_of hq (by rw [mO_pts P h0 (by omega)]; exact hq1) (fun z => ?_) (fun k k0 k1 => ?_)
  · rw [mO_frm P h0 (by omega) (by omega) (by omega)]
    exact Int.le_of_lt (hlo _ (by omega) (by omega))
  · rw [mO_pts P h0 (by omega)] at k1
    have hm := inv_mono h h0 (by rw [mO_12]; exact h1) hq (k - q).toNat (by rw [mO_pts P h0 (by omega)]; omega)
    rw [show q + ((k - q).toNat : Int) = k by omega] at hm
    rw [mO_frm P h0 (by omega) hq (by omega)] at hm
    omega
theorem fsp_mO {P : Nat → Int → Int} (h : Inv (mO P)) {t : Int} (h0 : 0 ≤ t) (h1 : t < P 0 0) (h2 : 0 < P 1 t) : fspan (mO P) t = P 2 (12 * t + (P 1 t - 1)) - P 2 (12 * t + 0) := by
  have hS := po_S h
  have hp := po_pts h h0 h1
  unfold fspan
  rw [mO_pts P h0 (by omega), mO_frm P h0 (by omega) (by omega) (by omega), mO_frm P h0 (by omega) (by omega) (by omega)]
theorem rd_mO (P : Nat → Int → Int) {t q : Int} (h : 0 ≤ t) (h2 : t < 12) (h3 : 0 ≤ q) (h4 : q < 12) : rdOf (mO P) t q = rt ((dplX P (12 * t + q) (P 8 1) - P 0 2) * (dplX P (12 * t + q) (P 8 1) - P 0 2) + (dplY P (12 * t + q) (P 8 2) - P 0 3) * (dplY P (12 * t + q) (P 8 2) - P 0 3)) := by
  unfold rdOf dplX dplY
  rw [mO_plX P h h2 h3 h4, mO_plY P h h2 h3 h4, mO_10, mO_11]
theorem an_mO (P : Nat → Int → Int) {t q : Int} (h : 0 ≤ t) (h2 : t < 12) (h3 : 0 ≤ q) (h4 : q < 12) : angOf (mO P) t q = angF (dplX P (12 * t + q) (P 8 1) - P 0 2) (dplY P (12 * t + q) (P 8 2) - P 0 3) := by
  unfold angOf dplX dplY
  rw [mO_plX P h h2 h3 h4, mO_plY P h h2 h3 h4, mO_10, mO_11]
theorem dxy_mO {P : Nat → Int → Int} (h : Inv (mO P)) {t q : Int} (h0 : 0 ≤ t) (h1 : t < P 0 0) (h2 : 0 ≤ q) (h3 : q < P 1 t) : (-7000 ≤ dplX P (12 * t + q) (P 8 1) - P 0 2 ∧ dplX P (12 * t + q) (P 8 1) - P 0 2 ≤ 7000) ∧ (-7000 ≤ dplY P (12 * t + q) (P 8 2) - P 0 3 ∧ dplY P (12 * t + q) (P 8 2) - P 0 3 ≤ 7000) := by
  have hS := po_S h
  have hs := po_set h
  have a := (dpl_bd h h0 h1 h2 h3 hs.2.1).2.1
  have b := (dpl_bd h h0 h1 h2 h3 hs.2.2.1).2.2
  omega
theorem ptV_mO {P : Nat → Int → Int} {t q w : Int} (h : 0 ≤ t) (h2 : t < 12) (h3 : 0 ≤ q) (h4 : q < 12) (hw : 0 ≤ w ∧ w ≤ 6) : (w = 0 → ptV (mO P) t q w = P 2 (12 * t + q)) ∧ (w = 1 → ptV (mO P) t q w = P 3 (12 * t + q)) ∧ (w = 2 → ptV (mO P) t q w = P 4 (12 * t + q)) ∧ (w = 3 → ptV (mO P) t q w = dplX P (12 * t + q) (P 8 1)) ∧ (w = 4 → ptV (mO P) t q w = dplY P (12 * t + q) (P 8 2)) ∧ (w = 5 → ptV (mO P) t q w = rdOf (mO P) t q) ∧ (w = 6 → ptV (mO P) t q w = angOf (mO P) t q) := by
  refine ⟨?_, ?_, ?_, ?_, ?_, ?_, ?_⟩ <;> intro e <;> subst e <;> unfold ptV
  · rw [if_neg (by decide), if_neg (by decide), if_neg (by decide), if_neg (by decide), Int.add_zero]
    exact mO_frm P h h2 h3 h4
  · rw [if_neg (by decide), if_neg (by decide), if_neg (by decide), if_neg (by decide)]
    exact mO_x P h h2 h3 h4
  · rw [if_neg (by decide), if_neg (by decide), if_neg (by decide), if_neg (by decide)]
    exact mO_y P h h2 h3 h4
  · rw [if_pos rfl]
    exact mO_plX P h h2 h3 h4
  · rw [if_neg (by decide), if_pos rfl]
    exact mO_plY P h h2 h3 h4
  · rw [if_neg (by decide), if_neg (by decide), if_pos rfl]
  · rw [if_neg (by decide), if_neg (by decide), if_neg (by decide), if_pos rfl]
theorem plR_mO (P : Nat → Int → Int) {u : Int} (h : 0 ≤ u) : plR (mO P) u = P 5 u * P 8 7 / 1000 := by
  unfold plR
  rw [mO_sr P h, mO_set P (by decide)]
theorem sta_mO (P : Nat → Int → Int) (z f : Int) {u : Int} (h : 0 ≤ u) : stAng (mO P) z u f = (P 6 u + z + P 8 0 * f) % 360000 := by
  unfold stAng
  rw [mO_sa P h, mO_set P (by decide)]
theorem mO_pole (P : Nat → Int → Int) (x y : Int) : mO (upr P 0 (ups (ups (P 0) 2 x) 3 y)) = tPo (mO P) x y := by
  funext k
  by_cases h1 : k = 11
  · rw [h1, mO_11, tPo_11]; rfl
  · by_cases h2 : k = 10
    · rw [h2, mO_10, tPo_10]; rfl
    · rw [tPo_ne _ _ _ h2 h1]
      unfold mO
      rw [if_neg h1, if_neg h2, if_neg h1, if_neg h2]
      rfl
theorem tDr_mO (P : Nat → Int → Int) : tDr (mO P) (P 8 1) (P 8 2) = mO P := by
  have h := tDr_id (mO P)
  rw [mO_set P (by decide : (1 : Int) < 10), mO_set P (by decide : (2 : Int) < 10)] at h
  exact h
theorem ppt_mO (P : Nat → Int → Int) (x y u v : Int) {t : Int} (h0 : 0 ≤ t) (h1 : t < 12) : pts (tPo (tDr (mO P) u v) x y) t = P 1 t := by
  show tPo (tDr (mO P) u v) x y (14 + 37 * t) = P 1 t
  rw [tPo_ne _ _ _ (by omega) (by omega), tDr_e _ _ _ (by omega) (by omega)]
  exact mO_pts P h0 (by omega)
theorem pc_mO (P : Nat → Int → Int) (x y u v : Int) (h : 0 ≤ P 0 0 ∧ P 0 0 ≤ 12) : pcost (tPo (tDr (mO P) u v) x y) = sumZ (fun t => if 1 < P 1 t then sprd (tPo (tDr (mO P) u v) x y) t else 0) (P 0 0) := by
  unfold pcost
  rw [tPo_ne _ _ _ (show (12 : Int) ≠ 10 by decide) (by decide), tDr_e _ _ _ (show (12 : Int) ≠ 1 by decide) (by decide), mO_12]
  exact sumZ_congr (fun k a b => by rw [ppt_mO P x y u v a (by omega)])
