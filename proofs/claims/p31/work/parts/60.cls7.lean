set_option maxHeartbeats 4000000 in
set_option maxRecDepth 100000 in
theorem c_X6_isMissing (l : Launch) (D : va_G) (cy : Nat → ClassId) (a : Nat → Nat) (P : Nat → Int → Int) (u : Int) (hI : Inv (mO P)) (hlk : lkd P) (h0u : 0 ≤ u) (h1u : u < P 0 1) : Met l yX6_isMissing wsX6_isMissing { frames := 0, cells := 0, slots := 0, locals := 0 } (kPre (GG D cy) D (oblkW cy a P) ([.ref (a 100), .int (iI u)] : List Value)) (kRO (fun r => ((missP (mO P) (P 32) u) ∧ r = 1) ∨ (¬ (missP (mO P) (P 32) u) ∧ r = 0))) 0 0 (fun _ => False) := by
  refine kRO_start (cc := cX6_isMissing) (maxL := 2) (ret := (some .boolean)) (by decide) rfl (Nat.le_of_ble_eq_true rfl) ?_
  intro p e s m below meth c hx hb hr hlocks hml hts hown hG hP ls hl
  have hK := hG.1
  have hl : lv_has ls 2 [(0, .ref (a 100)), (1, .int (iI u))] := hl
  have hinX3 : ∀ w ∈ u_ws RX3 TX3 9, w ∈ wsX6_isMissing := by decide +kernel
  have hinX4 : ∀ w ∈ u_ws RX4 TX4 12, w ∈ wsX6_isMissing := by decide +kernel
  have hinX6 : ∀ w ∈ u_ws RX6 TX6 8, w ∈ wsX6_isMissing := by decide +kernel
  have hmw0 := hts (.fieldLink RX6 40 "ArcPlate" "matching" "LArcPlate$Matching;") (by decide +kernel)
  have hmw1 := hts (.fieldLink RX6 185 "ArcPlate$Matching" "trailOf" "[I") (by decide +kernel)
  have hmw2 := hts (.constant RX6 153 (-1000000000)) (by decide +kernel)
  have hmw3 := hts (.fieldLink RX6 10 "ArcPlate" "plate" "LArcPlate$Plate;") (by decide +kernel)
  have hmw4 := hts (.fieldLink RX6 302 "ArcPlate$Plate" "lights" "[I") (by decide +kernel)
  have hmw5 := hts (.fieldLink RX6 143 "ArcPlate$Plate" "settings" "[I") (by decide +kernel)
  have hS0 := po_S hI
  have hset := po_set hI
  have hmp := missP_mO (P := P) (P 32) h0u
  have hrg := ma_rg hI hlk.2.1 h0u (show u < 12 by omega)
  have hst := po_star hI h0u h1u
  refine lv_aload_n hx hb dX6_isMissing_0 rfl (lv_at hl 0 rfl) ?_
  refine va_get (D := D) (ci := 5) (v := .ref (a 30)) (C := RX6) (T := TX6) (N := 8) hx hb hts hinX6 hown hK hP 0 rfl rfl 4 (by decide) hmw0 (fun _ h9 => h9) rfl dX6_isMissing_1 ?_
  refine va_get (D := D) (ci := 2) (v := .ref (a 32)) (C := RX3) (T := TX3) (N := 9) hx hb hts hinX3 hown hK hP 19 rfl rfl 1 (by decide) hmw1 (fun _ h9 => h9) rfl dX6_isMissing_4 ?_
  refine lv_iload_n hx hb dX6_isMissing_7 rfl (lv_at hl 1 rfl) ?_
  refine k_iald hx hb hK hP 21 0 (f := P 32) rfl rfl (i := u) (by omega) dX6_isMissing_8 ?_
  refine k_ldc (z := (-1000000000)) hx hb hown hmw2 (by decide +kernel) dX6_isMissing_9 ?_
  refine k_icmp_ne (tgt := 40) hx hb dX6_isMissing_11 (by decide) (by omega) (by omega) (fun c_1 => ?_) (fun c_1 => ?_)
  · skip
    refine k_iconst hx hb dX6_isMissing_40 ?_
    exact W.zret (v := iI 0) hx hb hr (by decide +kernel) (fun t9 ht _ => ⟨0, rfl, (by first | exact Or.inl ⟨hmp.mpr (by omega), rfl⟩ | exact Or.inr ⟨fun h9 => by have h8 := hmp.mp h9; omega, rfl⟩ : ((missP (mO P) (P 32) u) ∧ (0 : Int) = 1) ∨ (¬ (missP (mO P) (P 32) u) ∧ (0 : Int) = 0)), ht⟩) (fun _ h => nomatch h) dX6_isMissing_41 hlocks
  · skip
    refine lv_aload_n hx hb dX6_isMissing_14 rfl (lv_at hl 0 rfl) ?_
    refine va_get (D := D) (ci := 5) (v := .ref (a 0)) (C := RX6) (T := TX6) (N := 8) hx hb hts hinX6 hown hK hP 0 rfl rfl 0 (by decide) hmw3 (fun _ h9 => h9) rfl dX6_isMissing_15 ?_
    refine va_get (D := D) (ci := 3) (v := .ref (a 7)) (C := RX4) (T := TX4) (N := 12) hx hb hts hinX4 hown hK hP 1 rfl rfl 10 (by decide) hmw4 (fun _ h9 => h9) rfl dX6_isMissing_18 ?_
    refine lv_iload_n hx hb dX6_isMissing_21 rfl (lv_at hl 1 rfl) ?_
    refine k_iald hx hb hK hP 8 0 (f := P 7) rfl rfl (i := u) (by omega) dX6_isMissing_22 ?_
    refine lv_aload_n hx hb dX6_isMissing_23 rfl (lv_at hl 0 rfl) ?_
    refine va_get (D := D) (ci := 5) (v := .ref (a 0)) (C := RX6) (T := TX6) (N := 8) hx hb hts hinX6 hown hK hP 0 rfl rfl 0 (by decide) hmw3 (fun _ h9 => h9) rfl dX6_isMissing_24 ?_
    refine va_get (D := D) (ci := 3) (v := .ref (a 8)) (C := RX4) (T := TX4) (N := 12) hx hb hts hinX4 hown hK hP 1 rfl rfl 11 (by decide) hmw5 (fun _ h9 => h9) rfl dX6_isMissing_27 ?_
    refine k_bipush hx hb dX6_isMissing_30 (by decide +kernel) ?_
    refine k_iald hx hb hK hP 9 0 (f := P 8) rfl rfl (i := 9) (by omega) dX6_isMissing_32 ?_
    refine k_icmp_lt (tgt := 40) hx hb dX6_isMissing_33 (by decide) (by omega) (by omega) (fun c_2 => ?_) (fun c_2 => ?_)
    · skip
      refine k_iconst hx hb dX6_isMissing_40 ?_
      exact W.zret (v := iI 0) hx hb hr (by decide +kernel) (fun t9 ht _ => ⟨0, rfl, (by first | exact Or.inl ⟨hmp.mpr (by omega), rfl⟩ | exact Or.inr ⟨fun h9 => by have h8 := hmp.mp h9; omega, rfl⟩ : ((missP (mO P) (P 32) u) ∧ (0 : Int) = 1) ∨ (¬ (missP (mO P) (P 32) u) ∧ (0 : Int) = 0)), ht⟩) (fun _ h => nomatch h) dX6_isMissing_41 hlocks
    · skip
      refine k_iconst hx hb dX6_isMissing_36 ?_
      refine lv_goto (tgt := 41) hx hb dX6_isMissing_37 (by decide) ?_
      exact W.zret (v := iI 1) hx hb hr (by decide +kernel) (fun t9 ht _ => ⟨1, rfl, (by first | exact Or.inl ⟨hmp.mpr (by omega), rfl⟩ | exact Or.inr ⟨fun h9 => by have h8 := hmp.mp h9; omega, rfl⟩ : ((missP (mO P) (P 32) u) ∧ (1 : Int) = 1) ∨ (¬ (missP (mO P) (P 32) u) ∧ (1 : Int) = 0)), ht⟩) (fun _ h => nomatch h) dX6_isMissing_41 hlocks
set_option maxHeartbeats 4000000 in
set_option maxRecDepth 100000 in
theorem c_X6_missingStars (l : Launch) (D : va_G) (cy : Nat → ClassId) (a : Nat → Nat) (P : Nat → Int → Int)  (hI : Inv (mO P)) (hlk : lkd P) : Met l yX6_missingStars wsX6_missingStars { frames := 1, cells := 0, slots := 0, locals := 21 } (kPre (GG D cy) D (oblkW cy a P) ([.ref (a 100)] : List Value)) (kRO (fun r => r = missC (mO P) (P 32))) 0 0 (fun _ => False) := by
  refine kRO_start (cc := cX6_missingStars) (maxL := 3) (ret := (some .int)) (by decide) rfl (Nat.le_of_ble_eq_true rfl) ?_
  intro p e s m below meth c hx hb hr hlocks hml hts hown hG hP ls hl
  have hK := hG.1
  have hl : lv_has ls 3 [(0, .ref (a 100))] := hl
  have hinX4 : ∀ w ∈ u_ws RX4 TX4 12, w ∈ wsX6_missingStars := by decide +kernel
  have hinX6 : ∀ w ∈ u_ws RX6 TX6 8, w ∈ wsX6_missingStars := by decide +kernel
  have hmw0 := hts (.fieldLink RX6 10 "ArcPlate" "plate" "LArcPlate$Plate;") (by decide +kernel)
  have hmw1 := hts (.fieldLink RX6 158 "ArcPlate$Plate" "stars" "I") (by decide +kernel)
  have hS0 := po_S hI
  refine k_iconst hx hb dX6_missingStars_0 ?_
  refine lv_istore_n (lv' := [(1, .int (iI 0)), (0, .ref (a 100))]) hx hb dX6_missingStars_1 rfl hl (by decide) rfl (fun ls hl => ?_)
  refine k_iconst hx hb dX6_missingStars_2 ?_
  refine lv_istore_n (lv' := [(2, .int (iI 0)), (1, .int (iI 0)), (0, .ref (a 100))]) hx hb dX6_missingStars_3 rfl hl (by decide) rfl (fun ls hl => ?_)
  have loop4 : ∀ (n_1 : Nat) (u : Int) (x1 : Int) (hi0 : 0 ≤ u) (hi1 : u ≤ P 0 1) (hex1 : x1 = sumZ (missN (mO P) (P 32)) u) (hn : P 0 1 - u < (n_1 : Int)) (ls : Array Slot) (hl : lv_has ls 3 [(2, .int (iI u)), (1, .int (iI x1)), (0, .ref (a 100))]), W p l e { frames := 1, cells := 0, slots := 0, locals := 21 } s m ([.ref (a 100)] : List Value).toArray below meth c s.heap [] 0 0 (MQ below (kRO (fun r => r = missC (mO P) (P 32))) ([.ref (a 100)] : List Value).toArray s 0 0 (fun _ => False)) (F0 m 4 ls []) := by
    intro n_1
    induction n_1 with
    | zero => intro u x1 hi0 hi1 hex1 hn ls hl; exfalso; omega
    | succ n_1 ih4 =>
      intro u x1 hi0 hi1 hex1 hn ls hl
      subst hex1
      refine lv_iload_n hx hb dX6_missingStars_4 rfl (lv_at hl 0 rfl) ?_
      refine lv_aload_n hx hb dX6_missingStars_5 rfl (lv_at hl 2 rfl) ?_
      refine va_get (D := D) (ci := 5) (v := .ref (a 0)) (C := RX6) (T := TX6) (N := 8) hx hb hts hinX6 hown hK hP 0 rfl rfl 0 (by decide) hmw0 (fun _ h9 => h9) rfl dX6_missingStars_6 ?_
      refine va_get (D := D) (ci := 3) (v := .int (iI (P 0 1))) (C := RX4) (T := TX4) (N := 12) hx hb hts hinX4 hown hK hP 1 rfl rfl 1 (by decide) hmw1 (fun _ h9 => h9) rfl dX6_missingStars_9 ?_
      refine k_icmp_ge (tgt := 32) hx hb dX6_missingStars_12 (by decide) (by omega) (by omega) (fun c_2 => ?_) (fun c_2 => ?_)
      · skip
        refine lv_iload_n hx hb dX6_missingStars_32 rfl (lv_at hl 1 rfl) ?_
        exact W.iret (v := iI (sumZ (missN (mO P) (P 32)) u)) hx hb hr (fun t9 ht _ => ⟨(sumZ (missN (mO P) (P 32)) u), rfl, (by have e9 : u = P 0 1 := (by omega); subst e9; exact (mis_C P (P 32)).symm : (sumZ (missN (mO P) (P 32)) u : Int) = missC (mO P) (P 32)), ht⟩) (fun _ h => nomatch h) dX6_missingStars_33 hlocks
      · skip
        refine lv_aload_n hx hb dX6_missingStars_15 rfl (lv_at hl 2 rfl) ?_
        refine lv_iload_n hx hb dX6_missingStars_16 rfl (lv_at hl 0 rfl) ?_
        refine k_roV (As := [.int (iI u)]) (rest := []) ⟨hx, hb, hml, hown, hts⟩ (c_X6_isMissing l D cy a P u hI (show lkd P by omega) (show 0 ≤ u by omega) (show u < P 0 1 by omega)) gX6_missingStars_X6_isMissing rfl ⟨rfl, rfl⟩ 1 rfl (by decide +kernel) ⟨Nat.le_of_ble_eq_true rfl, Nat.le_of_ble_eq_true rfl⟩ (GG_ok D cy) hG hP (va_recv hK hP (ci := 5) (q0 := 0) rfl rfl) hl.1 rfl (Nat.le_of_ble_eq_true rfl) ⟨Nat.le_of_ble_eq_true rfl, Nat.le_of_ble_eq_true rfl⟩ dX6_missingStars_17 (fun r_3 hr_3 => ?_)
        have hr_3 : ((missP (mO P) (P 32) u) ∧ r_3 = 1) ∨ (¬ (missP (mO P) (P 32) u) ∧ r_3 = 0) := hr_3
        rcases hr_3 with ⟨c_4, hr_3⟩ | ⟨c_4, hr_3⟩ <;> subst hr_3
        · skip
          refine k_if_eq (tgt := 26) hx hb dX6_missingStars_20 (by decide) (by omega) (fun c_5 => ?_) (fun c_5 => ?_)
          · exfalso; omega
          · skip
            refine lv_iinc (v := iI ((sumZ (missN (mO P) (P 32)) u) + 1)) (lv' := [(1, .int (iI ((sumZ (missN (mO P) (P 32)) u) + 1))), (2, .int (iI u)), (0, .ref (a 100))]) hx hb dX6_missingStars_23 hl (k := 1) rfl (iI_add _ _) (by decide) rfl (fun ls hl => ?_)
            refine lv_iinc (v := iI (u + 1)) (lv' := [(2, .int (iI (u + 1))), (1, .int (iI ((sumZ (missN (mO P) (P 32)) u) + 1))), (0, .ref (a 100))]) hx hb dX6_missingStars_26 hl (k := 1) rfl (iI_add _ _) (by decide) rfl (fun ls hl => ?_)
            refine lv_goto (tgt := 4) hx hb dX6_missingStars_29 (by decide) ?_
            exact ih4 (u + 1) ((sumZ (missN (mO P) (P 32)) u) + 1) (by omega) (by omega) (by rw [sumZ_s _ hi0]; first | rw [missN_1 (by assumption)] | (rw [missN_0 (by assumption)]; omega)) (by omega) ls (lv_sub hl [0, 1, 2] rfl)
        · skip
          refine k_if_eq (tgt := 26) hx hb dX6_missingStars_20 (by decide) (by omega) (fun c_6 => ?_) (fun c_6 => ?_)
          · skip
            refine lv_iinc (v := iI (u + 1)) (lv' := [(2, .int (iI (u + 1))), (1, .int (iI (sumZ (missN (mO P) (P 32)) u))), (0, .ref (a 100))]) hx hb dX6_missingStars_26 hl (k := 0) rfl (iI_add _ _) (by decide) rfl (fun ls hl => ?_)
            refine lv_goto (tgt := 4) hx hb dX6_missingStars_29 (by decide) ?_
            exact ih4 (u + 1) (sumZ (missN (mO P) (P 32)) u) (by omega) (by omega) (by rw [sumZ_s _ hi0]; first | rw [missN_1 (by assumption)] | (rw [missN_0 (by assumption)]; omega)) (by omega) ls (lv_sub hl [0, 1, 2] rfl)
          · exfalso; omega
  exact loop4 ((P 0 1 - 0 : Int) + 1).toNat 0 0 (by omega) (by omega) (rfl) (by omega) ls (lv_sub hl [0, 1, 2] rfl)
set_option maxHeartbeats 4000000 in
set_option maxRecDepth 100000 in
theorem c_X6_goodTrails (l : Launch) (D : va_G) (cy : Nat → ClassId) (a : Nat → Nat) (P : Nat → Int → Int)  (hI : Inv (mO P)) (hlk : lkd P) : Met l yX6_goodTrails wsX6_goodTrails { frames := 0, cells := 0, slots := 0, locals := 0 } (kPre (GG D cy) D (oblkW cy a P) ([.ref (a 100)] : List Value)) (kRO (fun r => r = ovT (mO P) 5)) 0 0 (fun _ => False) := by
  refine kRO_start (cc := cX6_goodTrails) (maxL := 3) (ret := (some .int)) (by decide) rfl (Nat.le_of_ble_eq_true rfl) ?_
  intro p e s m below meth c hx hb hr hlocks hml hts hown hG hP ls hl
  have hK := hG.1
  have hl : lv_has ls 3 [(0, .ref (a 100))] := hl
  have hinX1 : ∀ w ∈ u_ws RX1 TX1 8, w ∈ wsX6_goodTrails := by decide +kernel
  have hinX4 : ∀ w ∈ u_ws RX4 TX4 12, w ∈ wsX6_goodTrails := by decide +kernel
  have hinX6 : ∀ w ∈ u_ws RX6 TX6 8, w ∈ wsX6_goodTrails := by decide +kernel
  have hmw0 := hts (.fieldLink RX6 10 "ArcPlate" "plate" "LArcPlate$Plate;") (by decide +kernel)
  have hmw1 := hts (.fieldLink RX6 167 "ArcPlate$Plate" "trails" "I") (by decide +kernel)
  have hmw2 := hts (.fieldLink RX6 33 "ArcPlate" "figures" "LArcPlate$Figures;") (by decide +kernel)
  have hmw3 := hts (.fieldLink RX6 170 "ArcPlate$Figures" "good" "[Z") (by decide +kernel)
  have hS0 := po_S hI
  refine k_iconst hx hb dX6_goodTrails_0 ?_
  refine lv_istore_n (lv' := [(1, .int (iI 0)), (0, .ref (a 100))]) hx hb dX6_goodTrails_1 rfl hl (by decide) rfl (fun ls hl => ?_)
  refine k_iconst hx hb dX6_goodTrails_2 ?_
  refine lv_istore_n (lv' := [(2, .int (iI 0)), (1, .int (iI 0)), (0, .ref (a 100))]) hx hb dX6_goodTrails_3 rfl hl (by decide) rfl (fun ls hl => ?_)
  have loop4 : ∀ (n_1 : Nat) (t : Int) (x1 : Int) (hi0 : 0 ≤ t) (hi1 : t ≤ P 0 0) (hex1 : x1 = sumZ (goodN (mO P)) t) (hn : P 0 0 - t < (n_1 : Int)) (ls : Array Slot) (hl : lv_has ls 3 [(2, .int (iI t)), (1, .int (iI x1)), (0, .ref (a 100))]), W p l e { frames := 0, cells := 0, slots := 0, locals := 0 } s m ([.ref (a 100)] : List Value).toArray below meth c s.heap [] 0 0 (MQ below (kRO (fun r => r = ovT (mO P) 5)) ([.ref (a 100)] : List Value).toArray s 0 0 (fun _ => False)) (F0 m 4 ls []) := by
    intro n_1
    induction n_1 with
    | zero => intro t x1 hi0 hi1 hex1 hn ls hl; exfalso; omega
    | succ n_1 ih4 =>
      intro t x1 hi0 hi1 hex1 hn ls hl
      subst hex1
      refine lv_iload_n hx hb dX6_goodTrails_4 rfl (lv_at hl 0 rfl) ?_
      refine lv_aload_n hx hb dX6_goodTrails_5 rfl (lv_at hl 2 rfl) ?_
      refine va_get (D := D) (ci := 5) (v := .ref (a 0)) (C := RX6) (T := TX6) (N := 8) hx hb hts hinX6 hown hK hP 0 rfl rfl 0 (by decide) hmw0 (fun _ h9 => h9) rfl dX6_goodTrails_6 ?_
      refine va_get (D := D) (ci := 3) (v := .int (iI (P 0 0))) (C := RX4) (T := TX4) (N := 12) hx hb hts hinX4 hown hK hP 1 rfl rfl 0 (by decide) hmw1 (fun _ h9 => h9) rfl dX6_goodTrails_9 ?_
      refine k_icmp_ge (tgt := 36) hx hb dX6_goodTrails_12 (by decide) (by omega) (by omega) (fun c_2 => ?_) (fun c_2 => ?_)
      · skip
        refine lv_iload_n hx hb dX6_goodTrails_36 rfl (lv_at hl 1 rfl) ?_
        exact W.iret (v := iI (sumZ (goodN (mO P)) t)) hx hb hr (fun t9 ht _ => ⟨(sumZ (goodN (mO P)) t), rfl, (by have e9 : t = P 0 0 := (by omega); subst e9; exact (ov_5 P).symm : (sumZ (goodN (mO P)) t : Int) = ovT (mO P) 5), ht⟩) (fun _ h => nomatch h) dX6_goodTrails_37 hlocks
      · skip
        have hp := po_pts hI hi0 (show t < P 0 0 by omega)
        have hepts := mO_pts P (t := t) hi0 (by omega)
        have hgd := (fig_good (hlk.1 t hi0 (by omega)) (by omega)).1
        have hg1 : goodN (mO P) t = 0 ∨ goodN (mO P) t = 1 := by unfold goodN; split <;> omega
        refine lv_aload_n hx hb dX6_goodTrails_15 rfl (lv_at hl 2 rfl) ?_
        refine va_get (D := D) (ci := 5) (v := .ref (a 20)) (C := RX6) (T := TX6) (N := 8) hx hb hts hinX6 hown hK hP 0 rfl rfl 3 (by decide) hmw2 (fun _ h9 => h9) rfl dX6_goodTrails_16 ?_
        refine va_get (D := D) (ci := 0) (v := .ref (a 28)) (C := RX1) (T := TX1) (N := 8) hx hb hts hinX1 hown hK hP 10 rfl rfl 7 (by decide) hmw3 (fun _ h9 => h9) rfl dX6_goodTrails_19 ?_
        refine lv_iload_n hx hb dX6_goodTrails_22 rfl (lv_at hl 0 rfl) ?_
        refine k_zald hx hb hK hP 18 2 (f := P 28) rfl rfl (i := t) (by omega) dX6_goodTrails_23 ?_
        refine k_if_eq (tgt := 30) hx hb dX6_goodTrails_24 (by decide) (by omega) (fun c_3 => ?_) (fun c_3 => ?_)
        · skip
          refine lv_iinc (v := iI (t + 1)) (lv' := [(2, .int (iI (t + 1))), (1, .int (iI (sumZ (goodN (mO P)) t))), (0, .ref (a 100))]) hx hb dX6_goodTrails_30 hl (k := 0) rfl (iI_add _ _) (by decide) rfl (fun ls hl => ?_)
          refine lv_goto (tgt := 4) hx hb dX6_goodTrails_33 (by decide) ?_
          exact ih4 (t + 1) (sumZ (goodN (mO P)) t) (by omega) (by omega) (by rw [sumZ_s _ hi0]; omega) (by omega) ls (lv_sub hl [0, 1, 2] rfl)
        · skip
          refine lv_iinc (v := iI ((sumZ (goodN (mO P)) t) + 1)) (lv' := [(1, .int (iI ((sumZ (goodN (mO P)) t) + 1))), (2, .int (iI t)), (0, .ref (a 100))]) hx hb dX6_goodTrails_27 hl (k := 1) rfl (iI_add _ _) (by decide) rfl (fun ls hl => ?_)
          refine lv_iinc (v := iI (t + 1)) (lv' := [(2, .int (iI (t + 1))), (1, .int (iI ((sumZ (goodN (mO P)) t) + 1))), (0, .ref (a 100))]) hx hb dX6_goodTrails_30 hl (k := 1) rfl (iI_add _ _) (by decide) rfl (fun ls hl => ?_)
          refine lv_goto (tgt := 4) hx hb dX6_goodTrails_33 (by decide) ?_
          exact ih4 (t + 1) ((sumZ (goodN (mO P)) t) + 1) (by omega) (by omega) (by rw [sumZ_s _ hi0]; omega) (by omega) ls (lv_sub hl [0, 1, 2] rfl)
  exact loop4 ((P 0 0 - 0 : Int) + 1).toNat 0 0 (by omega) (by omega) (rfl) (by omega) ls (lv_sub hl [0, 1, 2] rfl)
set_option maxHeartbeats 4000000 in
set_option maxRecDepth 100000 in
theorem c_X6_gapsInAll (l : Launch) (D : va_G) (cy : Nat → ClassId) (a : Nat → Nat) (P : Nat → Int → Int)  (hI : Inv (mO P)) (hlk : lkd P) : Met l yX6_gapsInAll wsX6_gapsInAll { frames := 0, cells := 0, slots := 0, locals := 0 } (kPre (GG D cy) D (oblkW cy a P) ([.ref (a 100)] : List Value)) (kRO (fun r => r = ovT (mO P) 10)) 0 0 (fun _ => False) := by
  refine kRO_start (cc := cX6_gapsInAll) (maxL := 3) (ret := (some .int)) (by decide) rfl (Nat.le_of_ble_eq_true rfl) ?_
  intro p e s m below meth c hx hb hr hlocks hml hts hown hG hP ls hl
  have hK := hG.1
  have hl : lv_has ls 3 [(0, .ref (a 100))] := hl
  have hinX1 : ∀ w ∈ u_ws RX1 TX1 8, w ∈ wsX6_gapsInAll := by decide +kernel
  have hinX4 : ∀ w ∈ u_ws RX4 TX4 12, w ∈ wsX6_gapsInAll := by decide +kernel
  have hinX6 : ∀ w ∈ u_ws RX6 TX6 8, w ∈ wsX6_gapsInAll := by decide +kernel
  have hmw0 := hts (.fieldLink RX6 10 "ArcPlate" "plate" "LArcPlate$Plate;") (by decide +kernel)
  have hmw1 := hts (.fieldLink RX6 167 "ArcPlate$Plate" "trails" "I") (by decide +kernel)
  have hmw2 := hts (.fieldLink RX6 33 "ArcPlate" "figures" "LArcPlate$Figures;") (by decide +kernel)
  have hmw3 := hts (.fieldLink RX6 293 "ArcPlate$Figures" "gaps" "[I") (by decide +kernel)
  have hS0 := po_S hI
  refine k_iconst hx hb dX6_gapsInAll_0 ?_
  refine lv_istore_n (lv' := [(1, .int (iI 0)), (0, .ref (a 100))]) hx hb dX6_gapsInAll_1 rfl hl (by decide) rfl (fun ls hl => ?_)
  refine k_iconst hx hb dX6_gapsInAll_2 ?_
  refine lv_istore_n (lv' := [(2, .int (iI 0)), (1, .int (iI 0)), (0, .ref (a 100))]) hx hb dX6_gapsInAll_3 rfl hl (by decide) rfl (fun ls hl => ?_)
  have loop4 : ∀ (n_1 : Nat) (t : Int) (x1 : Int) (hi0 : 0 ≤ t) (hi1 : t ≤ P 0 0) (hex1 : x1 = sumZ (gapN (mO P)) t) (hn : P 0 0 - t < (n_1 : Int)) (ls : Array Slot) (hl : lv_has ls 3 [(2, .int (iI t)), (1, .int (iI x1)), (0, .ref (a 100))]), W p l e { frames := 0, cells := 0, slots := 0, locals := 0 } s m ([.ref (a 100)] : List Value).toArray below meth c s.heap [] 0 0 (MQ below (kRO (fun r => r = ovT (mO P) 10)) ([.ref (a 100)] : List Value).toArray s 0 0 (fun _ => False)) (F0 m 4 ls []) := by
    intro n_1
    induction n_1 with
    | zero => intro t x1 hi0 hi1 hex1 hn ls hl; exfalso; omega
    | succ n_1 ih4 =>
      intro t x1 hi0 hi1 hex1 hn ls hl
      subst hex1
      refine lv_iload_n hx hb dX6_gapsInAll_4 rfl (lv_at hl 0 rfl) ?_
      refine lv_aload_n hx hb dX6_gapsInAll_5 rfl (lv_at hl 2 rfl) ?_
      refine va_get (D := D) (ci := 5) (v := .ref (a 0)) (C := RX6) (T := TX6) (N := 8) hx hb hts hinX6 hown hK hP 0 rfl rfl 0 (by decide) hmw0 (fun _ h9 => h9) rfl dX6_gapsInAll_6 ?_
      refine va_get (D := D) (ci := 3) (v := .int (iI (P 0 0))) (C := RX4) (T := TX4) (N := 12) hx hb hts hinX4 hown hK hP 1 rfl rfl 0 (by decide) hmw1 (fun _ h9 => h9) rfl dX6_gapsInAll_9 ?_
      refine k_icmp_ge (tgt := 33) hx hb dX6_gapsInAll_12 (by decide) (by omega) (by omega) (fun c_2 => ?_) (fun c_2 => ?_)
      · skip
        refine lv_iload_n hx hb dX6_gapsInAll_33 rfl (lv_at hl 1 rfl) ?_
        exact W.iret (v := iI (sumZ (gapN (mO P)) t)) hx hb hr (fun t9 ht _ => ⟨(sumZ (gapN (mO P)) t), rfl, (by have e9 : t = P 0 0 := (by omega); subst e9; exact (ov_10 P).symm : (sumZ (gapN (mO P)) t : Int) = ovT (mO P) 10), ht⟩) (fun _ h => nomatch h) dX6_gapsInAll_34 hlocks
      · skip
        have hp := po_pts hI hi0 (show t < P 0 0 by omega)
        have hepts := mO_pts P (t := t) hi0 (by omega)
        have hgd := (fig_good (hlk.1 t hi0 (by omega)) (by omega)).2
        refine lv_iload_n hx hb dX6_gapsInAll_15 rfl (lv_at hl 1 rfl) ?_
        refine lv_aload_n hx hb dX6_gapsInAll_16 rfl (lv_at hl 2 rfl) ?_
        refine va_get (D := D) (ci := 5) (v := .ref (a 20)) (C := RX6) (T := TX6) (N := 8) hx hb hts hinX6 hown hK hP 0 rfl rfl 3 (by decide) hmw2 (fun _ h9 => h9) rfl dX6_gapsInAll_17 ?_
        refine va_get (D := D) (ci := 0) (v := .ref (a 26)) (C := RX1) (T := TX1) (N := 8) hx hb hts hinX1 hown hK hP 10 rfl rfl 5 (by decide) hmw3 (fun _ h9 => h9) rfl dX6_gapsInAll_20 ?_
        refine lv_iload_n hx hb dX6_gapsInAll_23 rfl (lv_at hl 0 rfl) ?_
        refine k_iald hx hb hK hP 16 0 (f := P 26) rfl rfl (i := t) (by omega) dX6_gapsInAll_24 ?_
        refine k_iadd hx hb dX6_gapsInAll_25 ?_
        refine lv_istore_n (lv' := [(1, .int (iI ((sumZ (gapN (mO P)) t) + (P 26 t)))), (2, .int (iI t)), (0, .ref (a 100))]) hx hb dX6_gapsInAll_26 rfl hl (by decide) rfl (fun ls hl => ?_)
        refine lv_iinc (v := iI (t + 1)) (lv' := [(2, .int (iI (t + 1))), (1, .int (iI ((sumZ (gapN (mO P)) t) + (P 26 t)))), (0, .ref (a 100))]) hx hb dX6_gapsInAll_27 hl (k := 1) rfl (iI_add _ _) (by decide) rfl (fun ls hl => ?_)
        refine lv_goto (tgt := 4) hx hb dX6_gapsInAll_30 (by decide) ?_
        exact ih4 (t + 1) ((sumZ (gapN (mO P)) t) + (P 26 t)) (by omega) (by omega) (by rw [sumZ_s _ hi0]; omega) (by omega) ls (lv_sub hl [0, 1, 2] rfl)
  exact loop4 ((P 0 0 - 0 : Int) + 1).toNat 0 0 (by omega) (by omega) (rfl) (by omega) ls (lv_sub hl [0, 1, 2] rfl)
set_option maxHeartbeats 4000000 in
set_option maxRecDepth 100000 in
theorem c_X6_wholeValue (l : Launch) (D : va_G) (cy : Nat → ClassId) (a : Nat → Nat) (P : Nat → Int → Int) (w : Int) (hI : Inv (mO P)) (hlk : lkd P) (hw : 0 ≤ w ∧ w ≤ 10) : Met l yX6_wholeValue wsX6_wholeValue { frames := 5, cells := 0, slots := 0, locals := 124 } (kPre (GG D cy) D (oblkW cy a P) ([.ref (a 100), .int (iI w)] : List Value)) (kRO (fun r => r = whW (mO P) w)) 0 0 (fun _ => False) := by
  refine kRO_start (cc := cX6_wholeValue) (maxL := 2) (ret := (some .int)) (by decide) rfl (Nat.le_of_ble_eq_true rfl) ?_
  intro p e s m below meth c hx hb hr hlocks hml hts hown hG hP ls hl
  have hK := hG.1
  have hl : lv_has ls 2 [(0, .ref (a 100)), (1, .int (iI w))] := hl
  have hinX3 : ∀ w ∈ u_ws RX3 TX3 9, w ∈ wsX6_wholeValue := by decide +kernel
  have hinX4 : ∀ w ∈ u_ws RX4 TX4 12, w ∈ wsX6_wholeValue := by decide +kernel
  have hinX6 : ∀ w ∈ u_ws RX6 TX6 8, w ∈ wsX6_wholeValue := by decide +kernel
  have hmw0 := hts (.fieldLink RX6 10 "ArcPlate" "plate" "LArcPlate$Plate;") (by decide +kernel)
  have hmw1 := hts (.fieldLink RX6 167 "ArcPlate$Plate" "trails" "I") (by decide +kernel)
  have hmw2 := hts (.fieldLink RX6 158 "ArcPlate$Plate" "stars" "I") (by decide +kernel)
  have hmw3 := hts (.fieldLink RX6 213 "ArcPlate$Plate" "poleX" "I") (by decide +kernel)
  have hmw4 := hts (.fieldLink RX6 216 "ArcPlate$Plate" "poleY" "I") (by decide +kernel)
  have hmw5 := hts (.fieldLink RX6 40 "ArcPlate" "matching" "LArcPlate$Matching;") (by decide +kernel)
  have hmw6 := hts (.fieldLink RX6 201 "ArcPlate$Matching" "matches" "I") (by decide +kernel)
  have hmw7 := hts (.fieldLink RX6 204 "ArcPlate$Matching" "sum" "I") (by decide +kernel)
  have hS0 := po_S hI
  have hwh := ma_whW (w := w) hI hlk
  have hpid := pole_id P
  have hpo : poleOK (P 0 2) (P 0 3) := by unfold poleOK; omega
  refine lv_iload_n hx hb dX6_wholeValue_0 rfl (lv_at hl 1 rfl) ?_
  rcases (show w = 0 ∨ w = 1 ∨ w = 2 ∨ w = 3 ∨ w = 4 ∨ w = 5 ∨ w = 6 ∨ w = 7 ∨ w = 8 ∨ w = 9 ∨ (w < 0 ∨ 9 < w) by omega) with c_1 | c_1 | c_1 | c_1 | c_1 | c_1 | c_1 | c_1 | c_1 | c_1 | c_1
  · skip
    refine k_tin (tgt := 56) hx hb 0 c_1 (by decide) dX6_wholeValue_1 (by decide) (by decide) rfl (by decide) ?_
    refine lv_aload_n hx hb dX6_wholeValue_56 rfl (lv_at hl 0 rfl) ?_
    refine va_get (D := D) (ci := 5) (v := .ref (a 0)) (C := RX6) (T := TX6) (N := 8) hx hb hts hinX6 hown hK hP 0 rfl rfl 0 (by decide) hmw0 (fun _ h9 => h9) rfl dX6_wholeValue_57 ?_
    refine va_get (D := D) (ci := 3) (v := .int (iI (P 0 0))) (C := RX4) (T := TX4) (N := 12) hx hb hts hinX4 hown hK hP 1 rfl rfl 0 (by decide) hmw1 (fun _ h9 => h9) rfl dX6_wholeValue_60 ?_
    exact W.iret (v := iI (P 0 0)) hx hb hr (fun t9 ht _ => ⟨(P 0 0), rfl, (by first | exact (hwh.1 (by omega)).symm | exact (hwh.2.1 (by omega)).symm | exact (hwh.2.2.1 (by omega)).symm | exact (hwh.2.2.2.1 (by omega)).symm | exact (hwh.2.2.2.2.1 (by omega)).symm | exact (hwh.2.2.2.2.2.1 (by omega)).symm | exact (hwh.2.2.2.2.2.2.1 (by omega)).symm | exact (hwh.2.2.2.2.2.2.2.1 (by omega)).symm | exact (hwh.2.2.2.2.2.2.2.2.1 (by omega)).symm | exact (hwh.2.2.2.2.2.2.2.2.2.1 (by omega)).symm | exact (hwh.2.2.2.2.2.2.2.2.2.2 (by omega)).symm : (P 0 0 : Int) = whW (mO P) w), ht⟩) (fun _ h => nomatch h) dX6_wholeValue_63 hlocks
  · skip
    refine k_tin (tgt := 64) hx hb 1 c_1 (by decide) dX6_wholeValue_1 (by decide) (by decide) rfl (by decide) ?_
    refine lv_aload_n hx hb dX6_wholeValue_64 rfl (lv_at hl 0 rfl) ?_
    refine va_get (D := D) (ci := 5) (v := .ref (a 0)) (C := RX6) (T := TX6) (N := 8) hx hb hts hinX6 hown hK hP 0 rfl rfl 0 (by decide) hmw0 (fun _ h9 => h9) rfl dX6_wholeValue_65 ?_
    refine va_get (D := D) (ci := 3) (v := .int (iI (P 0 1))) (C := RX4) (T := TX4) (N := 12) hx hb hts hinX4 hown hK hP 1 rfl rfl 1 (by decide) hmw2 (fun _ h9 => h9) rfl dX6_wholeValue_68 ?_
    exact W.iret (v := iI (P 0 1)) hx hb hr (fun t9 ht _ => ⟨(P 0 1), rfl, (by first | exact (hwh.1 (by omega)).symm | exact (hwh.2.1 (by omega)).symm | exact (hwh.2.2.1 (by omega)).symm | exact (hwh.2.2.2.1 (by omega)).symm | exact (hwh.2.2.2.2.1 (by omega)).symm | exact (hwh.2.2.2.2.2.1 (by omega)).symm | exact (hwh.2.2.2.2.2.2.1 (by omega)).symm | exact (hwh.2.2.2.2.2.2.2.1 (by omega)).symm | exact (hwh.2.2.2.2.2.2.2.2.1 (by omega)).symm | exact (hwh.2.2.2.2.2.2.2.2.2.1 (by omega)).symm | exact (hwh.2.2.2.2.2.2.2.2.2.2 (by omega)).symm : (P 0 1 : Int) = whW (mO P) w), ht⟩) (fun _ h => nomatch h) dX6_wholeValue_71 hlocks
  · skip
    refine k_tin (tgt := 72) hx hb 2 c_1 (by decide) dX6_wholeValue_1 (by decide) (by decide) rfl (by decide) ?_
    refine lv_aload_n hx hb dX6_wholeValue_72 rfl (lv_at hl 0 rfl) ?_
    refine va_get (D := D) (ci := 5) (v := .ref (a 0)) (C := RX6) (T := TX6) (N := 8) hx hb hts hinX6 hown hK hP 0 rfl rfl 0 (by decide) hmw0 (fun _ h9 => h9) rfl dX6_wholeValue_73 ?_
    refine va_get (D := D) (ci := 3) (v := .int (iI (P 0 2))) (C := RX4) (T := TX4) (N := 12) hx hb hts hinX4 hown hK hP 1 rfl rfl 2 (by decide) hmw3 (fun _ h9 => h9) rfl dX6_wholeValue_76 ?_
    exact W.iret (v := iI (P 0 2)) hx hb hr (fun t9 ht _ => ⟨(P 0 2), rfl, (by first | exact (hwh.1 (by omega)).symm | exact (hwh.2.1 (by omega)).symm | exact (hwh.2.2.1 (by omega)).symm | exact (hwh.2.2.2.1 (by omega)).symm | exact (hwh.2.2.2.2.1 (by omega)).symm | exact (hwh.2.2.2.2.2.1 (by omega)).symm | exact (hwh.2.2.2.2.2.2.1 (by omega)).symm | exact (hwh.2.2.2.2.2.2.2.1 (by omega)).symm | exact (hwh.2.2.2.2.2.2.2.2.1 (by omega)).symm | exact (hwh.2.2.2.2.2.2.2.2.2.1 (by omega)).symm | exact (hwh.2.2.2.2.2.2.2.2.2.2 (by omega)).symm : (P 0 2 : Int) = whW (mO P) w), ht⟩) (fun _ h => nomatch h) dX6_wholeValue_79 hlocks
  · skip
    refine k_tin (tgt := 80) hx hb 3 c_1 (by decide) dX6_wholeValue_1 (by decide) (by decide) rfl (by decide) ?_
    refine lv_aload_n hx hb dX6_wholeValue_80 rfl (lv_at hl 0 rfl) ?_
    refine va_get (D := D) (ci := 5) (v := .ref (a 0)) (C := RX6) (T := TX6) (N := 8) hx hb hts hinX6 hown hK hP 0 rfl rfl 0 (by decide) hmw0 (fun _ h9 => h9) rfl dX6_wholeValue_81 ?_
    refine va_get (D := D) (ci := 3) (v := .int (iI (P 0 3))) (C := RX4) (T := TX4) (N := 12) hx hb hts hinX4 hown hK hP 1 rfl rfl 3 (by decide) hmw4 (fun _ h9 => h9) rfl dX6_wholeValue_84 ?_
    exact W.iret (v := iI (P 0 3)) hx hb hr (fun t9 ht _ => ⟨(P 0 3), rfl, (by first | exact (hwh.1 (by omega)).symm | exact (hwh.2.1 (by omega)).symm | exact (hwh.2.2.1 (by omega)).symm | exact (hwh.2.2.2.1 (by omega)).symm | exact (hwh.2.2.2.2.1 (by omega)).symm | exact (hwh.2.2.2.2.2.1 (by omega)).symm | exact (hwh.2.2.2.2.2.2.1 (by omega)).symm | exact (hwh.2.2.2.2.2.2.2.1 (by omega)).symm | exact (hwh.2.2.2.2.2.2.2.2.1 (by omega)).symm | exact (hwh.2.2.2.2.2.2.2.2.2.1 (by omega)).symm | exact (hwh.2.2.2.2.2.2.2.2.2.2 (by omega)).symm : (P 0 3 : Int) = whW (mO P) w), ht⟩) (fun _ h => nomatch h) dX6_wholeValue_87 hlocks
  · skip
    refine k_tin (tgt := 88) hx hb 4 c_1 (by decide) dX6_wholeValue_1 (by decide) (by decide) rfl (by decide) ?_
    refine lv_aload_n hx hb dX6_wholeValue_88 rfl (lv_at hl 0 rfl) ?_
    refine va_get (D := D) (ci := 5) (v := .ref (a 0)) (C := RX6) (T := TX6) (N := 8) hx hb hts hinX6 hown hK hP 0 rfl rfl 0 (by decide) hmw0 (fun _ h9 => h9) rfl dX6_wholeValue_89 ?_
    refine lv_aload_n hx hb dX6_wholeValue_92 rfl (lv_at hl 0 rfl) ?_
    refine va_get (D := D) (ci := 5) (v := .ref (a 0)) (C := RX6) (T := TX6) (N := 8) hx hb hts hinX6 hown hK hP 0 rfl rfl 0 (by decide) hmw0 (fun _ h9 => h9) rfl dX6_wholeValue_93 ?_
    refine va_get (D := D) (ci := 3) (v := .int (iI (P 0 2))) (C := RX4) (T := TX4) (N := 12) hx hb hts hinX4 hown hK hP 1 rfl rfl 2 (by decide) hmw3 (fun _ h9 => h9) rfl dX6_wholeValue_96 ?_
    refine lv_aload_n hx hb dX6_wholeValue_99 rfl (lv_at hl 0 rfl) ?_
    refine va_get (D := D) (ci := 5) (v := .ref (a 0)) (C := RX6) (T := TX6) (N := 8) hx hb hts hinX6 hown hK hP 0 rfl rfl 0 (by decide) hmw0 (fun _ h9 => h9) rfl dX6_wholeValue_100 ?_
    refine va_get (D := D) (ci := 3) (v := .int (iI (P 0 3))) (C := RX4) (T := TX4) (N := 12) hx hb hts hinX4 hown hK hP 1 rfl rfl 3 (by decide) hmw4 (fun _ h9 => h9) rfl dX6_wholeValue_103 ?_
    refine k_roV (As := [.int (iI (P 0 2)), .int (iI (P 0 3))]) (rest := []) ⟨hx, hb, hml, hown, hts⟩ (c_X4_costWithPole l D cy a P (P 0 2) (P 0 3) hI (show poleOK (P 0 2) (P 0 3) by omega)) gX6_wholeValue_X4_costWithPole rfl ⟨rfl, rfl⟩ 2 rfl (by decide +kernel) ⟨Nat.le_of_ble_eq_true rfl, Nat.le_of_ble_eq_true rfl⟩ (GG_ok D cy) hG (hP.sub (ws' := (plW cy a P)) [1, 2, 3, 4, 5, 6, 7, 8, 9] rfl) (va_recv hK hP (ci := 3) (q0 := 1) rfl rfl) hl.1 rfl (Nat.le_of_ble_eq_true rfl) ⟨Nat.le_of_ble_eq_true rfl, Nat.le_of_ble_eq_true rfl⟩ dX6_wholeValue_106 (fun r_2 hr_2 => ?_)
    have hr_2 : r_2 = pcost (tPo (mO P) (P 0 2) (P 0 3)) := hr_2
    subst hr_2
    exact W.iret (v := iI (pcost (tPo (mO P) (P 0 2) (P 0 3)))) hx hb hr (fun t9 ht _ => ⟨(pcost (tPo (mO P) (P 0 2) (P 0 3))), rfl, (by rw [hpid]; exact (hwh.2.2.2.2.1 (by omega)).symm : (pcost (tPo (mO P) (P 0 2) (P 0 3)) : Int) = whW (mO P) w), ht⟩) (fun _ h => nomatch h) dX6_wholeValue_109 hlocks
  · skip
    refine k_tin (tgt := 110) hx hb 5 c_1 (by decide) dX6_wholeValue_1 (by decide) (by decide) rfl (by decide) ?_
    refine lv_aload_n hx hb dX6_wholeValue_110 rfl (lv_at hl 0 rfl) ?_
    refine k_roV (As := []) (rest := []) ⟨hx, hb, hml, hown, hts⟩ (c_X6_goodTrails l D cy a P hI (show lkd P by omega)) gX6_wholeValue_X6_goodTrails rfl ⟨rfl, rfl⟩ 0 rfl (by decide +kernel) ⟨Nat.le_of_ble_eq_true rfl, Nat.le_of_ble_eq_true rfl⟩ (GG_ok D cy) hG hP (va_recv hK hP (ci := 5) (q0 := 0) rfl rfl) hl.1 rfl (Nat.le_of_ble_eq_true rfl) ⟨Nat.le_of_ble_eq_true rfl, Nat.le_of_ble_eq_true rfl⟩ dX6_wholeValue_111 (fun r_3 hr_3 => ?_)
    have hr_3 : r_3 = ovT (mO P) 5 := hr_3
    subst hr_3
    exact W.iret (v := iI (ovT (mO P) 5)) hx hb hr (fun t9 ht _ => ⟨(ovT (mO P) 5), rfl, (by first | exact (hwh.1 (by omega)).symm | exact (hwh.2.1 (by omega)).symm | exact (hwh.2.2.1 (by omega)).symm | exact (hwh.2.2.2.1 (by omega)).symm | exact (hwh.2.2.2.2.1 (by omega)).symm | exact (hwh.2.2.2.2.2.1 (by omega)).symm | exact (hwh.2.2.2.2.2.2.1 (by omega)).symm | exact (hwh.2.2.2.2.2.2.2.1 (by omega)).symm | exact (hwh.2.2.2.2.2.2.2.2.1 (by omega)).symm | exact (hwh.2.2.2.2.2.2.2.2.2.1 (by omega)).symm | exact (hwh.2.2.2.2.2.2.2.2.2.2 (by omega)).symm : (ovT (mO P) 5 : Int) = whW (mO P) w), ht⟩) (fun _ h => nomatch h) dX6_wholeValue_114 hlocks
  · skip
    refine k_tin (tgt := 115) hx hb 6 c_1 (by decide) dX6_wholeValue_1 (by decide) (by decide) rfl (by decide) ?_
    refine lv_aload_n hx hb dX6_wholeValue_115 rfl (lv_at hl 0 rfl) ?_
    refine va_get (D := D) (ci := 5) (v := .ref (a 30)) (C := RX6) (T := TX6) (N := 8) hx hb hts hinX6 hown hK hP 0 rfl rfl 4 (by decide) hmw5 (fun _ h9 => h9) rfl dX6_wholeValue_116 ?_
    refine va_get (D := D) (ci := 2) (v := .int (iI (P 30 3))) (C := RX3) (T := TX3) (N := 9) hx hb hts hinX3 hown hK hP 19 rfl rfl 3 (by decide) hmw6 (fun _ h9 => h9) rfl dX6_wholeValue_119 ?_
    exact W.iret (v := iI (P 30 3)) hx hb hr (fun t9 ht _ => ⟨(P 30 3), rfl, (by first | exact (hwh.1 (by omega)).symm | exact (hwh.2.1 (by omega)).symm | exact (hwh.2.2.1 (by omega)).symm | exact (hwh.2.2.2.1 (by omega)).symm | exact (hwh.2.2.2.2.1 (by omega)).symm | exact (hwh.2.2.2.2.2.1 (by omega)).symm | exact (hwh.2.2.2.2.2.2.1 (by omega)).symm | exact (hwh.2.2.2.2.2.2.2.1 (by omega)).symm | exact (hwh.2.2.2.2.2.2.2.2.1 (by omega)).symm | exact (hwh.2.2.2.2.2.2.2.2.2.1 (by omega)).symm | exact (hwh.2.2.2.2.2.2.2.2.2.2 (by omega)).symm : (P 30 3 : Int) = whW (mO P) w), ht⟩) (fun _ h => nomatch h) dX6_wholeValue_122 hlocks
  · skip
    refine k_tin (tgt := 123) hx hb 7 c_1 (by decide) dX6_wholeValue_1 (by decide) (by decide) rfl (by decide) ?_
    refine lv_aload_n hx hb dX6_wholeValue_123 rfl (lv_at hl 0 rfl) ?_
    refine va_get (D := D) (ci := 5) (v := .ref (a 30)) (C := RX6) (T := TX6) (N := 8) hx hb hts hinX6 hown hK hP 0 rfl rfl 4 (by decide) hmw5 (fun _ h9 => h9) rfl dX6_wholeValue_124 ?_
    refine va_get (D := D) (ci := 2) (v := .int (iI (P 30 4))) (C := RX3) (T := TX3) (N := 9) hx hb hts hinX3 hown hK hP 19 rfl rfl 4 (by decide) hmw7 (fun _ h9 => h9) rfl dX6_wholeValue_127 ?_
    exact W.iret (v := iI (P 30 4)) hx hb hr (fun t9 ht _ => ⟨(P 30 4), rfl, (by first | exact (hwh.1 (by omega)).symm | exact (hwh.2.1 (by omega)).symm | exact (hwh.2.2.1 (by omega)).symm | exact (hwh.2.2.2.1 (by omega)).symm | exact (hwh.2.2.2.2.1 (by omega)).symm | exact (hwh.2.2.2.2.2.1 (by omega)).symm | exact (hwh.2.2.2.2.2.2.1 (by omega)).symm | exact (hwh.2.2.2.2.2.2.2.1 (by omega)).symm | exact (hwh.2.2.2.2.2.2.2.2.1 (by omega)).symm | exact (hwh.2.2.2.2.2.2.2.2.2.1 (by omega)).symm | exact (hwh.2.2.2.2.2.2.2.2.2.2 (by omega)).symm : (P 30 4 : Int) = whW (mO P) w), ht⟩) (fun _ h => nomatch h) dX6_wholeValue_130 hlocks
  · skip
    refine k_tin (tgt := 131) hx hb 8 c_1 (by decide) dX6_wholeValue_1 (by decide) (by decide) rfl (by decide) ?_
    refine lv_aload_n hx hb dX6_wholeValue_131 rfl (lv_at hl 0 rfl) ?_
    refine k_roV (As := []) (rest := []) ⟨hx, hb, hml, hown, hts⟩ (c_X6_missingStars l D cy a P hI (show lkd P by omega)) gX6_wholeValue_X6_missingStars rfl ⟨rfl, rfl⟩ 0 rfl (by decide +kernel) ⟨Nat.le_of_ble_eq_true rfl, Nat.le_of_ble_eq_true rfl⟩ (GG_ok D cy) hG hP (va_recv hK hP (ci := 5) (q0 := 0) rfl rfl) hl.1 rfl (Nat.le_of_ble_eq_true rfl) ⟨Nat.le_of_ble_eq_true rfl, Nat.le_of_ble_eq_true rfl⟩ dX6_wholeValue_132 (fun r_4 hr_4 => ?_)
    have hr_4 : r_4 = missC (mO P) (P 32) := hr_4
    subst hr_4
    exact W.iret (v := iI (missC (mO P) (P 32))) hx hb hr (fun t9 ht _ => ⟨(missC (mO P) (P 32)), rfl, (by first | exact (hwh.1 (by omega)).symm | exact (hwh.2.1 (by omega)).symm | exact (hwh.2.2.1 (by omega)).symm | exact (hwh.2.2.2.1 (by omega)).symm | exact (hwh.2.2.2.2.1 (by omega)).symm | exact (hwh.2.2.2.2.2.1 (by omega)).symm | exact (hwh.2.2.2.2.2.2.1 (by omega)).symm | exact (hwh.2.2.2.2.2.2.2.1 (by omega)).symm | exact (hwh.2.2.2.2.2.2.2.2.1 (by omega)).symm | exact (hwh.2.2.2.2.2.2.2.2.2.1 (by omega)).symm | exact (hwh.2.2.2.2.2.2.2.2.2.2 (by omega)).symm : (missC (mO P) (P 32) : Int) = whW (mO P) w), ht⟩) (fun _ h => nomatch h) dX6_wholeValue_135 hlocks
  · skip
    refine k_tin (tgt := 136) hx hb 9 c_1 (by decide) dX6_wholeValue_1 (by decide) (by decide) rfl (by decide) ?_
    refine lv_aload_n hx hb dX6_wholeValue_136 rfl (lv_at hl 0 rfl) ?_
    refine va_get (D := D) (ci := 5) (v := .ref (a 0)) (C := RX6) (T := TX6) (N := 8) hx hb hts hinX6 hown hK hP 0 rfl rfl 0 (by decide) hmw0 (fun _ h9 => h9) rfl dX6_wholeValue_137 ?_
    refine k_roV (As := []) (rest := []) ⟨hx, hb, hml, hown, hts⟩ (c_X4_pointsInAll l D cy a P hI) gX6_wholeValue_X4_pointsInAll rfl ⟨rfl, rfl⟩ 0 rfl (by decide +kernel) ⟨Nat.le_of_ble_eq_true rfl, Nat.le_of_ble_eq_true rfl⟩ (GG_ok D cy) hG (hP.sub (ws' := (plW cy a P)) [1, 2, 3, 4, 5, 6, 7, 8, 9] rfl) (va_recv hK hP (ci := 3) (q0 := 1) rfl rfl) hl.1 rfl (Nat.le_of_ble_eq_true rfl) ⟨Nat.le_of_ble_eq_true rfl, Nat.le_of_ble_eq_true rfl⟩ dX6_wholeValue_140 (fun r_5 hr_5 => ?_)
    have hr_5 : r_5 = sumZ (P 1) (P 0 0) := hr_5
    subst hr_5
    exact W.iret (v := iI (sumZ (P 1) (P 0 0))) hx hb hr (fun t9 ht _ => ⟨(sumZ (P 1) (P 0 0)), rfl, (by rw [← ov_9 hS0.1]; exact (hwh.2.2.2.2.2.2.2.2.2.1 (by omega)).symm : (sumZ (P 1) (P 0 0) : Int) = whW (mO P) w), ht⟩) (fun _ h => nomatch h) dX6_wholeValue_143 hlocks
  · skip
    refine k_tout (tgt := 144) hx hb (by omega) dX6_wholeValue_1 c_1 (by decide) ?_
    refine lv_aload_n hx hb dX6_wholeValue_144 rfl (lv_at hl 0 rfl) ?_
    refine k_roV (As := []) (rest := []) ⟨hx, hb, hml, hown, hts⟩ (c_X6_gapsInAll l D cy a P hI (show lkd P by omega)) gX6_wholeValue_X6_gapsInAll rfl ⟨rfl, rfl⟩ 0 rfl (by decide +kernel) ⟨Nat.le_of_ble_eq_true rfl, Nat.le_of_ble_eq_true rfl⟩ (GG_ok D cy) hG hP (va_recv hK hP (ci := 5) (q0 := 0) rfl rfl) hl.1 rfl (Nat.le_of_ble_eq_true rfl) ⟨Nat.le_of_ble_eq_true rfl, Nat.le_of_ble_eq_true rfl⟩ dX6_wholeValue_145 (fun r_6 hr_6 => ?_)
    have hr_6 : r_6 = ovT (mO P) 10 := hr_6
    subst hr_6
    exact W.iret (v := iI (ovT (mO P) 10)) hx hb hr (fun t9 ht _ => ⟨(ovT (mO P) 10), rfl, (by first | exact (hwh.1 (by omega)).symm | exact (hwh.2.1 (by omega)).symm | exact (hwh.2.2.1 (by omega)).symm | exact (hwh.2.2.2.1 (by omega)).symm | exact (hwh.2.2.2.2.1 (by omega)).symm | exact (hwh.2.2.2.2.2.1 (by omega)).symm | exact (hwh.2.2.2.2.2.2.1 (by omega)).symm | exact (hwh.2.2.2.2.2.2.2.1 (by omega)).symm | exact (hwh.2.2.2.2.2.2.2.2.1 (by omega)).symm | exact (hwh.2.2.2.2.2.2.2.2.2.1 (by omega)).symm | exact (hwh.2.2.2.2.2.2.2.2.2.2 (by omega)).symm : (ovT (mO P) 10 : Int) = whW (mO P) w), ht⟩) (fun _ h => nomatch h) dX6_wholeValue_148 hlocks
set_option maxHeartbeats 4000000 in
set_option maxRecDepth 100000 in
theorem c_X6_trailValue (l : Launch) (D : va_G) (cy : Nat → ClassId) (a : Nat → Nat) (P : Nat → Int → Int) (t w : Int) (hI : Inv (mO P)) (hlk : lkd P) (h0 : 0 ≤ t) (h1 : t < P 0 0) (hw : 0 ≤ w ∧ w ≤ 8) : Met l yX6_trailValue wsX6_trailValue { frames := 0, cells := 0, slots := 0, locals := 0 } (kPre (GG D cy) D (oblkW cy a P) ([.ref (a 100), .int (iI t), .int (iI w)] : List Value)) (kRO (fun r => r = trV (mO P) (P 31) t w)) 0 0 (fun _ => False) := by
  refine kRO_start (cc := cX6_trailValue) (maxL := 3) (ret := (some .int)) (by decide) rfl (Nat.le_of_ble_eq_true rfl) ?_
  intro p e s m below meth c hx hb hr hlocks hml hts hown hG hP ls hl
  have hK := hG.1
  have hl : lv_has ls 3 [(0, .ref (a 100)), (1, .int (iI t)), (2, .int (iI w))] := hl
  have hinX1 : ∀ w ∈ u_ws RX1 TX1 8, w ∈ wsX6_trailValue := by decide +kernel
  have hinX3 : ∀ w ∈ u_ws RX3 TX3 9, w ∈ wsX6_trailValue := by decide +kernel
  have hinX4 : ∀ w ∈ u_ws RX4 TX4 12, w ∈ wsX6_trailValue := by decide +kernel
  have hinX6 : ∀ w ∈ u_ws RX6 TX6 8, w ∈ wsX6_trailValue := by decide +kernel
  have hmw0 := hts (.fieldLink RX6 10 "ArcPlate" "plate" "LArcPlate$Plate;") (by decide +kernel)
  have hmw1 := hts (.fieldLink RX6 150 "ArcPlate$Plate" "points" "[I") (by decide +kernel)
  have hmw2 := hts (.fieldLink RX6 33 "ArcPlate" "figures" "LArcPlate$Figures;") (by decide +kernel)
  have hmw3 := hts (.fieldLink RX6 188 "ArcPlate$Figures" "radius" "[I") (by decide +kernel)
  have hmw4 := hts (.fieldLink RX6 284 "ArcPlate$Figures" "spread" "[I") (by decide +kernel)
  have hmw5 := hts (.fieldLink RX6 174 "ArcPlate$Figures" "sweep" "[I") (by decide +kernel)
  have hmw6 := hts (.fieldLink RX6 287 "ArcPlate$Figures" "expected" "[I") (by decide +kernel)
  have hmw7 := hts (.fieldLink RX6 290 "ArcPlate$Figures" "misfit" "[I") (by decide +kernel)
  have hmw8 := hts (.fieldLink RX6 170 "ArcPlate$Figures" "good" "[Z") (by decide +kernel)
  have hmw9 := hts (.fieldLink RX6 293 "ArcPlate$Figures" "gaps" "[I") (by decide +kernel)
  have hmw10 := hts (.fieldLink RX6 40 "ArcPlate" "matching" "LArcPlate$Matching;") (by decide +kernel)
  have hmw11 := hts (.fieldLink RX6 296 "ArcPlate$Matching" "starOf" "[I") (by decide +kernel)
  have hS0 := po_S hI
  have hp := po_pts hI h0 h1
  have hepts := mO_pts P (t := t) h0 (by omega)
  have hfa := hlk.1 t h0 h1
  have htv := fig_trV (SO := P 31) (w := w) hfa (by omega)
  have hgd := (fig_good hfa (by omega)).1
  have hg1 : goodN (mO P) t = 0 ∨ goodN (mO P) t = 1 := by unfold goodN; split <;> omega
  refine lv_iload_n hx hb dX6_trailValue_0 rfl (lv_at hl 2 rfl) ?_
  rcases (show w = 0 ∨ w = 1 ∨ w = 2 ∨ w = 3 ∨ w = 4 ∨ w = 5 ∨ w = 6 ∨ w = 7 ∨ (w < 0 ∨ 7 < w) by omega) with c_1 | c_1 | c_1 | c_1 | c_1 | c_1 | c_1 | c_1 | c_1
  · skip
    refine k_tin (tgt := 48) hx hb 0 c_1 (by decide) dX6_trailValue_1 (by decide) (by decide) rfl (by decide) ?_
    refine lv_aload_n hx hb dX6_trailValue_48 rfl (lv_at hl 0 rfl) ?_
    refine va_get (D := D) (ci := 5) (v := .ref (a 0)) (C := RX6) (T := TX6) (N := 8) hx hb hts hinX6 hown hK hP 0 rfl rfl 0 (by decide) hmw0 (fun _ h9 => h9) rfl dX6_trailValue_49 ?_
    refine va_get (D := D) (ci := 3) (v := .ref (a 1)) (C := RX4) (T := TX4) (N := 12) hx hb hts hinX4 hown hK hP 1 rfl rfl 4 (by decide) hmw1 (fun _ h9 => h9) rfl dX6_trailValue_52 ?_
    refine lv_iload_n hx hb dX6_trailValue_55 rfl (lv_at hl 1 rfl) ?_
    refine k_iald hx hb hK hP 2 0 (f := P 1) rfl rfl (i := t) (by omega) dX6_trailValue_56 ?_
    exact W.iret (v := iI (P 1 t)) hx hb hr (fun t9 ht _ => ⟨(P 1 t), rfl, (by rw [← hepts]; exact (htv.1 (by omega)).symm : (P 1 t : Int) = trV (mO P) (P 31) t w), ht⟩) (fun _ h => nomatch h) dX6_trailValue_57 hlocks
  · skip
    refine k_tin (tgt := 58) hx hb 1 c_1 (by decide) dX6_trailValue_1 (by decide) (by decide) rfl (by decide) ?_
    refine lv_aload_n hx hb dX6_trailValue_58 rfl (lv_at hl 0 rfl) ?_
    refine va_get (D := D) (ci := 5) (v := .ref (a 20)) (C := RX6) (T := TX6) (N := 8) hx hb hts hinX6 hown hK hP 0 rfl rfl 3 (by decide) hmw2 (fun _ h9 => h9) rfl dX6_trailValue_59 ?_
    refine va_get (D := D) (ci := 0) (v := .ref (a 21)) (C := RX1) (T := TX1) (N := 8) hx hb hts hinX1 hown hK hP 10 rfl rfl 0 (by decide) hmw3 (fun _ h9 => h9) rfl dX6_trailValue_62 ?_
    refine lv_iload_n hx hb dX6_trailValue_65 rfl (lv_at hl 1 rfl) ?_
    refine k_iald hx hb hK hP 11 0 (f := P 21) rfl rfl (i := t) (by omega) dX6_trailValue_66 ?_
    exact W.iret (v := iI (P 21 t)) hx hb hr (fun t9 ht _ => ⟨(P 21 t), rfl, (by first | exact (htv.2.1 (by omega)).symm | exact (htv.2.2.1 (by omega)).symm | exact (htv.2.2.2.1 (by omega)).symm | exact (htv.2.2.2.2.1 (by omega)).symm | exact (htv.2.2.2.2.2.1 (by omega)).symm | exact (htv.2.2.2.2.2.2.2.1 (by omega)).symm | exact (htv.2.2.2.2.2.2.2.2 (by omega)).symm : (P 21 t : Int) = trV (mO P) (P 31) t w), ht⟩) (fun _ h => nomatch h) dX6_trailValue_67 hlocks
  · skip
    refine k_tin (tgt := 68) hx hb 2 c_1 (by decide) dX6_trailValue_1 (by decide) (by decide) rfl (by decide) ?_
    refine lv_aload_n hx hb dX6_trailValue_68 rfl (lv_at hl 0 rfl) ?_
    refine va_get (D := D) (ci := 5) (v := .ref (a 20)) (C := RX6) (T := TX6) (N := 8) hx hb hts hinX6 hown hK hP 0 rfl rfl 3 (by decide) hmw2 (fun _ h9 => h9) rfl dX6_trailValue_69 ?_
    refine va_get (D := D) (ci := 0) (v := .ref (a 22)) (C := RX1) (T := TX1) (N := 8) hx hb hts hinX1 hown hK hP 10 rfl rfl 1 (by decide) hmw4 (fun _ h9 => h9) rfl dX6_trailValue_72 ?_
    refine lv_iload_n hx hb dX6_trailValue_75 rfl (lv_at hl 1 rfl) ?_
    refine k_iald hx hb hK hP 12 0 (f := P 22) rfl rfl (i := t) (by omega) dX6_trailValue_76 ?_
    exact W.iret (v := iI (P 22 t)) hx hb hr (fun t9 ht _ => ⟨(P 22 t), rfl, (by first | exact (htv.2.1 (by omega)).symm | exact (htv.2.2.1 (by omega)).symm | exact (htv.2.2.2.1 (by omega)).symm | exact (htv.2.2.2.2.1 (by omega)).symm | exact (htv.2.2.2.2.2.1 (by omega)).symm | exact (htv.2.2.2.2.2.2.2.1 (by omega)).symm | exact (htv.2.2.2.2.2.2.2.2 (by omega)).symm : (P 22 t : Int) = trV (mO P) (P 31) t w), ht⟩) (fun _ h => nomatch h) dX6_trailValue_77 hlocks
  · skip
    refine k_tin (tgt := 78) hx hb 3 c_1 (by decide) dX6_trailValue_1 (by decide) (by decide) rfl (by decide) ?_
    refine lv_aload_n hx hb dX6_trailValue_78 rfl (lv_at hl 0 rfl) ?_
    refine va_get (D := D) (ci := 5) (v := .ref (a 20)) (C := RX6) (T := TX6) (N := 8) hx hb hts hinX6 hown hK hP 0 rfl rfl 3 (by decide) hmw2 (fun _ h9 => h9) rfl dX6_trailValue_79 ?_
    refine va_get (D := D) (ci := 0) (v := .ref (a 23)) (C := RX1) (T := TX1) (N := 8) hx hb hts hinX1 hown hK hP 10 rfl rfl 2 (by decide) hmw5 (fun _ h9 => h9) rfl dX6_trailValue_82 ?_
    refine lv_iload_n hx hb dX6_trailValue_85 rfl (lv_at hl 1 rfl) ?_
    refine k_iald hx hb hK hP 13 0 (f := P 23) rfl rfl (i := t) (by omega) dX6_trailValue_86 ?_
    exact W.iret (v := iI (P 23 t)) hx hb hr (fun t9 ht _ => ⟨(P 23 t), rfl, (by first | exact (htv.2.1 (by omega)).symm | exact (htv.2.2.1 (by omega)).symm | exact (htv.2.2.2.1 (by omega)).symm | exact (htv.2.2.2.2.1 (by omega)).symm | exact (htv.2.2.2.2.2.1 (by omega)).symm | exact (htv.2.2.2.2.2.2.2.1 (by omega)).symm | exact (htv.2.2.2.2.2.2.2.2 (by omega)).symm : (P 23 t : Int) = trV (mO P) (P 31) t w), ht⟩) (fun _ h => nomatch h) dX6_trailValue_87 hlocks
  · skip
    refine k_tin (tgt := 88) hx hb 4 c_1 (by decide) dX6_trailValue_1 (by decide) (by decide) rfl (by decide) ?_
    refine lv_aload_n hx hb dX6_trailValue_88 rfl (lv_at hl 0 rfl) ?_
    refine va_get (D := D) (ci := 5) (v := .ref (a 20)) (C := RX6) (T := TX6) (N := 8) hx hb hts hinX6 hown hK hP 0 rfl rfl 3 (by decide) hmw2 (fun _ h9 => h9) rfl dX6_trailValue_89 ?_
    refine va_get (D := D) (ci := 0) (v := .ref (a 24)) (C := RX1) (T := TX1) (N := 8) hx hb hts hinX1 hown hK hP 10 rfl rfl 3 (by decide) hmw6 (fun _ h9 => h9) rfl dX6_trailValue_92 ?_
    refine lv_iload_n hx hb dX6_trailValue_95 rfl (lv_at hl 1 rfl) ?_
    refine k_iald hx hb hK hP 14 0 (f := P 24) rfl rfl (i := t) (by omega) dX6_trailValue_96 ?_
    exact W.iret (v := iI (P 24 t)) hx hb hr (fun t9 ht _ => ⟨(P 24 t), rfl, (by first | exact (htv.2.1 (by omega)).symm | exact (htv.2.2.1 (by omega)).symm | exact (htv.2.2.2.1 (by omega)).symm | exact (htv.2.2.2.2.1 (by omega)).symm | exact (htv.2.2.2.2.2.1 (by omega)).symm | exact (htv.2.2.2.2.2.2.2.1 (by omega)).symm | exact (htv.2.2.2.2.2.2.2.2 (by omega)).symm : (P 24 t : Int) = trV (mO P) (P 31) t w), ht⟩) (fun _ h => nomatch h) dX6_trailValue_97 hlocks
  · skip
    refine k_tin (tgt := 98) hx hb 5 c_1 (by decide) dX6_trailValue_1 (by decide) (by decide) rfl (by decide) ?_
    refine lv_aload_n hx hb dX6_trailValue_98 rfl (lv_at hl 0 rfl) ?_
    refine va_get (D := D) (ci := 5) (v := .ref (a 20)) (C := RX6) (T := TX6) (N := 8) hx hb hts hinX6 hown hK hP 0 rfl rfl 3 (by decide) hmw2 (fun _ h9 => h9) rfl dX6_trailValue_99 ?_
    refine va_get (D := D) (ci := 0) (v := .ref (a 25)) (C := RX1) (T := TX1) (N := 8) hx hb hts hinX1 hown hK hP 10 rfl rfl 4 (by decide) hmw7 (fun _ h9 => h9) rfl dX6_trailValue_102 ?_
    refine lv_iload_n hx hb dX6_trailValue_105 rfl (lv_at hl 1 rfl) ?_
    refine k_iald hx hb hK hP 15 0 (f := P 25) rfl rfl (i := t) (by omega) dX6_trailValue_106 ?_
    exact W.iret (v := iI (P 25 t)) hx hb hr (fun t9 ht _ => ⟨(P 25 t), rfl, (by first | exact (htv.2.1 (by omega)).symm | exact (htv.2.2.1 (by omega)).symm | exact (htv.2.2.2.1 (by omega)).symm | exact (htv.2.2.2.2.1 (by omega)).symm | exact (htv.2.2.2.2.2.1 (by omega)).symm | exact (htv.2.2.2.2.2.2.2.1 (by omega)).symm | exact (htv.2.2.2.2.2.2.2.2 (by omega)).symm : (P 25 t : Int) = trV (mO P) (P 31) t w), ht⟩) (fun _ h => nomatch h) dX6_trailValue_107 hlocks
  · skip
    refine k_tin (tgt := 108) hx hb 6 c_1 (by decide) dX6_trailValue_1 (by decide) (by decide) rfl (by decide) ?_
    refine lv_aload_n hx hb dX6_trailValue_108 rfl (lv_at hl 0 rfl) ?_
    refine va_get (D := D) (ci := 5) (v := .ref (a 20)) (C := RX6) (T := TX6) (N := 8) hx hb hts hinX6 hown hK hP 0 rfl rfl 3 (by decide) hmw2 (fun _ h9 => h9) rfl dX6_trailValue_109 ?_
    refine va_get (D := D) (ci := 0) (v := .ref (a 28)) (C := RX1) (T := TX1) (N := 8) hx hb hts hinX1 hown hK hP 10 rfl rfl 7 (by decide) hmw8 (fun _ h9 => h9) rfl dX6_trailValue_112 ?_
    refine lv_iload_n hx hb dX6_trailValue_115 rfl (lv_at hl 1 rfl) ?_
    refine k_zald hx hb hK hP 18 2 (f := P 28) rfl rfl (i := t) (by omega) dX6_trailValue_116 ?_
    refine k_if_eq (tgt := 124) hx hb dX6_trailValue_117 (by decide) (by omega) (fun c_2 => ?_) (fun c_2 => ?_)
    · skip
      refine k_iconst hx hb dX6_trailValue_124 ?_
      exact W.iret (v := iI 0) hx hb hr (fun t9 ht _ => ⟨0, rfl, (by have h9 := htv.2.2.2.2.2.2.1 (by omega); omega : (0 : Int) = trV (mO P) (P 31) t w), ht⟩) (fun _ h => nomatch h) dX6_trailValue_125 hlocks
    · skip
      refine k_iconst hx hb dX6_trailValue_120 ?_
      refine lv_goto (tgt := 125) hx hb dX6_trailValue_121 (by decide) ?_
      exact W.iret (v := iI 1) hx hb hr (fun t9 ht _ => ⟨1, rfl, (by have h9 := htv.2.2.2.2.2.2.1 (by omega); omega : (1 : Int) = trV (mO P) (P 31) t w), ht⟩) (fun _ h => nomatch h) dX6_trailValue_125 hlocks
  · skip
    refine k_tin (tgt := 126) hx hb 7 c_1 (by decide) dX6_trailValue_1 (by decide) (by decide) rfl (by decide) ?_
    refine lv_aload_n hx hb dX6_trailValue_126 rfl (lv_at hl 0 rfl) ?_
    refine va_get (D := D) (ci := 5) (v := .ref (a 20)) (C := RX6) (T := TX6) (N := 8) hx hb hts hinX6 hown hK hP 0 rfl rfl 3 (by decide) hmw2 (fun _ h9 => h9) rfl dX6_trailValue_127 ?_
    refine va_get (D := D) (ci := 0) (v := .ref (a 26)) (C := RX1) (T := TX1) (N := 8) hx hb hts hinX1 hown hK hP 10 rfl rfl 5 (by decide) hmw9 (fun _ h9 => h9) rfl dX6_trailValue_130 ?_
    refine lv_iload_n hx hb dX6_trailValue_133 rfl (lv_at hl 1 rfl) ?_
    refine k_iald hx hb hK hP 16 0 (f := P 26) rfl rfl (i := t) (by omega) dX6_trailValue_134 ?_
    exact W.iret (v := iI (P 26 t)) hx hb hr (fun t9 ht _ => ⟨(P 26 t), rfl, (by first | exact (htv.2.1 (by omega)).symm | exact (htv.2.2.1 (by omega)).symm | exact (htv.2.2.2.1 (by omega)).symm | exact (htv.2.2.2.2.1 (by omega)).symm | exact (htv.2.2.2.2.2.1 (by omega)).symm | exact (htv.2.2.2.2.2.2.2.1 (by omega)).symm | exact (htv.2.2.2.2.2.2.2.2 (by omega)).symm : (P 26 t : Int) = trV (mO P) (P 31) t w), ht⟩) (fun _ h => nomatch h) dX6_trailValue_135 hlocks
  · skip
    refine k_tout (tgt := 136) hx hb (by omega) dX6_trailValue_1 c_1 (by decide) ?_
    refine lv_aload_n hx hb dX6_trailValue_136 rfl (lv_at hl 0 rfl) ?_
    refine va_get (D := D) (ci := 5) (v := .ref (a 30)) (C := RX6) (T := TX6) (N := 8) hx hb hts hinX6 hown hK hP 0 rfl rfl 4 (by decide) hmw10 (fun _ h9 => h9) rfl dX6_trailValue_137 ?_
    refine va_get (D := D) (ci := 2) (v := .ref (a 31)) (C := RX3) (T := TX3) (N := 9) hx hb hts hinX3 hown hK hP 19 rfl rfl 0 (by decide) hmw11 (fun _ h9 => h9) rfl dX6_trailValue_140 ?_
    refine lv_iload_n hx hb dX6_trailValue_143 rfl (lv_at hl 1 rfl) ?_
    refine k_iald hx hb hK hP 20 0 (f := P 31) rfl rfl (i := t) (by omega) dX6_trailValue_144 ?_
    exact W.iret (v := iI (P 31 t)) hx hb hr (fun t9 ht _ => ⟨(P 31 t), rfl, (by first | exact (htv.2.1 (by omega)).symm | exact (htv.2.2.1 (by omega)).symm | exact (htv.2.2.2.1 (by omega)).symm | exact (htv.2.2.2.2.1 (by omega)).symm | exact (htv.2.2.2.2.2.1 (by omega)).symm | exact (htv.2.2.2.2.2.2.2.1 (by omega)).symm | exact (htv.2.2.2.2.2.2.2.2 (by omega)).symm : (P 31 t : Int) = trV (mO P) (P 31) t w), ht⟩) (fun _ h => nomatch h) dX6_trailValue_145 hlocks
set_option maxHeartbeats 4000000 in
set_option maxRecDepth 100000 in
theorem c_X6_starValue (l : Launch) (D : va_G) (cy : Nat → ClassId) (a : Nat → Nat) (P : Nat → Int → Int) (u w : Int) (hI : Inv (mO P)) (hlk : lkd P) (h0u : 0 ≤ u) (h1u : u < P 0 1) (hw : 0 ≤ w ∧ w ≤ 6) : Met l yX6_starValue wsX6_starValue { frames := 1, cells := 0, slots := 0, locals := 21 } (kPre (GG D cy) D (oblkW cy a P) ([.ref (a 100), .int (iI u), .int (iI w)] : List Value)) (kRO (fun r => r = stW (mO P) u w)) 0 0 (fun _ => False) := by
  refine kRO_start (cc := cX6_starValue) (maxL := 3) (ret := (some .int)) (by decide) rfl (Nat.le_of_ble_eq_true rfl) ?_
  intro p e s m below meth c hx hb hr hlocks hml hts hown hG hP ls hl
  have hK := hG.1
  have hl : lv_has ls 3 [(0, .ref (a 100)), (1, .int (iI u)), (2, .int (iI w))] := hl
  have hinX3 : ∀ w ∈ u_ws RX3 TX3 9, w ∈ wsX6_starValue := by decide +kernel
  have hinX4 : ∀ w ∈ u_ws RX4 TX4 12, w ∈ wsX6_starValue := by decide +kernel
  have hinX6 : ∀ w ∈ u_ws RX6 TX6 8, w ∈ wsX6_starValue := by decide +kernel
  have hmw0 := hts (.fieldLink RX6 10 "ArcPlate" "plate" "LArcPlate$Plate;") (by decide +kernel)
  have hmw1 := hts (.fieldLink RX6 191 "ArcPlate$Plate" "radii" "[I") (by decide +kernel)
  have hmw2 := hts (.fieldLink RX6 299 "ArcPlate$Plate" "angles" "[I") (by decide +kernel)
  have hmw3 := hts (.fieldLink RX6 302 "ArcPlate$Plate" "lights" "[I") (by decide +kernel)
  have hmw4 := hts (.fieldLink RX6 40 "ArcPlate" "matching" "LArcPlate$Matching;") (by decide +kernel)
  have hmw5 := hts (.fieldLink RX6 185 "ArcPlate$Matching" "trailOf" "[I") (by decide +kernel)
  have hmw6 := hts (.fieldLink RX6 308 "ArcPlate$Matching" "costOf" "[I") (by decide +kernel)
  have hS0 := po_S hI
  have hsv := ma_stW (w := w) hI hlk.2.1 h0u h1u
  refine lv_iload_n hx hb dX6_starValue_0 rfl (lv_at hl 2 rfl) ?_
  rcases (show w = 0 ∨ w = 1 ∨ w = 2 ∨ w = 3 ∨ w = 4 ∨ w = 5 ∨ (w < 0 ∨ 5 < w) by omega) with c_1 | c_1 | c_1 | c_1 | c_1 | c_1 | c_1
  · skip
    refine k_tin (tgt := 40) hx hb 0 c_1 (by decide) dX6_starValue_1 (by decide) (by decide) rfl (by decide) ?_
    refine lv_aload_n hx hb dX6_starValue_40 rfl (lv_at hl 0 rfl) ?_
    refine va_get (D := D) (ci := 5) (v := .ref (a 0)) (C := RX6) (T := TX6) (N := 8) hx hb hts hinX6 hown hK hP 0 rfl rfl 0 (by decide) hmw0 (fun _ h9 => h9) rfl dX6_starValue_41 ?_
    refine va_get (D := D) (ci := 3) (v := .ref (a 5)) (C := RX4) (T := TX4) (N := 12) hx hb hts hinX4 hown hK hP 1 rfl rfl 8 (by decide) hmw1 (fun _ h9 => h9) rfl dX6_starValue_44 ?_
    refine lv_iload_n hx hb dX6_starValue_47 rfl (lv_at hl 1 rfl) ?_
    refine k_iald hx hb hK hP 6 0 (f := P 5) rfl rfl (i := u) (by omega) dX6_starValue_48 ?_
    exact W.iret (v := iI (P 5 u)) hx hb hr (fun t9 ht _ => ⟨(P 5 u), rfl, (by first | exact (hsv.1 (by omega)).symm | exact (hsv.2.1 (by omega)).symm | exact (hsv.2.2.1 (by omega)).symm | exact (hsv.2.2.2.1 (by omega)).symm | exact (hsv.2.2.2.2.1 (by omega)).symm | exact (hsv.2.2.2.2.2.1 (by omega)).symm : (P 5 u : Int) = stW (mO P) u w), ht⟩) (fun _ h => nomatch h) dX6_starValue_49 hlocks
  · skip
    refine k_tin (tgt := 50) hx hb 1 c_1 (by decide) dX6_starValue_1 (by decide) (by decide) rfl (by decide) ?_
    refine lv_aload_n hx hb dX6_starValue_50 rfl (lv_at hl 0 rfl) ?_
    refine va_get (D := D) (ci := 5) (v := .ref (a 0)) (C := RX6) (T := TX6) (N := 8) hx hb hts hinX6 hown hK hP 0 rfl rfl 0 (by decide) hmw0 (fun _ h9 => h9) rfl dX6_starValue_51 ?_
    refine va_get (D := D) (ci := 3) (v := .ref (a 6)) (C := RX4) (T := TX4) (N := 12) hx hb hts hinX4 hown hK hP 1 rfl rfl 9 (by decide) hmw2 (fun _ h9 => h9) rfl dX6_starValue_54 ?_
    refine lv_iload_n hx hb dX6_starValue_57 rfl (lv_at hl 1 rfl) ?_
    refine k_iald hx hb hK hP 7 0 (f := P 6) rfl rfl (i := u) (by omega) dX6_starValue_58 ?_
    exact W.iret (v := iI (P 6 u)) hx hb hr (fun t9 ht _ => ⟨(P 6 u), rfl, (by first | exact (hsv.1 (by omega)).symm | exact (hsv.2.1 (by omega)).symm | exact (hsv.2.2.1 (by omega)).symm | exact (hsv.2.2.2.1 (by omega)).symm | exact (hsv.2.2.2.2.1 (by omega)).symm | exact (hsv.2.2.2.2.2.1 (by omega)).symm : (P 6 u : Int) = stW (mO P) u w), ht⟩) (fun _ h => nomatch h) dX6_starValue_59 hlocks
  · skip
    refine k_tin (tgt := 60) hx hb 2 c_1 (by decide) dX6_starValue_1 (by decide) (by decide) rfl (by decide) ?_
    refine lv_aload_n hx hb dX6_starValue_60 rfl (lv_at hl 0 rfl) ?_
    refine va_get (D := D) (ci := 5) (v := .ref (a 0)) (C := RX6) (T := TX6) (N := 8) hx hb hts hinX6 hown hK hP 0 rfl rfl 0 (by decide) hmw0 (fun _ h9 => h9) rfl dX6_starValue_61 ?_
    refine va_get (D := D) (ci := 3) (v := .ref (a 7)) (C := RX4) (T := TX4) (N := 12) hx hb hts hinX4 hown hK hP 1 rfl rfl 10 (by decide) hmw3 (fun _ h9 => h9) rfl dX6_starValue_64 ?_
    refine lv_iload_n hx hb dX6_starValue_67 rfl (lv_at hl 1 rfl) ?_
    refine k_iald hx hb hK hP 8 0 (f := P 7) rfl rfl (i := u) (by omega) dX6_starValue_68 ?_
    exact W.iret (v := iI (P 7 u)) hx hb hr (fun t9 ht _ => ⟨(P 7 u), rfl, (by first | exact (hsv.1 (by omega)).symm | exact (hsv.2.1 (by omega)).symm | exact (hsv.2.2.1 (by omega)).symm | exact (hsv.2.2.2.1 (by omega)).symm | exact (hsv.2.2.2.2.1 (by omega)).symm | exact (hsv.2.2.2.2.2.1 (by omega)).symm : (P 7 u : Int) = stW (mO P) u w), ht⟩) (fun _ h => nomatch h) dX6_starValue_69 hlocks
  · skip
    refine k_tin (tgt := 70) hx hb 3 c_1 (by decide) dX6_starValue_1 (by decide) (by decide) rfl (by decide) ?_
    refine lv_aload_n hx hb dX6_starValue_70 rfl (lv_at hl 0 rfl) ?_
    refine va_get (D := D) (ci := 5) (v := .ref (a 0)) (C := RX6) (T := TX6) (N := 8) hx hb hts hinX6 hown hK hP 0 rfl rfl 0 (by decide) hmw0 (fun _ h9 => h9) rfl dX6_starValue_71 ?_
    refine lv_iload_n hx hb dX6_starValue_74 rfl (lv_at hl 1 rfl) ?_
    refine k_roV (As := [.int (iI u)]) (rest := []) ⟨hx, hb, hml, hown, hts⟩ (c_X4_radiusOfStar l D cy a P u hI (show 0 ≤ u by omega) (show u < P 0 1 by omega)) gX6_starValue_X4_radiusOfStar rfl ⟨rfl, rfl⟩ 1 rfl (by decide +kernel) ⟨Nat.le_of_ble_eq_true rfl, Nat.le_of_ble_eq_true rfl⟩ (GG_ok D cy) hG (hP.sub (ws' := (plW cy a P)) [1, 2, 3, 4, 5, 6, 7, 8, 9] rfl) (va_recv hK hP (ci := 3) (q0 := 1) rfl rfl) hl.1 rfl (Nat.le_of_ble_eq_true rfl) ⟨Nat.le_of_ble_eq_true rfl, Nat.le_of_ble_eq_true rfl⟩ dX6_starValue_75 (fun r_2 hr_2 => ?_)
    have hr_2 : r_2 = plR (mO P) u := hr_2
    subst hr_2
    exact W.iret (v := iI (plR (mO P) u)) hx hb hr (fun t9 ht _ => ⟨(plR (mO P) u), rfl, (by first | exact (hsv.1 (by omega)).symm | exact (hsv.2.1 (by omega)).symm | exact (hsv.2.2.1 (by omega)).symm | exact (hsv.2.2.2.1 (by omega)).symm | exact (hsv.2.2.2.2.1 (by omega)).symm | exact (hsv.2.2.2.2.2.1 (by omega)).symm : (plR (mO P) u : Int) = stW (mO P) u w), ht⟩) (fun _ h => nomatch h) dX6_starValue_78 hlocks
  · skip
    refine k_tin (tgt := 79) hx hb 4 c_1 (by decide) dX6_starValue_1 (by decide) (by decide) rfl (by decide) ?_
    refine lv_aload_n hx hb dX6_starValue_79 rfl (lv_at hl 0 rfl) ?_
    refine va_get (D := D) (ci := 5) (v := .ref (a 30)) (C := RX6) (T := TX6) (N := 8) hx hb hts hinX6 hown hK hP 0 rfl rfl 4 (by decide) hmw4 (fun _ h9 => h9) rfl dX6_starValue_80 ?_
    refine va_get (D := D) (ci := 2) (v := .ref (a 32)) (C := RX3) (T := TX3) (N := 9) hx hb hts hinX3 hown hK hP 19 rfl rfl 1 (by decide) hmw5 (fun _ h9 => h9) rfl dX6_starValue_83 ?_
    refine lv_iload_n hx hb dX6_starValue_86 rfl (lv_at hl 1 rfl) ?_
    refine k_iald hx hb hK hP 21 0 (f := P 32) rfl rfl (i := u) (by omega) dX6_starValue_87 ?_
    exact W.iret (v := iI (P 32 u)) hx hb hr (fun t9 ht _ => ⟨(P 32 u), rfl, (by first | exact (hsv.1 (by omega)).symm | exact (hsv.2.1 (by omega)).symm | exact (hsv.2.2.1 (by omega)).symm | exact (hsv.2.2.2.1 (by omega)).symm | exact (hsv.2.2.2.2.1 (by omega)).symm | exact (hsv.2.2.2.2.2.1 (by omega)).symm : (P 32 u : Int) = stW (mO P) u w), ht⟩) (fun _ h => nomatch h) dX6_starValue_88 hlocks
  · skip
    refine k_tin (tgt := 89) hx hb 5 c_1 (by decide) dX6_starValue_1 (by decide) (by decide) rfl (by decide) ?_
    refine lv_aload_n hx hb dX6_starValue_89 rfl (lv_at hl 0 rfl) ?_
    refine va_get (D := D) (ci := 5) (v := .ref (a 30)) (C := RX6) (T := TX6) (N := 8) hx hb hts hinX6 hown hK hP 0 rfl rfl 4 (by decide) hmw4 (fun _ h9 => h9) rfl dX6_starValue_90 ?_
    refine va_get (D := D) (ci := 2) (v := .ref (a 33)) (C := RX3) (T := TX3) (N := 9) hx hb hts hinX3 hown hK hP 19 rfl rfl 2 (by decide) hmw6 (fun _ h9 => h9) rfl dX6_starValue_93 ?_
    refine lv_iload_n hx hb dX6_starValue_96 rfl (lv_at hl 1 rfl) ?_
    refine k_iald hx hb hK hP 22 0 (f := P 33) rfl rfl (i := u) (by omega) dX6_starValue_97 ?_
    exact W.iret (v := iI (P 33 u)) hx hb hr (fun t9 ht _ => ⟨(P 33 u), rfl, (by first | exact (hsv.1 (by omega)).symm | exact (hsv.2.1 (by omega)).symm | exact (hsv.2.2.1 (by omega)).symm | exact (hsv.2.2.2.1 (by omega)).symm | exact (hsv.2.2.2.2.1 (by omega)).symm | exact (hsv.2.2.2.2.2.1 (by omega)).symm : (P 33 u : Int) = stW (mO P) u w), ht⟩) (fun _ h => nomatch h) dX6_starValue_98 hlocks
  · skip
    refine k_tout (tgt := 99) hx hb (by omega) dX6_starValue_1 c_1 (by decide) ?_
    refine lv_aload_n hx hb dX6_starValue_99 rfl (lv_at hl 0 rfl) ?_
    refine lv_iload_n hx hb dX6_starValue_100 rfl (lv_at hl 1 rfl) ?_
    refine k_roV (As := [.int (iI u)]) (rest := []) ⟨hx, hb, hml, hown, hts⟩ (c_X6_isMissing l D cy a P u hI (show lkd P by omega) (show 0 ≤ u by omega) (show u < P 0 1 by omega)) gX6_starValue_X6_isMissing rfl ⟨rfl, rfl⟩ 1 rfl (by decide +kernel) ⟨Nat.le_of_ble_eq_true rfl, Nat.le_of_ble_eq_true rfl⟩ (GG_ok D cy) hG hP (va_recv hK hP (ci := 5) (q0 := 0) rfl rfl) hl.1 rfl (Nat.le_of_ble_eq_true rfl) ⟨Nat.le_of_ble_eq_true rfl, Nat.le_of_ble_eq_true rfl⟩ dX6_starValue_101 (fun r_3 hr_3 => ?_)
    have hr_3 : ((missP (mO P) (P 32) u) ∧ r_3 = 1) ∨ (¬ (missP (mO P) (P 32) u) ∧ r_3 = 0) := hr_3
    rcases hr_3 with ⟨c_4, hr_3⟩ | ⟨c_4, hr_3⟩ <;> subst hr_3
    · skip
      refine k_if_eq (tgt := 111) hx hb dX6_starValue_104 (by decide) (by omega) (fun c_5 => ?_) (fun c_5 => ?_)
      · exfalso; omega
      · skip
        refine k_iconst hx hb dX6_starValue_107 ?_
        refine lv_goto (tgt := 112) hx hb dX6_starValue_108 (by decide) ?_
        exact W.iret (v := iI 1) hx hb hr (fun t9 ht _ => ⟨1, rfl, (by have h9 := hsv.2.2.2.2.2.2 (by omega); first | (rw [missN_1 (by assumption)] at h9; exact h9.symm) | (rw [missN_0 (by assumption)] at h9; exact h9.symm) : (1 : Int) = stW (mO P) u w), ht⟩) (fun _ h => nomatch h) dX6_starValue_112 hlocks
    · skip
      refine k_if_eq (tgt := 111) hx hb dX6_starValue_104 (by decide) (by omega) (fun c_6 => ?_) (fun c_6 => ?_)
      · skip
        refine k_iconst hx hb dX6_starValue_111 ?_
        exact W.iret (v := iI 0) hx hb hr (fun t9 ht _ => ⟨0, rfl, (by have h9 := hsv.2.2.2.2.2.2 (by omega); first | (rw [missN_1 (by assumption)] at h9; exact h9.symm) | (rw [missN_0 (by assumption)] at h9; exact h9.symm) : (0 : Int) = stW (mO P) u w), ht⟩) (fun _ h => nomatch h) dX6_starValue_112 hlocks
      · exfalso; omega
set_option maxHeartbeats 4000000 in
set_option maxRecDepth 100000 in
theorem c_X6_zeroThatBrings (l : Launch) (D : va_G) (cy : Nat → ClassId) (a : Nat → Nat) (P : Nat → Int → Int) (u t : Int) (hI : Inv (mO P)) (hlk : lkd P) (h0 : 0 ≤ t) (h1 : t < P 0 0) (hp0 : 0 < P 1 t) (h0u : 0 ≤ u) (h1u : u < P 0 1) : Met l yX6_zeroThatBrings wsX6_zeroThatBrings { frames := 1, cells := 0, slots := 0, locals := 22 } (kPre (GG D cy) D (oblkW cy a P) ([.ref (a 100), .int (iI u), .int (iI t)] : List Value)) (kRO (fun r => r = zfor (mO P) t u)) 0 0 (fun _ => False) := by
  refine kRO_start (cc := cX6_zeroThatBrings) (maxL := 4) (ret := (some .int)) (by decide) rfl (Nat.le_of_ble_eq_true rfl) ?_
  intro p e s m below meth c hx hb hr hlocks hml hts hown hG hP ls hl
  have hK := hG.1
  have hl : lv_has ls 4 [(0, .ref (a 100)), (1, .int (iI u)), (2, .int (iI t))] := hl
  have hinX1 : ∀ w ∈ u_ws RX1 TX1 8, w ∈ wsX6_zeroThatBrings := by decide +kernel
  have hinX4 : ∀ w ∈ u_ws RX4 TX4 12, w ∈ wsX6_zeroThatBrings := by decide +kernel
  have hinX6 : ∀ w ∈ u_ws RX6 TX6 8, w ∈ wsX6_zeroThatBrings := by decide +kernel
  have hmw0 := hts (.fieldLink RX6 10 "ArcPlate" "plate" "LArcPlate$Plate;") (by decide +kernel)
  have hmw1 := hts (.fieldLink RX6 143 "ArcPlate$Plate" "settings" "[I") (by decide +kernel)
  have hmw2 := hts (.fieldLink RX6 323 "ArcPlate$Plate" "frames" "[I") (by decide +kernel)
  have hmw3 := hts (.fieldLink RX6 33 "ArcPlate" "figures" "LArcPlate$Figures;") (by decide +kernel)
  have hmw4 := hts (.fieldLink RX6 329 "ArcPlate$Figures" "firstAngle" "[I") (by decide +kernel)
  have hmw5 := hts (.fieldLink RX6 299 "ArcPlate$Plate" "angles" "[I") (by decide +kernel)
  have hmw6 := hts (.constant RX6 332 (360000)) (by decide +kernel)
  have hS0 := po_S hI
  have hset := po_set hI
  have hp := po_pts hI h0 h1
  have hepts := mO_pts P (t := t) h0 (by omega)
  have hfa := hlk.1 t h0 h1
  have hst := po_star hI h0u h1u
  have hpt := po_pt hI h0 h1 (Int.le_refl 0) hp0
  have ha := inv_ang (M := mO P) t 0
  have hm := mul_bd (a := 5000) (b := 1000) hset.1 hpt.1
  have h27 := ((hfa.1 (by omega)).2.2.2.1)
  refine lv_aload_n hx hb dX6_zeroThatBrings_0 rfl (lv_at hl 0 rfl) ?_
  refine va_get (D := D) (ci := 5) (v := .ref (a 0)) (C := RX6) (T := TX6) (N := 8) hx hb hts hinX6 hown hK hP 0 rfl rfl 0 (by decide) hmw0 (fun _ h9 => h9) rfl dX6_zeroThatBrings_1 ?_
  refine va_get (D := D) (ci := 3) (v := .ref (a 8)) (C := RX4) (T := TX4) (N := 12) hx hb hts hinX4 hown hK hP 1 rfl rfl 11 (by decide) hmw1 (fun _ h9 => h9) rfl dX6_zeroThatBrings_4 ?_
  refine k_iconst hx hb dX6_zeroThatBrings_7 ?_
  refine k_iald hx hb hK hP 9 0 (f := P 8) rfl rfl (i := 0) (by omega) dX6_zeroThatBrings_8 ?_
  refine lv_aload_n hx hb dX6_zeroThatBrings_9 rfl (lv_at hl 0 rfl) ?_
  refine va_get (D := D) (ci := 5) (v := .ref (a 0)) (C := RX6) (T := TX6) (N := 8) hx hb hts hinX6 hown hK hP 0 rfl rfl 0 (by decide) hmw0 (fun _ h9 => h9) rfl dX6_zeroThatBrings_10 ?_
  refine va_get (D := D) (ci := 3) (v := .ref (a 2)) (C := RX4) (T := TX4) (N := 12) hx hb hts hinX4 hown hK hP 1 rfl rfl 5 (by decide) hmw2 (fun _ h9 => h9) rfl dX6_zeroThatBrings_13 ?_
  refine lv_iload_n hx hb dX6_zeroThatBrings_16 rfl (lv_at hl 2 rfl) ?_
  refine k_iconst hx hb dX6_zeroThatBrings_17 ?_
  refine k_roS (As := [.int (iI t), .int (iI 0)]) (rest := [.ref (a 2), .int (iI (P 8 0))]) ⟨hx, hb, hml, hown, hts⟩ (c_X4_slot l D t 0 ) gX6_zeroThatBrings_X4_slot rfl ⟨rfl, rfl⟩ 2 rfl (by decide +kernel) ⟨Nat.le_of_ble_eq_true rfl, Nat.le_of_ble_eq_true rfl⟩ kGT_ok trivial (fun k q h => by simp at h) hl.1 rfl (Nat.le_of_ble_eq_true rfl) ⟨Nat.le_of_ble_eq_true rfl, Nat.le_of_ble_eq_true rfl⟩ dX6_zeroThatBrings_18 (fun r_1 hr_1 => ?_)
  have hr_1 : r_1 = 12 * t + 0 := hr_1
  subst hr_1
  refine k_iald hx hb hK hP 3 0 (f := P 2) rfl rfl (i := 12 * t + 0) (by omega) dX6_zeroThatBrings_21 ?_
  refine k_imul hx hb dX6_zeroThatBrings_22 ?_
  refine lv_istore_n (lv' := [(3, .int (iI ((P 8 0) * (P 2 (12 * t + 0))))), (0, .ref (a 100)), (1, .int (iI u)), (2, .int (iI t))]) hx hb dX6_zeroThatBrings_23 rfl hl (by decide) rfl (fun ls hl => ?_)
  refine lv_aload_n hx hb dX6_zeroThatBrings_24 rfl (lv_at hl 1 rfl) ?_
  refine va_get (D := D) (ci := 5) (v := .ref (a 20)) (C := RX6) (T := TX6) (N := 8) hx hb hts hinX6 hown hK hP 0 rfl rfl 3 (by decide) hmw3 (fun _ h9 => h9) rfl dX6_zeroThatBrings_25 ?_
  refine va_get (D := D) (ci := 0) (v := .ref (a 27)) (C := RX1) (T := TX1) (N := 8) hx hb hts hinX1 hown hK hP 10 rfl rfl 6 (by decide) hmw4 (fun _ h9 => h9) rfl dX6_zeroThatBrings_28 ?_
  refine lv_iload_n hx hb dX6_zeroThatBrings_31 rfl (lv_at hl 3 rfl) ?_
  refine k_iald hx hb hK hP 17 0 (f := P 27) rfl rfl (i := t) (by omega) dX6_zeroThatBrings_32 ?_
  refine k_eqI (v := P 27 t) (w := angOf (mO P) t 0) (h27) ?_
  refine lv_aload_n hx hb dX6_zeroThatBrings_33 rfl (lv_at hl 1 rfl) ?_
  refine va_get (D := D) (ci := 5) (v := .ref (a 0)) (C := RX6) (T := TX6) (N := 8) hx hb hts hinX6 hown hK hP 0 rfl rfl 0 (by decide) hmw0 (fun _ h9 => h9) rfl dX6_zeroThatBrings_34 ?_
  refine va_get (D := D) (ci := 3) (v := .ref (a 6)) (C := RX4) (T := TX4) (N := 12) hx hb hts hinX4 hown hK hP 1 rfl rfl 9 (by decide) hmw5 (fun _ h9 => h9) rfl dX6_zeroThatBrings_37 ?_
  refine lv_iload_n hx hb dX6_zeroThatBrings_40 rfl (lv_at hl 2 rfl) ?_
  refine k_iald hx hb hK hP 7 0 (f := P 6) rfl rfl (i := u) (by omega) dX6_zeroThatBrings_41 ?_
  refine k_isub hx hb dX6_zeroThatBrings_42 ?_
  refine lv_iload_n hx hb dX6_zeroThatBrings_43 rfl (lv_at hl 0 rfl) ?_
  refine k_isub hx hb dX6_zeroThatBrings_44 ?_
  refine k_ldcw (z := 360000) hx hb hown hmw6 (by decide +kernel) dX6_zeroThatBrings_45 ?_
  refine k_roS (As := [.int (iI (((angOf (mO P) t 0) - (P 6 u)) - ((P 8 0) * (P 2 (12 * t + 0))))), .int (iI 360000)]) (rest := []) ⟨hx, hb, hml, hown, hts⟩ (c_J9_floorMod_7cf53 l D (((angOf (mO P) t 0) - (P 6 u)) - ((P 8 0) * (P 2 (12 * t + 0)))) 360000 (show -2147483648 ≤ (((angOf (mO P) t 0) - (P 6 u)) - ((P 8 0) * (P 2 (12 * t + 0)))) ∧ (((angOf (mO P) t 0) - (P 6 u)) - ((P 8 0) * (P 2 (12 * t + 0)))) ≤ 2147483647 by omega) (show 0 < 360000 ∧ 360000 ≤ 1073741824 by omega)) gX6_zeroThatBrings_J9_floorMod_7cf53 rfl ⟨rfl, rfl⟩ 2 rfl (by decide +kernel) ⟨Nat.le_of_ble_eq_true rfl, Nat.le_of_ble_eq_true rfl⟩ kGT_ok trivial (fun k q h => by simp at h) hl.1 rfl (Nat.le_of_ble_eq_true rfl) ⟨Nat.le_of_ble_eq_true rfl, Nat.le_of_ble_eq_true rfl⟩ dX6_zeroThatBrings_48 (fun r_2 hr_2 => ?_)
  have hr_2 : r_2 = (((angOf (mO P) t 0) - (P 6 u)) - ((P 8 0) * (P 2 (12 * t + 0)))) % 360000 := hr_2
  subst hr_2
  exact W.iret (v := iI ((((angOf (mO P) t 0) - (P 6 u)) - ((P 8 0) * (P 2 (12 * t + 0)))) % 360000)) hx hb hr (fun t9 ht _ => ⟨((((angOf (mO P) t 0) - (P 6 u)) - ((P 8 0) * (P 2 (12 * t + 0)))) % 360000), rfl, ((z_mO h0 (by omega) h0u).symm : ((((angOf (mO P) t 0) - (P 6 u)) - ((P 8 0) * (P 2 (12 * t + 0)))) % 360000 : Int) = zfor (mO P) t u), ht⟩) (fun _ h => nomatch h) dX6_zeroThatBrings_51 hlocks
set_option maxHeartbeats 4000000 in
set_option maxRecDepth 100000 in
theorem c_X6_look (l : Launch) (D : va_G) (cy : Nat → ClassId) (sz : Nat) (a : Nat → Nat) (P : Nat → Int → Int)  (hI : Inv (mO P)) (hl0 : P 100 6 = 0 ∨ P 100 6 = 1) (hl1 : P 100 6 = 1 → lkd P) : Met l yX6_look wsX6_look { frames := 5, cells := 0, slots := 0, locals := 128 } (mPre (GG D cy) D (oblkW cy a P) sz ([.ref (a 100)] : List Value)) (kQv D (oblkW cy a P) sz (fun u9 : Nat → Int → Int => oblkW cy a u9) (fun u9 => ∃ (zZ : Nat → Int → Int), (figOK (mO P) zZ (P 0 0) ∧ maOK (mO P) (P 8 8) (zZ 31) (zZ 32) (zZ 33) ∧ zZ 30 3 = (mat (mO P) (P 8 8)).2.2.1 ∧ zZ 30 4 = (mat (mO P) (P 8 8)).2.2.2) ∧ (u9 = (upr (upr (upr (upr (upr (upr (upr (upr (upr (upr (upr (upr (upr (upr (upr (upr P 21 (zZ 21)) 22 (zZ 22)) 23 (zZ 23)) 24 (zZ 24)) 25 (zZ 25)) 26 (zZ 26)) 27 (zZ 27)) 28 (zZ 28)) 30 (zZ 30)) 31 (zZ 31)) 32 (zZ 32)) 33 (zZ 33)) 34 (zZ 34)) 35 (zZ 35)) 36 (zZ 36)) 100 (ups (P 100) 6 1))))) 0 0 (va_A (oblkW cy a P) sz) := by
  refine kM_start (cc := cX6_look) (maxL := 1) (ret := none) (by decide) rfl (Nat.le_of_ble_eq_true rfl) ?_
  intro p e s m below meth c hx hb hr hlocks hml hts hown hsz hA hG hP hD hS hin ls hl
  have hK := hG.1
  have hl : lv_has ls 1 [(0, .ref (a 100))] := hl
  have hinX4 : ∀ w ∈ u_ws RX4 TX4 12, w ∈ wsX6_look := by decide +kernel
  have hinX6 : ∀ w ∈ u_ws RX6 TX6 8, w ∈ wsX6_look := by decide +kernel
  have hmw0 := hts (.fieldLink RX6 47 "ArcPlate" "looked" "Z") (by decide +kernel)
  have hmw1 := hts (.fieldLink RX6 33 "ArcPlate" "figures" "LArcPlate$Figures;") (by decide +kernel)
  have hmw2 := hts (.fieldLink RX6 10 "ArcPlate" "plate" "LArcPlate$Plate;") (by decide +kernel)
  have hmw3 := hts (.fieldLink RX6 40 "ArcPlate" "matching" "LArcPlate$Matching;") (by decide +kernel)
  have hmw4 := hts (.fieldLink RX6 143 "ArcPlate$Plate" "settings" "[I") (by decide +kernel)
  have hset := po_set hI
  have hbody : ∀ (H : Heap) (locs : List Loc) (hP : va_P D vwCl (oblkW cy a P) H) (hS : va_S (va_A (oblkW cy a P) sz) s.heap H locs) (ls : Array Slot) (hl : lv_has ls 1 [(0, .ref (a 100))]), W p l e { frames := 5, cells := 0, slots := 0, locals := 128 } s m ([.ref (a 100)] : List Value).toArray below meth c H locs 0 0 (MQ below (kQv D (oblkW cy a P) sz (fun u9 : Nat → Int → Int => oblkW cy a u9) (fun u9 => ∃ (zZ : Nat → Int → Int), (figOK (mO P) zZ (P 0 0) ∧ maOK (mO P) (P 8 8) (zZ 31) (zZ 32) (zZ 33) ∧ zZ 30 3 = (mat (mO P) (P 8 8)).2.2.1 ∧ zZ 30 4 = (mat (mO P) (P 8 8)).2.2.2) ∧ (u9 = (upr (upr (upr (upr (upr (upr (upr (upr (upr (upr (upr (upr (upr (upr (upr (upr P 21 (zZ 21)) 22 (zZ 22)) 23 (zZ 23)) 24 (zZ 24)) 25 (zZ 25)) 26 (zZ 26)) 27 (zZ 27)) 28 (zZ 28)) 30 (zZ 30)) 31 (zZ 31)) 32 (zZ 32)) 33 (zZ 33)) 34 (zZ 34)) 35 (zZ 35)) 36 (zZ 36)) 100 (ups (P 100) 6 1))))) ([.ref (a 100)] : List Value).toArray s 0 0 (va_A (oblkW cy a P) sz)) (F0 m 0 ls []) := by
    intro H locs hP hS ls hl
    refine lv_aload_n hx hb dX6_look_0 rfl (lv_at hl 0 rfl) ?_
    refine va_get (D := D) (ci := 5) (v := .int (iI (P 100 6))) (C := RX6) (T := TX6) (N := 8) hx hb hts hinX6 hown hK hP 0 rfl rfl 6 (by decide) hmw0 (fun _ h9 => h9) rfl dX6_look_1 ?_
    refine k_if_ne (tgt := 48) hx hb dX6_look_4 (by decide) (by omega) (fun c_1 => ?_) (fun c_1 => ?_)
    · skip
      exact W.vret hx hb hr (fun t9 ht _ => ⟨⟨P, rfl, (by first | exact ⟨P, hl1 (by omega), look_same (by omega)⟩ | exact ⟨(P), ⟨hfg, hma, rfl, rfl⟩, rfl⟩ : ∃ (zZ : Nat → Int → Int), (figOK (mO P) zZ (P 0 0) ∧ maOK (mO P) (P 8 8) (zZ 31) (zZ 32) (zZ 33) ∧ zZ 30 3 = (mat (mO P) (P 8 8)).2.2.1 ∧ zZ 30 4 = (mat (mO P) (P 8 8)).2.2.2) ∧ (P = (upr (upr (upr (upr (upr (upr (upr (upr (upr (upr (upr (upr (upr (upr (upr (upr P 21 (zZ 21)) 22 (zZ 22)) 23 (zZ 23)) 24 (zZ 24)) 25 (zZ 25)) 26 (zZ 26)) 27 (zZ 27)) 28 (zZ 28)) 30 (zZ 30)) 31 (zZ 31)) 32 (zZ 32)) 33 (zZ 33)) 34 (zZ 34)) 35 (zZ 35)) 36 (zZ 36)) 100 (ups (P 100) 6 1)))), by rw [ht]; exact hP, hD⟩, hS.F ht⟩) hS.2.2 dX6_look_48 hlocks
    · skip
      refine lv_aload_n hx hb dX6_look_7 rfl (lv_at hl 0 rfl) ?_
      refine va_get (D := D) (ci := 5) (v := .ref (a 20)) (C := RX6) (T := TX6) (N := 8) hx hb hts hinX6 hown hK hP 0 rfl rfl 3 (by decide) hmw1 (fun _ h9 => h9) rfl dX6_look_8 ?_
      refine lv_aload_n hx hb dX6_look_11 rfl (lv_at hl 0 rfl) ?_
      refine va_get (D := D) (ci := 5) (v := .ref (a 0)) (C := RX6) (T := TX6) (N := 8) hx hb hts hinX6 hown hK hP 0 rfl rfl 0 (by decide) hmw2 (fun _ h9 => h9) rfl dX6_look_12 ?_
      have hPc := hP.sub (ws' := (fgplW cy a P)) [10, 11, 12, 13, 14, 15, 16, 17, 18, 1, 2, 3, 4, 5, 6, 7, 8, 9] rfl
      have hDc := hD.sub (ws' := (fgplW cy a P)) [10, 11, 12, 13, 14, 15, 16, 17, 18, 1, 2, 3, 4, 5, 6, 7, 8, 9] (by decide) rfl
      have hFc := va_free (wc := (fgplW cy a P)) hD hS hA [10, 11, 12, 13, 14, 15, 16, 17, 18, 1, 2, 3, 4, 5, 6, 7, 8, 9] rfl
      refine k_muv (k_runV (As := [.ref (a 0)]) (rest := []) ⟨hx, hb, hml, hown, hts⟩ (c_X1_measure l D cy H.size a P hI) gX6_look_X1_measure rfl ⟨rfl, rfl⟩ 1 rfl (by decide +kernel) ⟨Nat.le_of_ble_eq_true rfl, Nat.le_of_ble_eq_true rfl⟩ (GG_ok D cy) hG hS hFc hPc hDc (va_recv hK hP (ci := 0) (q0 := 10) rfl rfl) hl.1 rfl (Nat.le_of_ble_eq_true rfl) ⟨Nat.le_of_ble_eq_true rfl, Nat.le_of_ble_eq_true rfl⟩ dX6_look_15) hFc hS (fun R_3 H1 locs1 hR_3 hP1 hD1 hS1 hk1 => ?_)
      have hR_3 : ∃ (zf : Nat → Int → Int), (figOK (mO P) zf (P 0 0)) ∧ (R_3 = (upr (upr (upr (upr (upr (upr (upr (upr P 21 (zf 21)) 22 (zf 22)) 23 (zf 23)) 24 (zf 24)) 25 (zf 25)) 26 (zf 26)) 27 (zf 27)) 28 (zf 28))) := hR_3
      obtain ⟨zf_4, hf_5, hR_3⟩ := hR_3
      have hf_5 : figOK (mO P) zf_4 (P 0 0) := hf_5
      subst hR_3
      have hDn : va_D (va_A (oblkW cy a P) sz) (oblkW cy a (upr (upr (upr (upr (upr (upr (upr (upr P 21 (zf_4 21)) 22 (zf_4 22)) 23 (zf_4 23)) 24 (zf_4 24)) 25 (zf_4 25)) 26 (zf_4 26)) 27 (zf_4 27)) 28 (zf_4 28))) := k_addr hD rfl
      have hPn := k_join (ws' := (oblkW cy a (upr (upr (upr (upr (upr (upr (upr (upr P 21 (zf_4 21)) 22 (zf_4 22)) 23 (zf_4 23)) 24 (zf_4 24)) 25 (zf_4 25)) 26 (zf_4 26)) 27 (zf_4 27)) 28 (zf_4 28)))) hP hD [10, 11, 12, 13, 14, 15, 16, 17, 18, 1, 2, 3, 4, 5, 6, 7, 8, 9] [none, some 9, some 10, some 11, some 12, some 13, some 14, some 15, some 16, some 17, some 0, some 1, some 2, some 3, some 4, some 5, some 6, some 7, some 8, none, none, none, none, none, none, none] rfl hk1 hP1 rfl rfl
      clear hP hD hS hP1 hD1 hk1
      have hP := hPn
      have hD := hDn
      have hS := hS1
      clear hPn hDn hS1
      generalize H1 = H at hP hS ⊢
      generalize locs1 = locs at hS ⊢
      have hfg := hf_5
      refine lv_aload_n hx hb dX6_look_18 rfl (lv_at hl 0 rfl) ?_
      refine va_get (D := D) (ci := 5) (v := .ref (a 30)) (C := RX6) (T := TX6) (N := 8) hx hb hts hinX6 hown hK hP 0 rfl rfl 4 (by decide) hmw3 (fun _ h9 => h9) rfl dX6_look_19 ?_
      refine lv_aload_n hx hb dX6_look_22 rfl (lv_at hl 0 rfl) ?_
      refine va_get (D := D) (ci := 5) (v := .ref (a 0)) (C := RX6) (T := TX6) (N := 8) hx hb hts hinX6 hown hK hP 0 rfl rfl 0 (by decide) hmw2 (fun _ h9 => h9) rfl dX6_look_23 ?_
      refine lv_aload_n hx hb dX6_look_26 rfl (lv_at hl 0 rfl) ?_
      refine va_get (D := D) (ci := 5) (v := .ref (a 20)) (C := RX6) (T := TX6) (N := 8) hx hb hts hinX6 hown hK hP 0 rfl rfl 3 (by decide) hmw1 (fun _ h9 => h9) rfl dX6_look_27 ?_
      refine lv_aload_n hx hb dX6_look_30 rfl (lv_at hl 0 rfl) ?_
      refine va_get (D := D) (ci := 5) (v := .ref (a 0)) (C := RX6) (T := TX6) (N := 8) hx hb hts hinX6 hown hK hP 0 rfl rfl 0 (by decide) hmw2 (fun _ h9 => h9) rfl dX6_look_31 ?_
      refine va_get (D := D) (ci := 3) (v := .ref (a 8)) (C := RX4) (T := TX4) (N := 12) hx hb hts hinX4 hown hK hP 1 rfl rfl 11 (by decide) hmw4 (fun _ h9 => h9) rfl dX6_look_34 ?_
      refine k_bipush hx hb dX6_look_37 (by decide +kernel) ?_
      refine k_iald hx hb hK hP 9 0 (f := P 8) rfl rfl (i := 8) (by omega) dX6_look_39 ?_
      have hPc := hP.sub (ws' := (mafgplW cy a (upr (upr (upr (upr (upr (upr (upr (upr P 21 (zf_4 21)) 22 (zf_4 22)) 23 (zf_4 23)) 24 (zf_4 24)) 25 (zf_4 25)) 26 (zf_4 26)) 27 (zf_4 27)) 28 (zf_4 28)))) [19, 20, 21, 22, 23, 24, 25, 10, 11, 12, 13, 14, 15, 16, 17, 18, 1, 2, 3, 4, 5, 6, 7, 8, 9] rfl
      have hDc := hD.sub (ws' := (mafgplW cy a (upr (upr (upr (upr (upr (upr (upr (upr P 21 (zf_4 21)) 22 (zf_4 22)) 23 (zf_4 23)) 24 (zf_4 24)) 25 (zf_4 25)) 26 (zf_4 26)) 27 (zf_4 27)) 28 (zf_4 28)))) [19, 20, 21, 22, 23, 24, 25, 10, 11, 12, 13, 14, 15, 16, 17, 18, 1, 2, 3, 4, 5, 6, 7, 8, 9] (by decide) rfl
      have hFc := va_free (wc := (mafgplW cy a (upr (upr (upr (upr (upr (upr (upr (upr P 21 (zf_4 21)) 22 (zf_4 22)) 23 (zf_4 23)) 24 (zf_4 24)) 25 (zf_4 25)) 26 (zf_4 26)) 27 (zf_4 27)) 28 (zf_4 28)))) hD hS hA [19, 20, 21, 22, 23, 24, 25, 10, 11, 12, 13, 14, 15, 16, 17, 18, 1, 2, 3, 4, 5, 6, 7, 8, 9] rfl
      refine k_muv (k_runV (As := [.ref (a 0), .ref (a 20), .int (iI (P 8 8))]) (rest := []) ⟨hx, hb, hml, hown, hts⟩ (c_X3_pairUp l D cy H.size a (upr (upr (upr (upr (upr (upr (upr (upr P 21 (zf_4 21)) 22 (zf_4 22)) 23 (zf_4 23)) 24 (zf_4 24)) 25 (zf_4 25)) 26 (zf_4 26)) 27 (zf_4 27)) 28 (zf_4 28)) (P 8 8) hI (show 0 ≤ (P 8 8) ∧ (P 8 8) ≤ 359999 by omega) (show figOK (mO P) (upr (upr (upr (upr (upr (upr (upr (upr P 21 (zf_4 21)) 22 (zf_4 22)) 23 (zf_4 23)) 24 (zf_4 24)) 25 (zf_4 25)) 26 (zf_4 26)) 27 (zf_4 27)) 28 (zf_4 28)) ((P 0) 0) from hfg)) gX6_look_X3_pairUp rfl ⟨rfl, rfl⟩ 3 rfl (by decide +kernel) ⟨Nat.le_of_ble_eq_true rfl, Nat.le_of_ble_eq_true rfl⟩ (GG_ok D cy) hG hS hFc hPc hDc (va_recv hK hP (ci := 2) (q0 := 19) rfl rfl) hl.1 rfl (Nat.le_of_ble_eq_true rfl) ⟨Nat.le_of_ble_eq_true rfl, Nat.le_of_ble_eq_true rfl⟩ dX6_look_40) hFc hS (fun R_7 H1 locs1 hR_7 hP1 hD1 hS1 hk1 => ?_)
      have hR_7 : ∃ (zn : Int) (zs : Int → Int) (zt : Int → Int) (zc : Int → Int) (zp : Int → Int) (zq : Int → Int) (zr : Int → Int), (maOK (mO P) (P 8 8) zs zt zc) ∧ (R_7 = (upr (upr (upr (upr (upr (upr (upr (upr (upr (upr (upr (upr (upr (upr (upr P 21 (zf_4 21)) 22 (zf_4 22)) 23 (zf_4 23)) 24 (zf_4 24)) 25 (zf_4 25)) 26 (zf_4 26)) 27 (zf_4 27)) 28 (zf_4 28)) 30 (ups (ups (ups ((P 30)) 8 zn) 3 (mat (mO P) (P 8 8)).2.2.1) 4 (mat (mO P) (P 8 8)).2.2.2)) 31 (zs)) 32 (zt)) 33 (zc)) 34 (zp)) 35 (zq)) 36 (zr))) := hR_7
      obtain ⟨zn_8, zs_9, zt_10, zc_11, zp_12, zq_13, zr_14, hf_15, hR_7⟩ := hR_7
      have hf_15 : maOK (mO P) (P 8 8) zs_9 zt_10 zc_11 := hf_15
      subst hR_7
      have hDn : va_D (va_A (oblkW cy a P) sz) (oblkW cy a (upr (upr (upr (upr (upr (upr (upr (upr (upr (upr (upr (upr (upr (upr (upr P 21 (zf_4 21)) 22 (zf_4 22)) 23 (zf_4 23)) 24 (zf_4 24)) 25 (zf_4 25)) 26 (zf_4 26)) 27 (zf_4 27)) 28 (zf_4 28)) 30 (ups (ups (ups ((P 30)) 8 zn_8) 3 (mat (mO P) (P 8 8)).2.2.1) 4 (mat (mO P) (P 8 8)).2.2.2)) 31 (zs_9)) 32 (zt_10)) 33 (zc_11)) 34 (zp_12)) 35 (zq_13)) 36 (zr_14))) := k_addr hD rfl
      have hPn := k_join (ws' := (oblkW cy a (upr (upr (upr (upr (upr (upr (upr (upr (upr (upr (upr (upr (upr (upr (upr P 21 (zf_4 21)) 22 (zf_4 22)) 23 (zf_4 23)) 24 (zf_4 24)) 25 (zf_4 25)) 26 (zf_4 26)) 27 (zf_4 27)) 28 (zf_4 28)) 30 (ups (ups (ups ((P 30)) 8 zn_8) 3 (mat (mO P) (P 8 8)).2.2.1) 4 (mat (mO P) (P 8 8)).2.2.2)) 31 (zs_9)) 32 (zt_10)) 33 (zc_11)) 34 (zp_12)) 35 (zq_13)) 36 (zr_14)))) hP hD [19, 20, 21, 22, 23, 24, 25, 10, 11, 12, 13, 14, 15, 16, 17, 18, 1, 2, 3, 4, 5, 6, 7, 8, 9] [none, some 16, some 17, some 18, some 19, some 20, some 21, some 22, some 23, some 24, some 7, some 8, some 9, some 10, some 11, some 12, some 13, some 14, some 15, some 0, some 1, some 2, some 3, some 4, some 5, some 6] rfl hk1 hP1 rfl rfl
      clear hP hD hS hP1 hD1 hk1
      have hP := hPn
      have hD := hDn
      have hS := hS1
      clear hPn hDn hS1
      generalize H1 = H at hP hS ⊢
      generalize locs1 = locs at hS ⊢
      have hma := hf_15
      refine lv_aload_n hx hb dX6_look_43 rfl (lv_at hl 0 rfl) ?_
      refine k_iconst hx hb dX6_look_44 ?_
      refine va_put (D := D) (ci := 5) (v := .int (iI 1)) (ty := .boolean) (C := RX6) (T := TX6) (N := 8) hx hb hts hinX6 tyX6 tyX6_ok nmX6 hown hK hP hD hS 0 rfl rfl 6 (by decide) hmw0 (fun _ h9 => h9) rfl (by decide +kernel) (by decide +kernel) (by decide +kernel) (Nat.le_of_ble_eq_true rfl) dX6_look_45 (fun H locs hP hD hS => ?_)
      have hP : va_P D vwCl (oblkW cy a (upr (upr (upr (upr (upr (upr (upr (upr (upr (upr (upr (upr (upr (upr (upr (upr P 21 (zf_4 21)) 22 (zf_4 22)) 23 (zf_4 23)) 24 (zf_4 24)) 25 (zf_4 25)) 26 (zf_4 26)) 27 (zf_4 27)) 28 (zf_4 28)) 30 (ups (ups (ups ((P 30)) 8 zn_8) 3 (mat (mO P) (P 8 8)).2.2.1) 4 (mat (mO P) (P 8 8)).2.2.2)) 31 (zs_9)) 32 (zt_10)) 33 (zc_11)) 34 (zp_12)) 35 (zq_13)) 36 (zr_14)) 100 (ups (P 100) 6 1))) H := hP
      have hD : va_D (va_A (oblkW cy a P) sz) (oblkW cy a (upr (upr (upr (upr (upr (upr (upr (upr (upr (upr (upr (upr (upr (upr (upr (upr P 21 (zf_4 21)) 22 (zf_4 22)) 23 (zf_4 23)) 24 (zf_4 24)) 25 (zf_4 25)) 26 (zf_4 26)) 27 (zf_4 27)) 28 (zf_4 28)) 30 (ups (ups (ups ((P 30)) 8 zn_8) 3 (mat (mO P) (P 8 8)).2.2.1) 4 (mat (mO P) (P 8 8)).2.2.2)) 31 (zs_9)) 32 (zt_10)) 33 (zc_11)) 34 (zp_12)) 35 (zq_13)) 36 (zr_14)) 100 (ups (P 100) 6 1))) := hD
      exact W.vret hx hb hr (fun t9 ht _ => ⟨⟨(upr (upr (upr (upr (upr (upr (upr (upr (upr (upr (upr (upr (upr (upr (upr (upr P 21 (zf_4 21)) 22 (zf_4 22)) 23 (zf_4 23)) 24 (zf_4 24)) 25 (zf_4 25)) 26 (zf_4 26)) 27 (zf_4 27)) 28 (zf_4 28)) 30 (ups (ups (ups ((P 30)) 8 zn_8) 3 (mat (mO P) (P 8 8)).2.2.1) 4 (mat (mO P) (P 8 8)).2.2.2)) 31 (zs_9)) 32 (zt_10)) 33 (zc_11)) 34 (zp_12)) 35 (zq_13)) 36 (zr_14)) 100 (ups (P 100) 6 1)), rfl, (by first | exact ⟨P, hl1 (by omega), look_same (by omega)⟩ | exact ⟨((upr (upr (upr (upr (upr (upr (upr (upr (upr (upr (upr (upr (upr (upr (upr (upr P 21 (zf_4 21)) 22 (zf_4 22)) 23 (zf_4 23)) 24 (zf_4 24)) 25 (zf_4 25)) 26 (zf_4 26)) 27 (zf_4 27)) 28 (zf_4 28)) 30 (ups (ups (ups ((P 30)) 8 zn_8) 3 (mat (mO P) (P 8 8)).2.2.1) 4 (mat (mO P) (P 8 8)).2.2.2)) 31 (zs_9)) 32 (zt_10)) 33 (zc_11)) 34 (zp_12)) 35 (zq_13)) 36 (zr_14)) 100 (ups (P 100) 6 1))), ⟨hfg, hma, rfl, rfl⟩, rfl⟩ : ∃ (zZ : Nat → Int → Int), (figOK (mO P) zZ (P 0 0) ∧ maOK (mO P) (P 8 8) (zZ 31) (zZ 32) (zZ 33) ∧ zZ 30 3 = (mat (mO P) (P 8 8)).2.2.1 ∧ zZ 30 4 = (mat (mO P) (P 8 8)).2.2.2) ∧ ((upr (upr (upr (upr (upr (upr (upr (upr (upr (upr (upr (upr (upr (upr (upr (upr P 21 (zf_4 21)) 22 (zf_4 22)) 23 (zf_4 23)) 24 (zf_4 24)) 25 (zf_4 25)) 26 (zf_4 26)) 27 (zf_4 27)) 28 (zf_4 28)) 30 (ups (ups (ups ((P 30)) 8 zn_8) 3 (mat (mO P) (P 8 8)).2.2.1) 4 (mat (mO P) (P 8 8)).2.2.2)) 31 (zs_9)) 32 (zt_10)) 33 (zc_11)) 34 (zp_12)) 35 (zq_13)) 36 (zr_14)) 100 (ups (P 100) 6 1)) = (upr (upr (upr (upr (upr (upr (upr (upr (upr (upr (upr (upr (upr (upr (upr (upr P 21 (zZ 21)) 22 (zZ 22)) 23 (zZ 23)) 24 (zZ 24)) 25 (zZ 25)) 26 (zZ 26)) 27 (zZ 27)) 28 (zZ 28)) 30 (zZ 30)) 31 (zZ 31)) 32 (zZ 32)) 33 (zZ 33)) 34 (zZ 34)) 35 (zZ 35)) 36 (zZ 36)) 100 (ups (P 100) 6 1)))), by rw [ht]; exact hP, hD⟩, hS.F ht⟩) hS.2.2 dX6_look_48 hlocks
  exact hbody s.heap [] hP hS ls hl
