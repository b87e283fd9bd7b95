set_option maxHeartbeats 4000000 in
set_option maxRecDepth 100000 in
theorem c_X5_here (l : Launch) (D : va_G) (cy : Nat → ClassId) (a : Nat → Nat) (P : Nat → Int → Int)  (hpl : 0 ≤ P 10 5 ∧ P 10 5 ≤ P 10 0) (htn : P 10 0 ≤ 150) : Met l yX5_here wsX5_here { frames := 0, cells := 0, slots := 0, locals := 0 } (kPre (GG D cy) D (scW cy a P) ([.ref (a 10)] : List Value)) (kRO (fun r => ((P 10 5 < P 10 0) ∧ r = P 11 (P 10 5)) ∨ ((P 10 0 ≤ P 10 5) ∧ r = -1))) 0 0 (fun _ => False) := by
  refine kRO_start (cc := cX5_here) (maxL := 1) (ret := (some .int)) (by decide) rfl (Nat.le_of_ble_eq_true rfl) ?_
  intro p e s m below meth c hx hb hr hlocks hml hts hown hG hP ls hl
  have hK := hG.1
  have hl : lv_has ls 1 [(0, .ref (a 10))] := hl
  have hinX5 : ∀ w ∈ u_ws RX5 TX5 6, w ∈ wsX5_here := by decide +kernel
  have hmw0 := hts (.fieldLink RX5 29 "ArcPlate$Script" "at" "I") (by decide +kernel)
  have hmw1 := hts (.fieldLink RX5 9 "ArcPlate$Script" "length" "I") (by decide +kernel)
  have hmw2 := hts (.fieldLink RX5 18 "ArcPlate$Script" "text" "[B") (by decide +kernel)
  refine lv_aload_n hx hb dX5_here_0 rfl (lv_at hl 0 rfl) ?_
  refine va_get (D := D) (ci := 4) (v := .int (iI (P 10 5))) (C := RX5) (T := TX5) (N := 6) hx hb hts hinX5 hown hK hP 0 rfl rfl 5 (by decide) hmw0 (fun _ h9 => h9) rfl dX5_here_1 ?_
  refine lv_aload_n hx hb dX5_here_4 rfl (lv_at hl 0 rfl) ?_
  refine va_get (D := D) (ci := 4) (v := .int (iI (P 10 0))) (C := RX5) (T := TX5) (N := 6) hx hb hts hinX5 hown hK hP 0 rfl rfl 0 (by decide) hmw1 (fun _ h9 => h9) rfl dX5_here_5 ?_
  refine k_icmp_ge (tgt := 23) hx hb dX5_here_8 (by decide) (by omega) (by omega) (fun c_1 => ?_) (fun c_1 => ?_)
  · skip
    refine k_iconst hx hb dX5_here_23 ?_
    exact W.iret (v := iI (-1)) hx hb hr (fun t9 ht _ => ⟨(-1), rfl, (by omega : ((P 10 5 < P 10 0) ∧ ((-1) : Int) = P 11 (P 10 5)) ∨ ((P 10 0 ≤ P 10 5) ∧ ((-1) : Int) = -1)), ht⟩) (fun _ h => nomatch h) dX5_here_24 hlocks
  · skip
    refine lv_aload_n hx hb dX5_here_11 rfl (lv_at hl 0 rfl) ?_
    refine va_get (D := D) (ci := 4) (v := .ref (a 11)) (C := RX5) (T := TX5) (N := 6) hx hb hts hinX5 hown hK hP 0 rfl rfl 2 (by decide) hmw2 (fun _ h9 => h9) rfl dX5_here_12 ?_
    refine lv_aload_n hx hb dX5_here_15 rfl (lv_at hl 0 rfl) ?_
    refine va_get (D := D) (ci := 4) (v := .int (iI (P 10 5))) (C := RX5) (T := TX5) (N := 6) hx hb hts hinX5 hown hK hP 0 rfl rfl 5 (by decide) hmw0 (fun _ h9 => h9) rfl dX5_here_16 ?_
    refine k_bald hx hb hK hP 1 1 (f := P 11) rfl rfl (i := P 10 5) (by omega) dX5_here_19 ?_
    refine lv_goto (tgt := 24) hx hb dX5_here_20 (by decide) ?_
    exact W.iret (v := iI (P 11 (P 10 5))) hx hb hr (fun t9 ht _ => ⟨(P 11 (P 10 5)), rfl, (by omega : ((P 10 5 < P 10 0) ∧ (P 11 (P 10 5) : Int) = P 11 (P 10 5)) ∨ ((P 10 0 ≤ P 10 5) ∧ (P 11 (P 10 5) : Int) = -1)), ht⟩) (fun _ h => nomatch h) dX5_here_24 hlocks
set_option maxHeartbeats 4000000 in
set_option maxRecDepth 100000 in
theorem c_X5_atDigit (l : Launch) (D : va_G) (cy : Nat → ClassId) (a : Nat → Nat) (P : Nat → Int → Int)  (hpl : 0 ≤ P 10 5 ∧ P 10 5 ≤ P 10 0) (htn : P 10 0 ≤ 150) (hT : ∀ k : Int, 0 ≤ k → k < 150 → 0 ≤ P 11 k ∧ P 11 k ≤ 127) : Met l yX5_atDigit wsX5_atDigit { frames := 1, cells := 0, slots := 0, locals := 20 } (kPre (GG D cy) D (scW cy a P) ([.ref (a 10)] : List Value)) (kRO (fun r => ((P 10 5 < P 10 0 ∧ 48 ≤ P 11 (P 10 5) ∧ P 11 (P 10 5) ≤ 57) ∧ r = 1) ∨ (¬ (P 10 5 < P 10 0 ∧ 48 ≤ P 11 (P 10 5) ∧ P 11 (P 10 5) ≤ 57) ∧ r = 0))) 0 0 (fun _ => False) := by
  refine kRO_start (cc := cX5_atDigit) (maxL := 1) (ret := (some .boolean)) (by decide) rfl (Nat.le_of_ble_eq_true rfl) ?_
  intro p e s m below meth c hx hb hr hlocks hml hts hown hG hP ls hl
  have hK := hG.1
  have hl : lv_has ls 1 [(0, .ref (a 10))] := hl
  refine lv_aload_n hx hb dX5_atDigit_0 rfl (lv_at hl 0 rfl) ?_
  refine k_roV (As := []) (rest := []) ⟨hx, hb, hml, hown, hts⟩ (c_X5_here l D cy a P (show 0 ≤ P 10 5 ∧ P 10 5 ≤ P 10 0 by omega) (show P 10 0 ≤ 150 by omega)) gX5_atDigit_X5_here rfl ⟨rfl, rfl⟩ 0 rfl (by decide +kernel) ⟨Nat.le_of_ble_eq_true rfl, Nat.le_of_ble_eq_true rfl⟩ (GG_ok D cy) hG hP (va_recv hK hP (ci := 4) (q0 := 0) rfl rfl) hl.1 rfl (Nat.le_of_ble_eq_true rfl) ⟨Nat.le_of_ble_eq_true rfl, Nat.le_of_ble_eq_true rfl⟩ dX5_atDigit_1 (fun r_1 hr_1 => ?_)
  have hr_1 : ((P 10 5 < P 10 0) ∧ r_1 = P 11 (P 10 5)) ∨ ((P 10 0 ≤ P 10 5) ∧ r_1 = -1) := hr_1
  rcases hr_1 with ⟨c_2, hr_1⟩ | ⟨c_2, hr_1⟩ <;> subst hr_1
  · skip
    have hT9 := hT (P 10 5) (by omega) (by omega)
    refine k_bipush hx hb dX5_atDigit_4 (by decide +kernel) ?_
    refine k_icmp_lt (tgt := 22) hx hb dX5_atDigit_6 (by decide) (by omega) (by omega) (fun c_3 => ?_) (fun c_3 => ?_)
    · skip
      refine k_iconst hx hb dX5_atDigit_22 ?_
      exact W.zret (v := iI 0) hx hb hr (by decide +kernel) (fun t9 ht _ => ⟨0, rfl, (by first | exact Or.inl ⟨by omega, rfl⟩ | exact Or.inr ⟨by omega, rfl⟩ : ((P 10 5 < P 10 0 ∧ 48 ≤ P 11 (P 10 5) ∧ P 11 (P 10 5) ≤ 57) ∧ (0 : Int) = 1) ∨ (¬ (P 10 5 < P 10 0 ∧ 48 ≤ P 11 (P 10 5) ∧ P 11 (P 10 5) ≤ 57) ∧ (0 : Int) = 0)), ht⟩) (fun _ h => nomatch h) dX5_atDigit_23 hlocks
    · skip
      refine lv_aload_n hx hb dX5_atDigit_9 rfl (lv_at hl 0 rfl) ?_
      refine k_roV (As := []) (rest := []) ⟨hx, hb, hml, hown, hts⟩ (c_X5_here l D cy a P (show 0 ≤ P 10 5 ∧ P 10 5 ≤ P 10 0 by omega) (show P 10 0 ≤ 150 by omega)) gX5_atDigit_X5_here rfl ⟨rfl, rfl⟩ 0 rfl (by decide +kernel) ⟨Nat.le_of_ble_eq_true rfl, Nat.le_of_ble_eq_true rfl⟩ (GG_ok D cy) hG hP (va_recv hK hP (ci := 4) (q0 := 0) rfl rfl) hl.1 rfl (Nat.le_of_ble_eq_true rfl) ⟨Nat.le_of_ble_eq_true rfl, Nat.le_of_ble_eq_true rfl⟩ dX5_atDigit_10 (fun r_4 hr_4 => ?_)
      have hr_4 : ((P 10 5 < P 10 0) ∧ r_4 = P 11 (P 10 5)) ∨ ((P 10 0 ≤ P 10 5) ∧ r_4 = -1) := hr_4
      rcases hr_4 with ⟨c_5, hr_4⟩ | ⟨c_5, hr_4⟩ <;> subst hr_4
      · skip
        have hT8 := hT (P 10 5) (by omega) (by omega)
        refine k_bipush hx hb dX5_atDigit_13 (by decide +kernel) ?_
        refine k_icmp_gt (tgt := 22) hx hb dX5_atDigit_15 (by decide) (by omega) (by omega) (fun c_6 => ?_) (fun c_6 => ?_)
        · skip
          refine k_iconst hx hb dX5_atDigit_22 ?_
          exact W.zret (v := iI 0) hx hb hr (by decide +kernel) (fun t9 ht _ => ⟨0, rfl, (by first | exact Or.inl ⟨by omega, rfl⟩ | exact Or.inr ⟨by omega, rfl⟩ : ((P 10 5 < P 10 0 ∧ 48 ≤ P 11 (P 10 5) ∧ P 11 (P 10 5) ≤ 57) ∧ (0 : Int) = 1) ∨ (¬ (P 10 5 < P 10 0 ∧ 48 ≤ P 11 (P 10 5) ∧ P 11 (P 10 5) ≤ 57) ∧ (0 : Int) = 0)), ht⟩) (fun _ h => nomatch h) dX5_atDigit_23 hlocks
        · skip
          refine k_iconst hx hb dX5_atDigit_18 ?_
          refine lv_goto (tgt := 23) hx hb dX5_atDigit_19 (by decide) ?_
          exact W.zret (v := iI 1) hx hb hr (by decide +kernel) (fun t9 ht _ => ⟨1, rfl, (by first | exact Or.inl ⟨by omega, rfl⟩ | exact Or.inr ⟨by omega, rfl⟩ : ((P 10 5 < P 10 0 ∧ 48 ≤ P 11 (P 10 5) ∧ P 11 (P 10 5) ≤ 57) ∧ (1 : Int) = 1) ∨ (¬ (P 10 5 < P 10 0 ∧ 48 ≤ P 11 (P 10 5) ∧ P 11 (P 10 5) ≤ 57) ∧ (1 : Int) = 0)), ht⟩) (fun _ h => nomatch h) dX5_atDigit_23 hlocks
      · skip
        refine k_bipush hx hb dX5_atDigit_13 (by decide +kernel) ?_
        refine k_icmp_gt (tgt := 22) hx hb dX5_atDigit_15 (by decide) (by omega) (by omega) (fun c_7 => ?_) (fun c_7 => ?_)
        · exfalso; omega
        · skip
          refine k_iconst hx hb dX5_atDigit_18 ?_
          refine lv_goto (tgt := 23) hx hb dX5_atDigit_19 (by decide) ?_
          exact W.zret (v := iI 1) hx hb hr (by decide +kernel) (fun t9 ht _ => ⟨1, rfl, (by first | exact Or.inl ⟨by omega, rfl⟩ | exact Or.inr ⟨by omega, rfl⟩ : ((P 10 5 < P 10 0 ∧ 48 ≤ P 11 (P 10 5) ∧ P 11 (P 10 5) ≤ 57) ∧ (1 : Int) = 1) ∨ (¬ (P 10 5 < P 10 0 ∧ 48 ≤ P 11 (P 10 5) ∧ P 11 (P 10 5) ≤ 57) ∧ (1 : Int) = 0)), ht⟩) (fun _ h => nomatch h) dX5_atDigit_23 hlocks
  · skip
    refine k_bipush hx hb dX5_atDigit_4 (by decide +kernel) ?_
    refine k_icmp_lt (tgt := 22) hx hb dX5_atDigit_6 (by decide) (by omega) (by omega) (fun c_8 => ?_) (fun c_8 => ?_)
    · skip
      refine k_iconst hx hb dX5_atDigit_22 ?_
      exact W.zret (v := iI 0) hx hb hr (by decide +kernel) (fun t9 ht _ => ⟨0, rfl, (by first | exact Or.inl ⟨by omega, rfl⟩ | exact Or.inr ⟨by omega, rfl⟩ : ((P 10 5 < P 10 0 ∧ 48 ≤ P 11 (P 10 5) ∧ P 11 (P 10 5) ≤ 57) ∧ (0 : Int) = 1) ∨ (¬ (P 10 5 < P 10 0 ∧ 48 ≤ P 11 (P 10 5) ∧ P 11 (P 10 5) ≤ 57) ∧ (0 : Int) = 0)), ht⟩) (fun _ h => nomatch h) dX5_atDigit_23 hlocks
    · exfalso; omega
set_option maxHeartbeats 4000000 in
set_option maxRecDepth 100000 in
theorem c_X5_skipSpaces (l : Launch) (D : va_G) (cy : Nat → ClassId) (sz : Nat) (a : Nat → Nat) (P : Nat → Int → Int)  (hpl : 0 ≤ P 10 5 ∧ P 10 5 ≤ P 10 0) (htn : P 10 0 ≤ 150) (hT : ∀ k : Int, 0 ≤ k → k < 150 → 0 ≤ P 11 k ∧ P 11 k ≤ 127) : Met l yX5_skipSpaces wsX5_skipSpaces { frames := 0, cells := 0, slots := 0, locals := 0 } (mPre (GG D cy) D (scW cy a P) sz ([.ref (a 10)] : List Value)) (kQv D (scW cy a P) sz (fun u9 : Nat → Int → Int => scW cy a u9) (fun u9 => u9 = (upr P 10 (ups (P 10) 5 (skp (P 11) (P 10 0) (P 10 5)))))) 0 0 (va_A (scW cy a P) sz) := by
  refine kM_start (cc := cX5_skipSpaces) (maxL := 1) (ret := none) (by decide) rfl (Nat.le_of_ble_eq_true rfl) ?_
  intro p e s m below meth c hx hb hr hlocks hml hts hown hsz hA hG hP hD hS hin ls hl
  have hK := hG.1
  have hl : lv_has ls 1 [(0, .ref (a 10))] := hl
  have hinX5 : ∀ w ∈ u_ws RX5 TX5 6, w ∈ wsX5_skipSpaces := by decide +kernel
  have hmw0 := hts (.fieldLink RX5 29 "ArcPlate$Script" "at" "I") (by decide +kernel)
  have hmw1 := hts (.fieldLink RX5 9 "ArcPlate$Script" "length" "I") (by decide +kernel)
  have hmw2 := hts (.fieldLink RX5 18 "ArcPlate$Script" "text" "[B") (by decide +kernel)
  have hbody : ∀ (H : Heap) (locs : List Loc) (hP : va_P D vwCl (scW cy a P) H) (hS : va_S (va_A (scW cy a P) sz) s.heap H locs) (ls : Array Slot) (hl : lv_has ls 1 [(0, .ref (a 10))]), W p l e { frames := 0, cells := 0, slots := 0, locals := 0 } s m ([.ref (a 10)] : List Value).toArray below meth c H locs 0 0 (MQ below (kQv D (scW cy a P) sz (fun u9 : Nat → Int → Int => scW cy a u9) (fun u9 => u9 = (upr P 10 (ups (P 10) 5 (skp (P 11) (P 10 0) (P 10 5)))))) ([.ref (a 10)] : List Value).toArray s 0 0 (va_A (scW cy a P) sz)) (F0 m 0 ls []) := by
    intro H locs hP hS ls hl
    have loop0 : ∀ (n_1 : Nat) (q : Int) (hi0 : P 10 5 ≤ q) (hi1 : q ≤ P 10 0) (hi2 : skp (P 11) (P 10 0) q = (skp (P 11) (P 10 0) (P 10 5))) (hn : P 10 0 - q < (n_1 : Int)) (H : Heap) (locs : List Loc) (hP : va_P D vwCl (scW cy a (upr P 10 (ups (P 10) 5 q))) H) (hD : va_D (va_A (scW cy a P) sz) (scW cy a (upr P 10 (ups (P 10) 5 q)))) (hS : va_S (va_A (scW cy a P) sz) s.heap H locs) (ls : Array Slot) (hl : lv_has ls 1 [(0, .ref (a 10))]), W p l e { frames := 0, cells := 0, slots := 0, locals := 0 } s m ([.ref (a 10)] : List Value).toArray below meth c H locs 0 0 (MQ below (kQv D (scW cy a P) sz (fun u9 : Nat → Int → Int => scW cy a u9) (fun u9 => u9 = (upr P 10 (ups (P 10) 5 (skp (P 11) (P 10 0) (P 10 5)))))) ([.ref (a 10)] : List Value).toArray s 0 0 (va_A (scW cy a P) sz)) (F0 m 0 ls []) := by
      intro n_1
      induction n_1 with
      | zero => intro q hi0 hi1 hi2 hn H locs hP hD hS ls hl; exfalso; omega
      | succ n_1 ih0 =>
        intro q hi0 hi1 hi2 hn H locs hP hD hS ls hl
        refine lv_aload_n hx hb dX5_skipSpaces_0 rfl (lv_at hl 0 rfl) ?_
        refine va_get (D := D) (ci := 4) (v := .int (iI q)) (C := RX5) (T := TX5) (N := 6) hx hb hts hinX5 hown hK hP 0 rfl rfl 5 (by decide) hmw0 (fun _ h9 => h9) rfl dX5_skipSpaces_1 ?_
        refine lv_aload_n hx hb dX5_skipSpaces_4 rfl (lv_at hl 0 rfl) ?_
        refine va_get (D := D) (ci := 4) (v := .int (iI (P 10 0))) (C := RX5) (T := TX5) (N := 6) hx hb hts hinX5 hown hK hP 0 rfl rfl 0 (by decide) hmw1 (fun _ h9 => h9) rfl dX5_skipSpaces_5 ?_
        refine k_icmp_ge (tgt := 38) hx hb dX5_skipSpaces_8 (by decide) (by omega) (by omega) (fun c_2 => ?_) (fun c_2 => ?_)
        · skip
          have hex : skp (P 11) (P 10 0) q = q := skp_n (fun h9 => by omega)
          have hsk : (skp (P 11) (P 10 0) (P 10 5)) = q := by rw [← hi2]; exact hex
          exact W.vret hx hb hr (fun t9 ht _ => ⟨⟨(upr P 10 (ups (P 10) 5 q)), rfl, ((by rw [show (ups (P 10) 5 q) = (ups (P 10) 5 (skp (P 11) (P 10 0) (P 10 5))) from by rw [hsk]]) : (upr P 10 (ups (P 10) 5 q)) = (upr P 10 (ups (P 10) 5 (skp (P 11) (P 10 0) (P 10 5))))), by rw [ht]; exact hP, hD⟩, hS.F ht⟩) hS.2.2 dX5_skipSpaces_38 hlocks
        · skip
          have hT9 := hT q (by omega) (by omega)
          refine lv_aload_n hx hb dX5_skipSpaces_11 rfl (lv_at hl 0 rfl) ?_
          refine va_get (D := D) (ci := 4) (v := .ref (a 11)) (C := RX5) (T := TX5) (N := 6) hx hb hts hinX5 hown hK hP 0 rfl rfl 2 (by decide) hmw2 (fun _ h9 => h9) rfl dX5_skipSpaces_12 ?_
          refine lv_aload_n hx hb dX5_skipSpaces_15 rfl (lv_at hl 0 rfl) ?_
          refine va_get (D := D) (ci := 4) (v := .int (iI q)) (C := RX5) (T := TX5) (N := 6) hx hb hts hinX5 hown hK hP 0 rfl rfl 5 (by decide) hmw0 (fun _ h9 => h9) rfl dX5_skipSpaces_16 ?_
          refine k_bald hx hb hK hP 1 1 (f := P 11) rfl rfl (i := q) (by omega) dX5_skipSpaces_19 ?_
          refine k_bipush hx hb dX5_skipSpaces_20 (by decide +kernel) ?_
          refine k_icmp_ne (tgt := 38) hx hb dX5_skipSpaces_22 (by decide) (by omega) (by omega) (fun c_3 => ?_) (fun c_3 => ?_)
          · skip
            have hex : skp (P 11) (P 10 0) q = q := skp_n (fun h9 => by omega)
            have hsk : (skp (P 11) (P 10 0) (P 10 5)) = q := by rw [← hi2]; exact hex
            exact W.vret hx hb hr (fun t9 ht _ => ⟨⟨(upr P 10 (ups (P 10) 5 q)), rfl, ((by rw [show (ups (P 10) 5 q) = (ups (P 10) 5 (skp (P 11) (P 10 0) (P 10 5))) from by rw [hsk]]) : (upr P 10 (ups (P 10) 5 q)) = (upr P 10 (ups (P 10) 5 (skp (P 11) (P 10 0) (P 10 5))))), by rw [ht]; exact hP, hD⟩, hS.F ht⟩) hS.2.2 dX5_skipSpaces_38 hlocks
          · skip
            refine lv_aload_n hx hb dX5_skipSpaces_25 rfl (lv_at hl 0 rfl) ?_
            refine lv_dup hx hb dX5_skipSpaces_26 rfl ?_
            refine va_get (D := D) (ci := 4) (v := .int (iI q)) (C := RX5) (T := TX5) (N := 6) hx hb hts hinX5 hown hK hP 0 rfl rfl 5 (by decide) hmw0 (fun _ h9 => h9) rfl dX5_skipSpaces_27 ?_
            refine k_iconst hx hb dX5_skipSpaces_30 ?_
            refine k_iadd hx hb dX5_skipSpaces_31 ?_
            refine va_put (D := D) (ci := 4) (v := .int (iI (q + 1))) (ty := .int) (C := RX5) (T := TX5) (N := 6) hx hb hts hinX5 tyX5 tyX5_ok nmX5 hown hK hP hD hS 0 rfl rfl 5 (by decide) hmw0 (fun _ h9 => h9) rfl (by decide +kernel) rfl rfl (Nat.le_of_ble_eq_true rfl) dX5_skipSpaces_32 (fun H locs hP hD hS => ?_)
            have hP : va_P D vwCl (scW cy a (upr P 10 (ups (ups (P 10) 5 q) 5 (q + 1)))) H := hP
            have hD : va_D (va_A (scW cy a P) sz) (scW cy a (upr P 10 (ups (ups (P 10) 5 q) 5 (q + 1)))) := hD
            refine lv_goto (tgt := 0) hx hb dX5_skipSpaces_35 (by decide) ?_
            exact ih0 (q + 1)  (by omega) (by omega) ((skp_y (by omega) (by omega)).symm.trans hi2) (by omega) H locs (by rw [show (ups (P 10) 5 (q + 1)) = (ups (ups (P 10) 5 q) 5 (q + 1)) from (ups_ups _ _ _ _).symm]; exact hP) (k_addr hD rfl) hS ls (lv_sub hl [0] rfl)
    exact loop0 ((P 10 0 - (P 10 5) : Int) + 1).toNat (P 10 5)  (by omega) (by omega) (rfl) (by omega) H locs (by rw [show (ups (P 10) 5 (P 10 5)) = (P 10) from ups_self _ _]; exact hP) (k_addr hD rfl) hS ls (lv_sub hl [0] rfl)
  exact hbody s.heap [] hP hS ls hl
set_option maxHeartbeats 4000000 in
set_option maxRecDepth 100000 in
theorem c_X5_append (l : Launch) (D : va_G) (cy : Nat → ClassId) (sz : Nat) (a : Nat → Nat) (P : Nat → Int → Int) (v : Int) (hv : 0 ≤ v ∧ v ≤ 127) (hn : 0 ≤ P 10 0 ∧ P 10 0 < 150) : Met l yX5_append wsX5_append { frames := 0, cells := 0, slots := 0, locals := 0 } (mPre (GG D cy) D (scW cy a P) sz ([.ref (a 10), .int (iI v)] : List Value)) (kQi D (scW cy a P) sz (fun u9 : Nat → Int → Int => scW cy a u9) (fun r9 u9 => r9 = P 10 0 + 1 ∧ u9 = (upr (upr P 10 (ups (P 10) 0 (P 10 0 + 1))) 11 (ups (P 11) (P 10 0) v)))) 0 0 (va_A (scW cy a P) sz) := by
  refine kM_start (cc := cX5_append) (maxL := 2) (ret := (some .int)) (by decide) rfl (Nat.le_of_ble_eq_true rfl) ?_
  intro p e s m below meth c hx hb hr hlocks hml hts hown hsz hA hG hP hD hS hin ls hl
  have hK := hG.1
  have hl : lv_has ls 2 [(0, .ref (a 10)), (1, .int (iI v))] := hl
  have hinX5 : ∀ w ∈ u_ws RX5 TX5 6, w ∈ wsX5_append := by decide +kernel
  have hmw0 := hts (.fieldLink RX5 18 "ArcPlate$Script" "text" "[B") (by decide +kernel)
  have hmw1 := hts (.fieldLink RX5 9 "ArcPlate$Script" "length" "I") (by decide +kernel)
  have hbody : ∀ (H : Heap) (locs : List Loc) (hP : va_P D vwCl (scW cy a P) H) (hS : va_S (va_A (scW cy a P) sz) s.heap H locs) (ls : Array Slot) (hl : lv_has ls 2 [(0, .ref (a 10)), (1, .int (iI v))]), W p l e { frames := 0, cells := 0, slots := 0, locals := 0 } s m ([.ref (a 10), .int (iI v)] : List Value).toArray below meth c H locs 0 0 (MQ below (kQi D (scW cy a P) sz (fun u9 : Nat → Int → Int => scW cy a u9) (fun r9 u9 => r9 = P 10 0 + 1 ∧ u9 = (upr (upr P 10 (ups (P 10) 0 (P 10 0 + 1))) 11 (ups (P 11) (P 10 0) v)))) ([.ref (a 10), .int (iI v)] : List Value).toArray s 0 0 (va_A (scW cy a P) sz)) (F0 m 0 ls []) := by
    intro H locs hP hS ls hl
    refine lv_aload_n hx hb dX5_append_0 rfl (lv_at hl 0 rfl) ?_
    refine va_get (D := D) (ci := 4) (v := .ref (a 11)) (C := RX5) (T := TX5) (N := 6) hx hb hts hinX5 hown hK hP 0 rfl rfl 2 (by decide) hmw0 (fun _ h9 => h9) rfl dX5_append_1 ?_
    refine lv_aload_n hx hb dX5_append_4 rfl (lv_at hl 0 rfl) ?_
    refine va_get (D := D) (ci := 4) (v := .int (iI (P 10 0))) (C := RX5) (T := TX5) (N := 6) hx hb hts hinX5 hown hK hP 0 rfl rfl 0 (by decide) hmw1 (fun _ h9 => h9) rfl dX5_append_5 ?_
    refine lv_iload_n hx hb dX5_append_8 rfl (lv_at hl 1 rfl) ?_
    refine k_i2b hx hb dX5_append_9 (by omega) ?_
    refine k_bast hx hb hK hP hD hS 1 1 (f := P 11) rfl rfl (i := P 10 0) (x := v) (by omega) (by omega) dX5_append_10 (fun H locs hP hD hS => ?_)
    have hP : va_P D vwCl (scW cy a (upr P 11 (ups (P 11) (P 10 0) v))) H := hP
    have hD : va_D (va_A (scW cy a P) sz) (scW cy a (upr P 11 (ups (P 11) (P 10 0) v))) := hD
    refine lv_aload_n hx hb dX5_append_11 rfl (lv_at hl 0 rfl) ?_
    refine lv_dup hx hb dX5_append_12 rfl ?_
    refine va_get (D := D) (ci := 4) (v := .int (iI (P 10 0))) (C := RX5) (T := TX5) (N := 6) hx hb hts hinX5 hown hK hP 0 rfl rfl 0 (by decide) hmw1 (fun _ h9 => h9) rfl dX5_append_13 ?_
    refine k_iconst hx hb dX5_append_16 ?_
    refine k_iadd hx hb dX5_append_17 ?_
    refine va_put (D := D) (ci := 4) (v := .int (iI ((P 10 0) + 1))) (ty := .int) (C := RX5) (T := TX5) (N := 6) hx hb hts hinX5 tyX5 tyX5_ok nmX5 hown hK hP hD hS 0 rfl rfl 0 (by decide) hmw1 (fun _ h9 => h9) rfl (by decide +kernel) rfl rfl (Nat.le_of_ble_eq_true rfl) dX5_append_18 (fun H locs hP hD hS => ?_)
    have hP : va_P D vwCl (scW cy a (upr (upr P 10 (ups (P 10) 0 ((P 10 0) + 1))) 11 (ups (P 11) (P 10 0) v))) H := hP
    have hD : va_D (va_A (scW cy a P) sz) (scW cy a (upr (upr P 10 (ups (P 10) 0 ((P 10 0) + 1))) 11 (ups (P 11) (P 10 0) v))) := hD
    refine lv_aload_n hx hb dX5_append_21 rfl (lv_at hl 0 rfl) ?_
    refine va_get (D := D) (ci := 4) (v := .int (iI ((P 10 0) + 1))) (C := RX5) (T := TX5) (N := 6) hx hb hts hinX5 hown hK hP 0 rfl rfl 0 (by decide) hmw1 (fun _ h9 => h9) rfl dX5_append_22 ?_
    exact W.iret (v := iI ((P 10 0) + 1)) hx hb hr (fun t9 ht _ => ⟨⟨iI ((P 10 0) + 1), (upr (upr P 10 (ups (P 10) 0 ((P 10 0) + 1))) 11 (ups (P 11) (P 10 0) v)), rfl, ⟨((P 10 0) + 1), rfl, (⟨by first | rfl | omega, rfl⟩ : ((P 10 0) + 1 : Int) = P 10 0 + 1 ∧ (upr (upr P 10 (ups (P 10) 0 ((P 10 0) + 1))) 11 (ups (P 11) (P 10 0) v)) = (upr (upr P 10 (ups (P 10) 0 (P 10 0 + 1))) 11 (ups (P 11) (P 10 0) v)))⟩, by rw [ht]; exact hP, hD⟩, hS.F ht⟩) hS.2.2 dX5_append_25 hlocks
  exact hbody s.heap [] hP hS ls hl
set_option maxHeartbeats 4000000 in
set_option maxRecDepth 100000 in
theorem c_X5_readNumber (l : Launch) (D : va_G) (cy : Nat → ClassId) (sz : Nat) (a : Nat → Nat) (P : Nat → Int → Int) (i : Int) (hpl : 0 ≤ P 10 5 ∧ P 10 5 ≤ P 10 0) (htn : P 10 0 ≤ 150) (hT : ∀ k : Int, 0 ≤ k → k < 150 → 0 ≤ P 11 k ∧ P 11 k ≤ 127) (hi : 0 ≤ i ∧ i < 600) : Met l yX5_readNumber wsX5_readNumber { frames := 2, cells := 0, slots := 0, locals := 40 } (mPre (GG D cy) D (scW cy a P) sz ([.ref (a 10), .int (iI i)] : List Value)) (kQi D (scW cy a P) sz (fun u9 : Nat → Int → Int => scW cy a u9) (fun r9 u9 => (((skp (P 11) (P 10 0) (P 10 5)) = P 10 5) ∧ r9 = 0 ∧ u9 = P) ∨ ((P 10 5 < (skp (P 11) (P 10 0) (P 10 5)) ∧ (dgF (P 11) (P 10 0) (skp (P 11) (P 10 0) (P 10 5))) = ((skp (P 11) (P 10 0) (P 10 5)), 0)) ∧ r9 = 0 ∧ u9 = (upr P 10 (ups (P 10) 5 (skp (P 11) (P 10 0) (P 10 5))))) ∨ (∃ (dq : Int) (dv : Int), (((P 10 5 < (skp (P 11) (P 10 0) (P 10 5)) ∧ (skp (P 11) (P 10 0) (P 10 5)) < dq ∧ dq ≤ P 10 0) ∧ (dgF (P 11) (P 10 0) (skp (P 11) (P 10 0) (P 10 5))) = (dq, dv)) ∧ (dq < P 10 0 ∧ 48 ≤ P 11 dq ∧ P 11 dq ≤ 57)) ∧ r9 = 0 ∧ u9 = (upr (upr P 10 (ups (P 10) 5 dq)) 13 (ups (P 13) i dv))) ∨ (∃ (dq : Int) (dv : Int), (((P 10 5 < (skp (P 11) (P 10 0) (P 10 5)) ∧ (skp (P 11) (P 10 0) (P 10 5)) < dq ∧ dq ≤ P 10 0) ∧ (dgF (P 11) (P 10 0) (skp (P 11) (P 10 0) (P 10 5))) = (dq, dv)) ∧ ¬ (dq < P 10 0 ∧ 48 ≤ P 11 dq ∧ P 11 dq ≤ 57)) ∧ r9 = 1 ∧ u9 = (upr (upr P 10 (ups (P 10) 5 dq)) 13 (ups (P 13) i dv))))) 0 0 (va_A (scW cy a P) sz) := by
  refine kM_start (cc := cX5_readNumber) (maxL := 4) (ret := (some .boolean)) (by decide) rfl (Nat.le_of_ble_eq_true rfl) ?_
  intro p e s m below meth c hx hb hr hlocks hml hts hown hsz hA hG hP hD hS hin ls hl
  have hK := hG.1
  have hl : lv_has ls 4 [(0, .ref (a 10)), (1, .int (iI i))] := hl
  have hinX5 : ∀ w ∈ u_ws RX5 TX5 6, w ∈ wsX5_readNumber := by decide +kernel
  have hmw0 := hts (.fieldLink RX5 26 "ArcPlate$Script" "numbers" "[I") (by decide +kernel)
  have hmw1 := hts (.fieldLink RX5 29 "ArcPlate$Script" "at" "I") (by decide +kernel)
  have hsb := skp_le (T := P 11) hpl.2
  have hbody : ∀ (H : Heap) (locs : List Loc) (hP : va_P D vwCl (scW cy a P) H) (hS : va_S (va_A (scW cy a P) sz) s.heap H locs) (ls : Array Slot) (hl : lv_has ls 4 [(0, .ref (a 10)), (1, .int (iI i))]), W p l e { frames := 2, cells := 0, slots := 0, locals := 40 } s m ([.ref (a 10), .int (iI i)] : List Value).toArray below meth c H locs 0 0 (MQ below (kQi D (scW cy a P) sz (fun u9 : Nat → Int → Int => scW cy a u9) (fun r9 u9 => (((skp (P 11) (P 10 0) (P 10 5)) = P 10 5) ∧ r9 = 0 ∧ u9 = P) ∨ ((P 10 5 < (skp (P 11) (P 10 0) (P 10 5)) ∧ (dgF (P 11) (P 10 0) (skp (P 11) (P 10 0) (P 10 5))) = ((skp (P 11) (P 10 0) (P 10 5)), 0)) ∧ r9 = 0 ∧ u9 = (upr P 10 (ups (P 10) 5 (skp (P 11) (P 10 0) (P 10 5))))) ∨ (∃ (dq : Int) (dv : Int), (((P 10 5 < (skp (P 11) (P 10 0) (P 10 5)) ∧ (skp (P 11) (P 10 0) (P 10 5)) < dq ∧ dq ≤ P 10 0) ∧ (dgF (P 11) (P 10 0) (skp (P 11) (P 10 0) (P 10 5))) = (dq, dv)) ∧ (dq < P 10 0 ∧ 48 ≤ P 11 dq ∧ P 11 dq ≤ 57)) ∧ r9 = 0 ∧ u9 = (upr (upr P 10 (ups (P 10) 5 dq)) 13 (ups (P 13) i dv))) ∨ (∃ (dq : Int) (dv : Int), (((P 10 5 < (skp (P 11) (P 10 0) (P 10 5)) ∧ (skp (P 11) (P 10 0) (P 10 5)) < dq ∧ dq ≤ P 10 0) ∧ (dgF (P 11) (P 10 0) (skp (P 11) (P 10 0) (P 10 5))) = (dq, dv)) ∧ ¬ (dq < P 10 0 ∧ 48 ≤ P 11 dq ∧ P 11 dq ≤ 57)) ∧ r9 = 1 ∧ u9 = (upr (upr P 10 (ups (P 10) 5 dq)) 13 (ups (P 13) i dv))))) ([.ref (a 10), .int (iI i)] : List Value).toArray s 0 0 (va_A (scW cy a P) sz)) (F0 m 0 ls []) := by
    intro H locs hP hS ls hl
    refine lv_aload_n hx hb dX5_readNumber_0 rfl (lv_at hl 0 rfl) ?_
    refine k_roV (As := []) (rest := []) ⟨hx, hb, hml, hown, hts⟩ (c_X5_here l D cy a P (show 0 ≤ P 10 5 ∧ P 10 5 ≤ P 10 0 by omega) (show P 10 0 ≤ 150 by omega)) gX5_readNumber_X5_here rfl ⟨rfl, rfl⟩ 0 rfl (by decide +kernel) ⟨Nat.le_of_ble_eq_true rfl, Nat.le_of_ble_eq_true rfl⟩ (GG_ok D cy) ((GG_ok D cy).2.2.2 _ _ _ _ (fun _ h => h.elim) ((GG_ok D cy).1 _ _ _ _ hS.2.1 hG)) hP (va_recv hK hP (ci := 4) (q0 := 0) rfl rfl) hl.1 rfl (Nat.le_of_ble_eq_true rfl) ⟨Nat.le_of_ble_eq_true rfl, Nat.le_of_ble_eq_true rfl⟩ dX5_readNumber_1 (fun r_1 hr_1 => ?_)
    have hr_1 : ((P 10 5 < P 10 0) ∧ r_1 = P 11 (P 10 5)) ∨ ((P 10 0 ≤ P 10 5) ∧ r_1 = -1) := hr_1
    rcases hr_1 with ⟨c_2, hr_1⟩ | ⟨c_2, hr_1⟩ <;> subst hr_1
    · skip
      have hT9 := hT (P 10 5) (by omega) (by omega)
      refine k_bipush hx hb dX5_readNumber_4 (by decide +kernel) ?_
      refine k_icmp_eq (tgt := 11) hx hb dX5_readNumber_6 (by decide) (by omega) (by omega) (fun c_3 => ?_) (fun c_3 => ?_)
      · skip
        have hsy := skp_y (T := P 11) (n := P 10 0) (q := P 10 5) (by omega) (by omega)
        have hs1 := skp_le (T := P 11) (n := P 10 0) (q := P 10 5 + 1) (by omega)
        refine lv_aload_n hx hb dX5_readNumber_11 rfl (lv_at hl 0 rfl) ?_
        refine k_muv (k_runV (As := []) (rest := []) ⟨hx, hb, hml, hown, hts⟩ (c_X5_skipSpaces l D cy H.size a P (show 0 ≤ P 10 5 ∧ P 10 5 ≤ P 10 0 by omega) (show P 10 0 ≤ 150 by omega) (show ∀ k : Int, 0 ≤ k → k < 150 → 0 ≤ P 11 k ∧ P 11 k ≤ 127 by omega)) gX5_readNumber_X5_skipSpaces rfl ⟨rfl, rfl⟩ 0 rfl (by decide +kernel) ⟨Nat.le_of_ble_eq_true rfl, Nat.le_of_ble_eq_true rfl⟩ (GG_ok D cy) hG hS (k_free hD hS hA) hP hD (va_recv hK hP (ci := 4) (q0 := 0) rfl rfl) hl.1 rfl (Nat.le_of_ble_eq_true rfl) ⟨Nat.le_of_ble_eq_true rfl, Nat.le_of_ble_eq_true rfl⟩ dX5_readNumber_12) (k_free hD hS hA) hS (fun R_5 H1 locs1 hR_5 hP1 hD1 hS1 hk1 => ?_)
        have hR_5 : R_5 = (upr P 10 (ups (P 10) 5 (skp (P 11) (P 10 0) (P 10 5)))) := hR_5
        subst hR_5
        have hDn : va_D (va_A (scW cy a P) sz) (scW cy a (upr P 10 (ups (P 10) 5 (skp (P 11) (P 10 0) (P 10 5))))) := k_addr hD rfl
        have hPn : va_P D vwCl (scW cy a (upr P 10 (ups (P 10) 5 (skp (P 11) (P 10 0) (P 10 5))))) H1 := hP1
        clear hP hD hS hP1 hD1 hk1
        have hP := hPn
        have hD := hDn
        have hS := hS1
        clear hPn hDn hS1
        generalize H1 = H at hP hS ⊢
        generalize locs1 = locs at hS ⊢
        refine lv_aload_n hx hb dX5_readNumber_15 rfl (lv_at hl 0 rfl) ?_
        refine k_roV (As := []) (rest := []) ⟨hx, hb, hml, hown, hts⟩ (c_X5_atDigit l D cy a (upr P 10 (ups (P 10) 5 (skp (P 11) (P 10 0) (P 10 5)))) (show 0 ≤ (skp (P 11) (P 10 0) (P 10 5)) ∧ (skp (P 11) (P 10 0) (P 10 5)) ≤ (P 10 0) by omega) (show (P 10 0) ≤ 150 by omega) (show ∀ k : Int, 0 ≤ k → k < 150 → 0 ≤ (P 11) k ∧ (P 11) k ≤ 127 by omega)) gX5_readNumber_X5_atDigit rfl ⟨rfl, rfl⟩ 0 rfl (by decide +kernel) ⟨Nat.le_of_ble_eq_true rfl, Nat.le_of_ble_eq_true rfl⟩ (GG_ok D cy) ((GG_ok D cy).2.2.2 _ _ _ _ (fun _ h => h.elim) ((GG_ok D cy).1 _ _ _ _ hS.2.1 hG)) hP (va_recv hK hP (ci := 4) (q0 := 0) rfl rfl) hl.1 rfl (Nat.le_of_ble_eq_true rfl) ⟨Nat.le_of_ble_eq_true rfl, Nat.le_of_ble_eq_true rfl⟩ dX5_readNumber_16 (fun r_6 hr_6 => ?_)
        have hr_6 : (((skp (P 11) (P 10 0) (P 10 5)) < (P 10 0) ∧ 48 ≤ (P 11) ((skp (P 11) (P 10 0) (P 10 5))) ∧ (P 11) ((skp (P 11) (P 10 0) (P 10 5))) ≤ 57) ∧ r_6 = 1) ∨ (¬ ((skp (P 11) (P 10 0) (P 10 5)) < (P 10 0) ∧ 48 ≤ (P 11) ((skp (P 11) (P 10 0) (P 10 5))) ∧ (P 11) ((skp (P 11) (P 10 0) (P 10 5))) ≤ 57) ∧ r_6 = 0) := hr_6
        rcases hr_6 with ⟨c_7, hr_6⟩ | ⟨c_7, hr_6⟩ <;> subst hr_6
        · skip
          refine k_if_ne (tgt := 24) hx hb dX5_readNumber_19 (by decide) (by omega) (fun c_8 => ?_) (fun c_8 => ?_)
          · skip
            refine k_iconst hx hb dX5_readNumber_24 ?_
            refine lv_istore_n (lv' := [(2, .int (iI 0)), (0, .ref (a 10)), (1, .int (iI i))]) hx hb dX5_readNumber_25 rfl hl (by decide) rfl (fun ls hl => ?_)
            refine k_iconst hx hb dX5_readNumber_26 ?_
            refine lv_istore_n (lv' := [(3, .int (iI 0)), (2, .int (iI 0)), (0, .ref (a 10)), (1, .int (iI i))]) hx hb dX5_readNumber_27 rfl hl (by decide) rfl (fun ls hl => ?_)
            have loop28 : ∀ (n_9 : Nat) (q : Int) (v : Int) (x3 : Int) (hi0 : (skp (P 11) (P 10 0) (P 10 5)) ≤ q) (hi1 : q ≤ P 10 0) (hi2 : q ≤ (skp (P 11) (P 10 0) (P 10 5)) + 6) (hi3 : dgI (P 11) (P 10 0) ((skp (P 11) (P 10 0) (P 10 5)) + 6 - q).toNat q v = (dgF (P 11) (P 10 0) (skp (P 11) (P 10 0) (P 10 5)))) (hi4 : ((skp (P 11) (P 10 0) (P 10 5)) < P 10 0 ∧ 48 ≤ P 11 (skp (P 11) (P 10 0) (P 10 5)) ∧ P 11 (skp (P 11) (P 10 0) (P 10 5)) ≤ 57)) (hex3 : x3 = q - (skp (P 11) (P 10 0) (P 10 5))) (hn : P 10 0 - q < (n_9 : Int)) (H : Heap) (locs : List Loc) (hP : va_P D vwCl (scW cy a (upr P 10 (ups (P 10) 5 q))) H) (hD : va_D (va_A (scW cy a P) sz) (scW cy a (upr P 10 (ups (P 10) 5 q)))) (hS : va_S (va_A (scW cy a P) sz) s.heap H locs) (ls : Array Slot) (hl : lv_has ls 4 [(3, .int (iI x3)), (2, .int (iI v)), (0, .ref (a 10)), (1, .int (iI i))]), W p l e { frames := 2, cells := 0, slots := 0, locals := 40 } s m ([.ref (a 10), .int (iI i)] : List Value).toArray below meth c H locs 0 0 (MQ below (kQi D (scW cy a P) sz (fun u9 : Nat → Int → Int => scW cy a u9) (fun r9 u9 => (((skp (P 11) (P 10 0) (P 10 5)) = P 10 5) ∧ r9 = 0 ∧ u9 = P) ∨ ((P 10 5 < (skp (P 11) (P 10 0) (P 10 5)) ∧ (dgF (P 11) (P 10 0) (skp (P 11) (P 10 0) (P 10 5))) = ((skp (P 11) (P 10 0) (P 10 5)), 0)) ∧ r9 = 0 ∧ u9 = (upr P 10 (ups (P 10) 5 (skp (P 11) (P 10 0) (P 10 5))))) ∨ (∃ (dq : Int) (dv : Int), (((P 10 5 < (skp (P 11) (P 10 0) (P 10 5)) ∧ (skp (P 11) (P 10 0) (P 10 5)) < dq ∧ dq ≤ P 10 0) ∧ (dgF (P 11) (P 10 0) (skp (P 11) (P 10 0) (P 10 5))) = (dq, dv)) ∧ (dq < P 10 0 ∧ 48 ≤ P 11 dq ∧ P 11 dq ≤ 57)) ∧ r9 = 0 ∧ u9 = (upr (upr P 10 (ups (P 10) 5 dq)) 13 (ups (P 13) i dv))) ∨ (∃ (dq : Int) (dv : Int), (((P 10 5 < (skp (P 11) (P 10 0) (P 10 5)) ∧ (skp (P 11) (P 10 0) (P 10 5)) < dq ∧ dq ≤ P 10 0) ∧ (dgF (P 11) (P 10 0) (skp (P 11) (P 10 0) (P 10 5))) = (dq, dv)) ∧ ¬ (dq < P 10 0 ∧ 48 ≤ P 11 dq ∧ P 11 dq ≤ 57)) ∧ r9 = 1 ∧ u9 = (upr (upr P 10 (ups (P 10) 5 dq)) 13 (ups (P 13) i dv))))) ([.ref (a 10), .int (iI i)] : List Value).toArray s 0 0 (va_A (scW cy a P) sz)) (F0 m 28 ls []) := by
              intro n_9
              induction n_9 with
              | zero => intro q v x3 hi0 hi1 hi2 hi3 hi4 hex3 hn H locs hP hD hS ls hl; exfalso; omega
              | succ n_9 ih28 =>
                intro q v x3 hi0 hi1 hi2 hi3 hi4 hex3 hn H locs hP hD hS ls hl
                subst hex3
                have hqs : q = (skp (P 11) (P 10 0) (P 10 5)) ∨ (skp (P 11) (P 10 0) (P 10 5)) < q := by omega
                refine lv_iload_n hx hb dX5_readNumber_28 rfl (lv_at hl 0 rfl) ?_
                refine k_bipush hx hb dX5_readNumber_29 (by decide +kernel) ?_
                refine k_icmp_ge (tgt := 70) hx hb dX5_readNumber_31 (by decide) (by omega) (by omega) (fun c_10 => ?_) (fun c_10 => ?_)
                · skip
                  have hex : (dgF (P 11) (P 10 0) (skp (P 11) (P 10 0) (P 10 5))) = (q, v) := hi3.symm.trans (dg_n hi2 (fun h9 => by omega))
                  refine lv_aload_n hx hb dX5_readNumber_70 rfl (lv_at hl 2 rfl) ?_
                  refine va_get (D := D) (ci := 4) (v := .ref (a 13)) (C := RX5) (T := TX5) (N := 6) hx hb hts hinX5 hown hK hP 0 rfl rfl 4 (by decide) hmw0 (fun _ h9 => h9) rfl dX5_readNumber_71 ?_
                  refine lv_iload_n hx hb dX5_readNumber_74 rfl (lv_at hl 3 rfl) ?_
                  refine lv_iload_n hx hb dX5_readNumber_75 rfl (lv_at hl 1 rfl) ?_
                  refine k_iast hx hb hK hP hD hS 3 0 (f := P 13) rfl rfl (i := i) (x := v) (by omega) dX5_readNumber_76 (fun H locs hP hD hS => ?_)
                  have hP : va_P D vwCl (scW cy a (upr (upr P 10 (ups (P 10) 5 q)) 13 (ups (P 13) i v))) H := hP
                  have hD : va_D (va_A (scW cy a P) sz) (scW cy a (upr (upr P 10 (ups (P 10) 5 q)) 13 (ups (P 13) i v))) := hD
                  refine lv_aload_n hx hb dX5_readNumber_77 rfl (lv_at hl 2 rfl) ?_
                  refine k_roV (As := []) (rest := []) ⟨hx, hb, hml, hown, hts⟩ (c_X5_atDigit l D cy a (upr (upr P 10 (ups (P 10) 5 q)) 13 (ups (P 13) i v)) (show 0 ≤ q ∧ q ≤ (P 10 0) by omega) (show (P 10 0) ≤ 150 by omega) (show ∀ k : Int, 0 ≤ k → k < 150 → 0 ≤ (P 11) k ∧ (P 11) k ≤ 127 by omega)) gX5_readNumber_X5_atDigit rfl ⟨rfl, rfl⟩ 0 rfl (by decide +kernel) ⟨Nat.le_of_ble_eq_true rfl, Nat.le_of_ble_eq_true rfl⟩ (GG_ok D cy) ((GG_ok D cy).2.2.2 _ _ _ _ (fun _ h => h.elim) ((GG_ok D cy).1 _ _ _ _ hS.2.1 hG)) hP (va_recv hK hP (ci := 4) (q0 := 0) rfl rfl) hl.1 rfl (Nat.le_of_ble_eq_true rfl) ⟨Nat.le_of_ble_eq_true rfl, Nat.le_of_ble_eq_true rfl⟩ dX5_readNumber_78 (fun r_11 hr_11 => ?_)
                  have hr_11 : ((q < (P 10 0) ∧ 48 ≤ (P 11) (q) ∧ (P 11) (q) ≤ 57) ∧ r_11 = 1) ∨ (¬ (q < (P 10 0) ∧ 48 ≤ (P 11) (q) ∧ (P 11) (q) ≤ 57) ∧ r_11 = 0) := hr_11
                  rcases hr_11 with ⟨c_12, hr_11⟩ | ⟨c_12, hr_11⟩ <;> subst hr_11
                  · skip
                    refine k_if_ne (tgt := 88) hx hb dX5_readNumber_81 (by decide) (by omega) (fun c_13 => ?_) (fun c_13 => ?_)
                    · skip
                      refine k_iconst hx hb dX5_readNumber_88 ?_
                      exact W.zret (v := iI 0) hx hb hr (by decide +kernel) (fun t9 ht _ => ⟨⟨iI 0, (upr (upr P 10 (ups (P 10) 5 q)) 13 (ups (P 13) i v)), rfl, ⟨0, rfl, (by first | exact Or.inl ⟨(by first | exact hsn | exact skp_n (fun h9 => by omega)), (by first | rfl | omega), rfl⟩ | exact Or.inr (Or.inl ⟨(⟨by omega, hex⟩), (by first | rfl | omega), rfl⟩) | exact Or.inr (Or.inr (Or.inl ⟨(q), (v), (⟨⟨by omega, hex⟩, by first | assumption | omega⟩), (by first | rfl | omega), rfl⟩)) | exact Or.inr (Or.inr (Or.inr (⟨(q), (v), (⟨⟨by omega, hex⟩, by first | assumption | omega⟩), (by first | rfl | omega), rfl⟩))) : (((skp (P 11) (P 10 0) (P 10 5)) = P 10 5) ∧ (0 : Int) = 0 ∧ (upr (upr P 10 (ups (P 10) 5 q)) 13 (ups (P 13) i v)) = P) ∨ ((P 10 5 < (skp (P 11) (P 10 0) (P 10 5)) ∧ (dgF (P 11) (P 10 0) (skp (P 11) (P 10 0) (P 10 5))) = ((skp (P 11) (P 10 0) (P 10 5)), 0)) ∧ (0 : Int) = 0 ∧ (upr (upr P 10 (ups (P 10) 5 q)) 13 (ups (P 13) i v)) = (upr P 10 (ups (P 10) 5 (skp (P 11) (P 10 0) (P 10 5))))) ∨ (∃ (dq : Int) (dv : Int), (((P 10 5 < (skp (P 11) (P 10 0) (P 10 5)) ∧ (skp (P 11) (P 10 0) (P 10 5)) < dq ∧ dq ≤ P 10 0) ∧ (dgF (P 11) (P 10 0) (skp (P 11) (P 10 0) (P 10 5))) = (dq, dv)) ∧ (dq < P 10 0 ∧ 48 ≤ P 11 dq ∧ P 11 dq ≤ 57)) ∧ (0 : Int) = 0 ∧ (upr (upr P 10 (ups (P 10) 5 q)) 13 (ups (P 13) i v)) = (upr (upr P 10 (ups (P 10) 5 dq)) 13 (ups (P 13) i dv))) ∨ (∃ (dq : Int) (dv : Int), (((P 10 5 < (skp (P 11) (P 10 0) (P 10 5)) ∧ (skp (P 11) (P 10 0) (P 10 5)) < dq ∧ dq ≤ P 10 0) ∧ (dgF (P 11) (P 10 0) (skp (P 11) (P 10 0) (P 10 5))) = (dq, dv)) ∧ ¬ (dq < P 10 0 ∧ 48 ≤ P 11 dq ∧ P 11 dq ≤ 57)) ∧ (0 : Int) = 1 ∧ (upr (upr P 10 (ups (P 10) 5 q)) 13 (ups (P 13) i v)) = (upr (upr P 10 (ups (P 10) 5 dq)) 13 (ups (P 13) i dv))))⟩, by rw [ht]; exact hP, hD⟩, hS.F ht⟩) hS.2.2 dX5_readNumber_89 hlocks
                    · exfalso; omega
                  · skip
                    refine k_if_ne (tgt := 88) hx hb dX5_readNumber_81 (by decide) (by omega) (fun c_14 => ?_) (fun c_14 => ?_)
                    · exfalso; omega
                    · skip
                      refine k_iconst hx hb dX5_readNumber_84 ?_
                      refine lv_goto (tgt := 89) hx hb dX5_readNumber_85 (by decide) ?_
                      exact W.zret (v := iI 1) hx hb hr (by decide +kernel) (fun t9 ht _ => ⟨⟨iI 1, (upr (upr P 10 (ups (P 10) 5 q)) 13 (ups (P 13) i v)), rfl, ⟨1, rfl, (by first | exact Or.inl ⟨(by first | exact hsn | exact skp_n (fun h9 => by omega)), (by first | rfl | omega), rfl⟩ | exact Or.inr (Or.inl ⟨(⟨by omega, hex⟩), (by first | rfl | omega), rfl⟩) | exact Or.inr (Or.inr (Or.inl ⟨(q), (v), (⟨⟨by omega, hex⟩, by first | assumption | omega⟩), (by first | rfl | omega), rfl⟩)) | exact Or.inr (Or.inr (Or.inr (⟨(q), (v), (⟨⟨by omega, hex⟩, by first | assumption | omega⟩), (by first | rfl | omega), rfl⟩))) : (((skp (P 11) (P 10 0) (P 10 5)) = P 10 5) ∧ (1 : Int) = 0 ∧ (upr (upr P 10 (ups (P 10) 5 q)) 13 (ups (P 13) i v)) = P) ∨ ((P 10 5 < (skp (P 11) (P 10 0) (P 10 5)) ∧ (dgF (P 11) (P 10 0) (skp (P 11) (P 10 0) (P 10 5))) = ((skp (P 11) (P 10 0) (P 10 5)), 0)) ∧ (1 : Int) = 0 ∧ (upr (upr P 10 (ups (P 10) 5 q)) 13 (ups (P 13) i v)) = (upr P 10 (ups (P 10) 5 (skp (P 11) (P 10 0) (P 10 5))))) ∨ (∃ (dq : Int) (dv : Int), (((P 10 5 < (skp (P 11) (P 10 0) (P 10 5)) ∧ (skp (P 11) (P 10 0) (P 10 5)) < dq ∧ dq ≤ P 10 0) ∧ (dgF (P 11) (P 10 0) (skp (P 11) (P 10 0) (P 10 5))) = (dq, dv)) ∧ (dq < P 10 0 ∧ 48 ≤ P 11 dq ∧ P 11 dq ≤ 57)) ∧ (1 : Int) = 0 ∧ (upr (upr P 10 (ups (P 10) 5 q)) 13 (ups (P 13) i v)) = (upr (upr P 10 (ups (P 10) 5 dq)) 13 (ups (P 13) i dv))) ∨ (∃ (dq : Int) (dv : Int), (((P 10 5 < (skp (P 11) (P 10 0) (P 10 5)) ∧ (skp (P 11) (P 10 0) (P 10 5)) < dq ∧ dq ≤ P 10 0) ∧ (dgF (P 11) (P 10 0) (skp (P 11) (P 10 0) (P 10 5))) = (dq, dv)) ∧ ¬ (dq < P 10 0 ∧ 48 ≤ P 11 dq ∧ P 11 dq ≤ 57)) ∧ (1 : Int) = 1 ∧ (upr (upr P 10 (ups (P 10) 5 q)) 13 (ups (P 13) i v)) = (upr (upr P 10 (ups (P 10) 5 dq)) 13 (ups (P 13) i dv))))⟩, by rw [ht]; exact hP, hD⟩, hS.F ht⟩) hS.2.2 dX5_readNumber_89 hlocks
                · skip
                  refine lv_aload_n hx hb dX5_readNumber_34 rfl (lv_at hl 2 rfl) ?_
                  refine k_roV (As := []) (rest := []) ⟨hx, hb, hml, hown, hts⟩ (c_X5_atDigit l D cy a (upr P 10 (ups (P 10) 5 q)) (show 0 ≤ q ∧ q ≤ (P 10 0) by omega) (show (P 10 0) ≤ 150 by omega) (show ∀ k : Int, 0 ≤ k → k < 150 → 0 ≤ (P 11) k ∧ (P 11) k ≤ 127 by omega)) gX5_readNumber_X5_atDigit rfl ⟨rfl, rfl⟩ 0 rfl (by decide +kernel) ⟨Nat.le_of_ble_eq_true rfl, Nat.le_of_ble_eq_true rfl⟩ (GG_ok D cy) ((GG_ok D cy).2.2.2 _ _ _ _ (fun _ h => h.elim) ((GG_ok D cy).1 _ _ _ _ hS.2.1 hG)) hP (va_recv hK hP (ci := 4) (q0 := 0) rfl rfl) hl.1 rfl (Nat.le_of_ble_eq_true rfl) ⟨Nat.le_of_ble_eq_true rfl, Nat.le_of_ble_eq_true rfl⟩ dX5_readNumber_35 (fun r_15 hr_15 => ?_)
                  have hr_15 : ((q < (P 10 0) ∧ 48 ≤ (P 11) (q) ∧ (P 11) (q) ≤ 57) ∧ r_15 = 1) ∨ (¬ (q < (P 10 0) ∧ 48 ≤ (P 11) (q) ∧ (P 11) (q) ≤ 57) ∧ r_15 = 0) := hr_15
                  rcases hr_15 with ⟨c_16, hr_15⟩ | ⟨c_16, hr_15⟩ <;> subst hr_15
                  · skip
                    refine k_if_eq (tgt := 70) hx hb dX5_readNumber_38 (by decide) (by omega) (fun c_17 => ?_) (fun c_17 => ?_)
                    · exfalso; omega
                    · skip
                      refine k_bipush hx hb dX5_readNumber_41 (by decide +kernel) ?_
                      refine lv_iload_n hx hb dX5_readNumber_43 rfl (lv_at hl 1 rfl) ?_
                      refine k_imul hx hb dX5_readNumber_44 ?_
                      refine lv_aload_n hx hb dX5_readNumber_45 rfl (lv_at hl 2 rfl) ?_
                      refine k_roV (As := []) (rest := [.int (iI (10 * v))]) ⟨hx, hb, hml, hown, hts⟩ (c_X5_here l D cy a (upr P 10 (ups (P 10) 5 q)) (show 0 ≤ q ∧ q ≤ (P 10 0) by omega) (show (P 10 0) ≤ 150 by omega)) gX5_readNumber_X5_here rfl ⟨rfl, rfl⟩ 0 rfl (by decide +kernel) ⟨Nat.le_of_ble_eq_true rfl, Nat.le_of_ble_eq_true rfl⟩ (GG_ok D cy) ((GG_ok D cy).2.2.2 _ _ _ _ (fun _ h => h.elim) ((GG_ok D cy).1 _ _ _ _ hS.2.1 hG)) hP (va_recv hK hP (ci := 4) (q0 := 0) rfl rfl) hl.1 rfl (Nat.le_of_ble_eq_true rfl) ⟨Nat.le_of_ble_eq_true rfl, Nat.le_of_ble_eq_true rfl⟩ dX5_readNumber_46 (fun r_18 hr_18 => ?_)
                      have hr_18 : ((q < (P 10 0)) ∧ r_18 = (P 11) (q)) ∨ (((P 10 0) ≤ q) ∧ r_18 = -1) := hr_18
                      rcases hr_18 with ⟨c_19, hr_18⟩ | ⟨c_19, hr_18⟩ <;> subst hr_18
                      · skip
                        refine k_iadd hx hb dX5_readNumber_49 ?_
                        refine k_bipush hx hb dX5_readNumber_50 (by decide +kernel) ?_
                        refine k_isub hx hb dX5_readNumber_52 ?_
                        refine lv_istore_n (lv' := [(2, .int (iI (((10 * v) + ((P 11) (q))) - 48))), (3, .int (iI (q - (skp (P 11) (P 10 0) (P 10 5))))), (0, .ref (a 10)), (1, .int (iI i))]) hx hb dX5_readNumber_53 rfl hl (by decide) rfl (fun ls hl => ?_)
                        refine lv_aload_n hx hb dX5_readNumber_54 rfl (lv_at hl 2 rfl) ?_
                        refine lv_dup hx hb dX5_readNumber_55 rfl ?_
                        refine va_get (D := D) (ci := 4) (v := .int (iI q)) (C := RX5) (T := TX5) (N := 6) hx hb hts hinX5 hown hK hP 0 rfl rfl 5 (by decide) hmw1 (fun _ h9 => h9) rfl dX5_readNumber_56 ?_
                        refine k_iconst hx hb dX5_readNumber_59 ?_
                        refine k_iadd hx hb dX5_readNumber_60 ?_
                        refine va_put (D := D) (ci := 4) (v := .int (iI (q + 1))) (ty := .int) (C := RX5) (T := TX5) (N := 6) hx hb hts hinX5 tyX5 tyX5_ok nmX5 hown hK hP hD hS 0 rfl rfl 5 (by decide) hmw1 (fun _ h9 => h9) rfl (by decide +kernel) rfl rfl (Nat.le_of_ble_eq_true rfl) dX5_readNumber_61 (fun H locs hP hD hS => ?_)
                        have hP : va_P D vwCl (scW cy a (upr P 10 (ups (ups (P 10) 5 q) 5 (q + 1)))) H := hP
                        have hD : va_D (va_A (scW cy a P) sz) (scW cy a (upr P 10 (ups (ups (P 10) 5 q) 5 (q + 1)))) := hD
                        refine lv_iinc (v := iI ((q - (skp (P 11) (P 10 0) (P 10 5))) + 1)) (lv' := [(3, .int (iI ((q - (skp (P 11) (P 10 0) (P 10 5))) + 1))), (2, .int (iI (((10 * v) + ((P 11) (q))) - 48))), (0, .ref (a 10)), (1, .int (iI i))]) hx hb dX5_readNumber_64 hl (k := 1) rfl (iI_add _ _) (by decide) rfl (fun ls hl => ?_)
                        refine lv_goto (tgt := 28) hx hb dX5_readNumber_67 (by decide) ?_
                        exact ih28 (q + 1) (((10 * v) + ((P 11) (q))) - 48) ((q - (skp (P 11) (P 10 0) (P 10 5))) + 1) (by omega) (by omega) (by omega) ((dg_y (by omega) (by omega) (by omega)).symm.trans hi3) (by omega) (by first | rfl | omega) (by omega) H locs (by rw [show (ups (P 10) 5 (q + 1)) = (ups (ups (P 10) 5 q) 5 (q + 1)) from (ups_ups _ _ _ _).symm]; exact hP) (k_addr hD rfl) hS ls (lv_sub hl [0, 1, 2, 3] rfl)
                      · exfalso; omega
                  · skip
                    have hnd := c_16
                    have hlt : (skp (P 11) (P 10 0) (P 10 5)) < q := by rcases hqs with h9 | h9; exact absurd (by rw [h9]; exact hi4) hnd; exact h9
                    have hex : (dgF (P 11) (P 10 0) (skp (P 11) (P 10 0) (P 10 5))) = (q, v) := hi3.symm.trans (dg_n hi2 (fun h9 => by omega))
                    refine k_if_eq (tgt := 70) hx hb dX5_readNumber_38 (by decide) (by omega) (fun c_20 => ?_) (fun c_20 => ?_)
                    · skip
                      refine lv_aload_n hx hb dX5_readNumber_70 rfl (lv_at hl 2 rfl) ?_
                      refine va_get (D := D) (ci := 4) (v := .ref (a 13)) (C := RX5) (T := TX5) (N := 6) hx hb hts hinX5 hown hK hP 0 rfl rfl 4 (by decide) hmw0 (fun _ h9 => h9) rfl dX5_readNumber_71 ?_
                      refine lv_iload_n hx hb dX5_readNumber_74 rfl (lv_at hl 3 rfl) ?_
                      refine lv_iload_n hx hb dX5_readNumber_75 rfl (lv_at hl 1 rfl) ?_
                      refine k_iast hx hb hK hP hD hS 3 0 (f := P 13) rfl rfl (i := i) (x := v) (by omega) dX5_readNumber_76 (fun H locs hP hD hS => ?_)
                      have hP : va_P D vwCl (scW cy a (upr (upr P 10 (ups (P 10) 5 q)) 13 (ups (P 13) i v))) H := hP
                      have hD : va_D (va_A (scW cy a P) sz) (scW cy a (upr (upr P 10 (ups (P 10) 5 q)) 13 (ups (P 13) i v))) := hD
                      refine lv_aload_n hx hb dX5_readNumber_77 rfl (lv_at hl 2 rfl) ?_
                      refine k_roV (As := []) (rest := []) ⟨hx, hb, hml, hown, hts⟩ (c_X5_atDigit l D cy a (upr (upr P 10 (ups (P 10) 5 q)) 13 (ups (P 13) i v)) (show 0 ≤ q ∧ q ≤ (P 10 0) by omega) (show (P 10 0) ≤ 150 by omega) (show ∀ k : Int, 0 ≤ k → k < 150 → 0 ≤ (P 11) k ∧ (P 11) k ≤ 127 by omega)) gX5_readNumber_X5_atDigit rfl ⟨rfl, rfl⟩ 0 rfl (by decide +kernel) ⟨Nat.le_of_ble_eq_true rfl, Nat.le_of_ble_eq_true rfl⟩ (GG_ok D cy) ((GG_ok D cy).2.2.2 _ _ _ _ (fun _ h => h.elim) ((GG_ok D cy).1 _ _ _ _ hS.2.1 hG)) hP (va_recv hK hP (ci := 4) (q0 := 0) rfl rfl) hl.1 rfl (Nat.le_of_ble_eq_true rfl) ⟨Nat.le_of_ble_eq_true rfl, Nat.le_of_ble_eq_true rfl⟩ dX5_readNumber_78 (fun r_21 hr_21 => ?_)
                      have hr_21 : ((q < (P 10 0) ∧ 48 ≤ (P 11) (q) ∧ (P 11) (q) ≤ 57) ∧ r_21 = 1) ∨ (¬ (q < (P 10 0) ∧ 48 ≤ (P 11) (q) ∧ (P 11) (q) ≤ 57) ∧ r_21 = 0) := hr_21
                      rcases hr_21 with ⟨c_22, hr_21⟩ | ⟨c_22, hr_21⟩ <;> subst hr_21
                      · skip
                        refine k_if_ne (tgt := 88) hx hb dX5_readNumber_81 (by decide) (by omega) (fun c_23 => ?_) (fun c_23 => ?_)
                        · skip
                          refine k_iconst hx hb dX5_readNumber_88 ?_
                          exact W.zret (v := iI 0) hx hb hr (by decide +kernel) (fun t9 ht _ => ⟨⟨iI 0, (upr (upr P 10 (ups (P 10) 5 q)) 13 (ups (P 13) i v)), rfl, ⟨0, rfl, (by first | exact Or.inl ⟨(by first | exact hsn | exact skp_n (fun h9 => by omega)), (by first | rfl | omega), rfl⟩ | exact Or.inr (Or.inl ⟨(⟨by omega, hex⟩), (by first | rfl | omega), rfl⟩) | exact Or.inr (Or.inr (Or.inl ⟨(q), (v), (⟨⟨by omega, hex⟩, by first | assumption | omega⟩), (by first | rfl | omega), rfl⟩)) | exact Or.inr (Or.inr (Or.inr (⟨(q), (v), (⟨⟨by omega, hex⟩, by first | assumption | omega⟩), (by first | rfl | omega), rfl⟩))) : (((skp (P 11) (P 10 0) (P 10 5)) = P 10 5) ∧ (0 : Int) = 0 ∧ (upr (upr P 10 (ups (P 10) 5 q)) 13 (ups (P 13) i v)) = P) ∨ ((P 10 5 < (skp (P 11) (P 10 0) (P 10 5)) ∧ (dgF (P 11) (P 10 0) (skp (P 11) (P 10 0) (P 10 5))) = ((skp (P 11) (P 10 0) (P 10 5)), 0)) ∧ (0 : Int) = 0 ∧ (upr (upr P 10 (ups (P 10) 5 q)) 13 (ups (P 13) i v)) = (upr P 10 (ups (P 10) 5 (skp (P 11) (P 10 0) (P 10 5))))) ∨ (∃ (dq : Int) (dv : Int), (((P 10 5 < (skp (P 11) (P 10 0) (P 10 5)) ∧ (skp (P 11) (P 10 0) (P 10 5)) < dq ∧ dq ≤ P 10 0) ∧ (dgF (P 11) (P 10 0) (skp (P 11) (P 10 0) (P 10 5))) = (dq, dv)) ∧ (dq < P 10 0 ∧ 48 ≤ P 11 dq ∧ P 11 dq ≤ 57)) ∧ (0 : Int) = 0 ∧ (upr (upr P 10 (ups (P 10) 5 q)) 13 (ups (P 13) i v)) = (upr (upr P 10 (ups (P 10) 5 dq)) 13 (ups (P 13) i dv))) ∨ (∃ (dq : Int) (dv : Int), (((P 10 5 < (skp (P 11) (P 10 0) (P 10 5)) ∧ (skp (P 11) (P 10 0) (P 10 5)) < dq ∧ dq ≤ P 10 0) ∧ (dgF (P 11) (P 10 0) (skp (P 11) (P 10 0) (P 10 5))) = (dq, dv)) ∧ ¬ (dq < P 10 0 ∧ 48 ≤ P 11 dq ∧ P 11 dq ≤ 57)) ∧ (0 : Int) = 1 ∧ (upr (upr P 10 (ups (P 10) 5 q)) 13 (ups (P 13) i v)) = (upr (upr P 10 (ups (P 10) 5 dq)) 13 (ups (P 13) i dv))))⟩, by rw [ht]; exact hP, hD⟩, hS.F ht⟩) hS.2.2 dX5_readNumber_89 hlocks
                        · exfalso; omega
                      · skip
                        refine k_if_ne (tgt := 88) hx hb dX5_readNumber_81 (by decide) (by omega) (fun c_24 => ?_) (fun c_24 => ?_)
                        · exfalso; omega
                        · skip
                          refine k_iconst hx hb dX5_readNumber_84 ?_
                          refine lv_goto (tgt := 89) hx hb dX5_readNumber_85 (by decide) ?_
                          exact W.zret (v := iI 1) hx hb hr (by decide +kernel) (fun t9 ht _ => ⟨⟨iI 1, (upr (upr P 10 (ups (P 10) 5 q)) 13 (ups (P 13) i v)), rfl, ⟨1, rfl, (by first | exact Or.inl ⟨(by first | exact hsn | exact skp_n (fun h9 => by omega)), (by first | rfl | omega), rfl⟩ | exact Or.inr (Or.inl ⟨(⟨by omega, hex⟩), (by first | rfl | omega), rfl⟩) | exact Or.inr (Or.inr (Or.inl ⟨(q), (v), (⟨⟨by omega, hex⟩, by first | assumption | omega⟩), (by first | rfl | omega), rfl⟩)) | exact Or.inr (Or.inr (Or.inr (⟨(q), (v), (⟨⟨by omega, hex⟩, by first | assumption | omega⟩), (by first | rfl | omega), rfl⟩))) : (((skp (P 11) (P 10 0) (P 10 5)) = P 10 5) ∧ (1 : Int) = 0 ∧ (upr (upr P 10 (ups (P 10) 5 q)) 13 (ups (P 13) i v)) = P) ∨ ((P 10 5 < (skp (P 11) (P 10 0) (P 10 5)) ∧ (dgF (P 11) (P 10 0) (skp (P 11) (P 10 0) (P 10 5))) = ((skp (P 11) (P 10 0) (P 10 5)), 0)) ∧ (1 : Int) = 0 ∧ (upr (upr P 10 (ups (P 10) 5 q)) 13 (ups (P 13) i v)) = (upr P 10 (ups (P 10) 5 (skp (P 11) (P 10 0) (P 10 5))))) ∨ (∃ (dq : Int) (dv : Int), (((P 10 5 < (skp (P 11) (P 10 0) (P 10 5)) ∧ (skp (P 11) (P 10 0) (P 10 5)) < dq ∧ dq ≤ P 10 0) ∧ (dgF (P 11) (P 10 0) (skp (P 11) (P 10 0) (P 10 5))) = (dq, dv)) ∧ (dq < P 10 0 ∧ 48 ≤ P 11 dq ∧ P 11 dq ≤ 57)) ∧ (1 : Int) = 0 ∧ (upr (upr P 10 (ups (P 10) 5 q)) 13 (ups (P 13) i v)) = (upr (upr P 10 (ups (P 10) 5 dq)) 13 (ups (P 13) i dv))) ∨ (∃ (dq : Int) (dv : Int), (((P 10 5 < (skp (P 11) (P 10 0) (P 10 5)) ∧ (skp (P 11) (P 10 0) (P 10 5)) < dq ∧ dq ≤ P 10 0) ∧ (dgF (P 11) (P 10 0) (skp (P 11) (P 10 0) (P 10 5))) = (dq, dv)) ∧ ¬ (dq < P 10 0 ∧ 48 ≤ P 11 dq ∧ P 11 dq ≤ 57)) ∧ (1 : Int) = 1 ∧ (upr (upr P 10 (ups (P 10) 5 q)) 13 (ups (P 13) i v)) = (upr (upr P 10 (ups (P 10) 5 dq)) 13 (ups (P 13) i dv))))⟩, by rw [ht]; exact hP, hD⟩, hS.F ht⟩) hS.2.2 dX5_readNumber_89 hlocks
                    · exfalso; omega
            exact loop28 ((P 10 0 - (skp (P 11) (P 10 0) (P 10 5)) : Int) + 1).toNat (skp (P 11) (P 10 0) (P 10 5)) 0 0 (by omega) (by omega) (by omega) (dg_0 _ _ _) (by omega) (by first | rfl | omega) (by omega) H locs (hP) (k_addr hD rfl) hS ls (lv_sub hl [0, 1, 2, 3] rfl)
          · exfalso; omega
        · skip
          have hex : (dgF (P 11) (P 10 0) (skp (P 11) (P 10 0) (P 10 5))) = ((skp (P 11) (P 10 0) (P 10 5)), 0) := (dg_0 _ _ _).symm.trans (dg_n (by omega) (fun h9 => by omega))
          refine k_if_ne (tgt := 24) hx hb dX5_readNumber_19 (by decide) (by omega) (fun c_25 => ?_) (fun c_25 => ?_)
          · exfalso; omega
          · skip
            refine k_iconst hx hb dX5_readNumber_22 ?_
            exact W.zret (v := iI 0) hx hb hr (by decide +kernel) (fun t9 ht _ => ⟨⟨iI 0, (upr P 10 (ups (P 10) 5 (skp (P 11) (P 10 0) (P 10 5)))), rfl, ⟨0, rfl, (by first | exact Or.inr (Or.inl ⟨(⟨by omega, hex⟩), (by first | rfl | omega), rfl⟩) : (((skp (P 11) (P 10 0) (P 10 5)) = P 10 5) ∧ (0 : Int) = 0 ∧ (upr P 10 (ups (P 10) 5 (skp (P 11) (P 10 0) (P 10 5)))) = P) ∨ ((P 10 5 < (skp (P 11) (P 10 0) (P 10 5)) ∧ (dgF (P 11) (P 10 0) (skp (P 11) (P 10 0) (P 10 5))) = ((skp (P 11) (P 10 0) (P 10 5)), 0)) ∧ (0 : Int) = 0 ∧ (upr P 10 (ups (P 10) 5 (skp (P 11) (P 10 0) (P 10 5)))) = (upr P 10 (ups (P 10) 5 (skp (P 11) (P 10 0) (P 10 5))))) ∨ (∃ (dq : Int) (dv : Int), (((P 10 5 < (skp (P 11) (P 10 0) (P 10 5)) ∧ (skp (P 11) (P 10 0) (P 10 5)) < dq ∧ dq ≤ P 10 0) ∧ (dgF (P 11) (P 10 0) (skp (P 11) (P 10 0) (P 10 5))) = (dq, dv)) ∧ (dq < P 10 0 ∧ 48 ≤ P 11 dq ∧ P 11 dq ≤ 57)) ∧ (0 : Int) = 0 ∧ (upr P 10 (ups (P 10) 5 (skp (P 11) (P 10 0) (P 10 5)))) = (upr (upr P 10 (ups (P 10) 5 dq)) 13 (ups (P 13) i dv))) ∨ (∃ (dq : Int) (dv : Int), (((P 10 5 < (skp (P 11) (P 10 0) (P 10 5)) ∧ (skp (P 11) (P 10 0) (P 10 5)) < dq ∧ dq ≤ P 10 0) ∧ (dgF (P 11) (P 10 0) (skp (P 11) (P 10 0) (P 10 5))) = (dq, dv)) ∧ ¬ (dq < P 10 0 ∧ 48 ≤ P 11 dq ∧ P 11 dq ≤ 57)) ∧ (0 : Int) = 1 ∧ (upr P 10 (ups (P 10) 5 (skp (P 11) (P 10 0) (P 10 5)))) = (upr (upr P 10 (ups (P 10) 5 dq)) 13 (ups (P 13) i dv))))⟩, by rw [ht]; exact hP, hD⟩, hS.F ht⟩) hS.2.2 dX5_readNumber_23 hlocks
      · skip
        have hsn : (skp (P 11) (P 10 0) (P 10 5)) = P 10 5 := skp_n (fun h9 => by omega)
        refine k_iconst hx hb dX5_readNumber_9 ?_
        exact W.zret (v := iI 0) hx hb hr (by decide +kernel) (fun t9 ht _ => ⟨⟨iI 0, P, rfl, ⟨0, rfl, (by first | exact Or.inl ⟨(by first | exact hsn | exact skp_n (fun h9 => by omega)), (by first | rfl | omega), rfl⟩ : (((skp (P 11) (P 10 0) (P 10 5)) = P 10 5) ∧ (0 : Int) = 0 ∧ P = P) ∨ ((P 10 5 < (skp (P 11) (P 10 0) (P 10 5)) ∧ (dgF (P 11) (P 10 0) (skp (P 11) (P 10 0) (P 10 5))) = ((skp (P 11) (P 10 0) (P 10 5)), 0)) ∧ (0 : Int) = 0 ∧ P = (upr P 10 (ups (P 10) 5 (skp (P 11) (P 10 0) (P 10 5))))) ∨ (∃ (dq : Int) (dv : Int), (((P 10 5 < (skp (P 11) (P 10 0) (P 10 5)) ∧ (skp (P 11) (P 10 0) (P 10 5)) < dq ∧ dq ≤ P 10 0) ∧ (dgF (P 11) (P 10 0) (skp (P 11) (P 10 0) (P 10 5))) = (dq, dv)) ∧ (dq < P 10 0 ∧ 48 ≤ P 11 dq ∧ P 11 dq ≤ 57)) ∧ (0 : Int) = 0 ∧ P = (upr (upr P 10 (ups (P 10) 5 dq)) 13 (ups (P 13) i dv))) ∨ (∃ (dq : Int) (dv : Int), (((P 10 5 < (skp (P 11) (P 10 0) (P 10 5)) ∧ (skp (P 11) (P 10 0) (P 10 5)) < dq ∧ dq ≤ P 10 0) ∧ (dgF (P 11) (P 10 0) (skp (P 11) (P 10 0) (P 10 5))) = (dq, dv)) ∧ ¬ (dq < P 10 0 ∧ 48 ≤ P 11 dq ∧ P 11 dq ≤ 57)) ∧ (0 : Int) = 1 ∧ P = (upr (upr P 10 (ups (P 10) 5 dq)) 13 (ups (P 13) i dv))))⟩, by rw [ht]; exact hP, hD⟩, hS.F ht⟩) hS.2.2 dX5_readNumber_10 hlocks
    · skip
      refine k_bipush hx hb dX5_readNumber_4 (by decide +kernel) ?_
      refine k_icmp_eq (tgt := 11) hx hb dX5_readNumber_6 (by decide) (by omega) (by omega) (fun c_26 => ?_) (fun c_26 => ?_)
      · exfalso; omega
      · skip
        have hsn : (skp (P 11) (P 10 0) (P 10 5)) = P 10 5 := skp_n (fun h9 => by omega)
        refine k_iconst hx hb dX5_readNumber_9 ?_
        exact W.zret (v := iI 0) hx hb hr (by decide +kernel) (fun t9 ht _ => ⟨⟨iI 0, P, rfl, ⟨0, rfl, (by first | exact Or.inl ⟨(by first | exact hsn | exact skp_n (fun h9 => by omega)), (by first | rfl | omega), rfl⟩ : (((skp (P 11) (P 10 0) (P 10 5)) = P 10 5) ∧ (0 : Int) = 0 ∧ P = P) ∨ ((P 10 5 < (skp (P 11) (P 10 0) (P 10 5)) ∧ (dgF (P 11) (P 10 0) (skp (P 11) (P 10 0) (P 10 5))) = ((skp (P 11) (P 10 0) (P 10 5)), 0)) ∧ (0 : Int) = 0 ∧ P = (upr P 10 (ups (P 10) 5 (skp (P 11) (P 10 0) (P 10 5))))) ∨ (∃ (dq : Int) (dv : Int), (((P 10 5 < (skp (P 11) (P 10 0) (P 10 5)) ∧ (skp (P 11) (P 10 0) (P 10 5)) < dq ∧ dq ≤ P 10 0) ∧ (dgF (P 11) (P 10 0) (skp (P 11) (P 10 0) (P 10 5))) = (dq, dv)) ∧ (dq < P 10 0 ∧ 48 ≤ P 11 dq ∧ P 11 dq ≤ 57)) ∧ (0 : Int) = 0 ∧ P = (upr (upr P 10 (ups (P 10) 5 dq)) 13 (ups (P 13) i dv))) ∨ (∃ (dq : Int) (dv : Int), (((P 10 5 < (skp (P 11) (P 10 0) (P 10 5)) ∧ (skp (P 11) (P 10 0) (P 10 5)) < dq ∧ dq ≤ P 10 0) ∧ (dgF (P 11) (P 10 0) (skp (P 11) (P 10 0) (P 10 5))) = (dq, dv)) ∧ ¬ (dq < P 10 0 ∧ 48 ≤ P 11 dq ∧ P 11 dq ≤ 57)) ∧ (0 : Int) = 1 ∧ P = (upr (upr P 10 (ups (P 10) 5 dq)) 13 (ups (P 13) i dv))))⟩, by rw [ht]; exact hP, hD⟩, hS.F ht⟩) hS.2.2 dX5_readNumber_10 hlocks
  exact hbody s.heap [] hP hS ls hl
set_option maxHeartbeats 4000000 in
set_option maxRecDepth 100000 in
theorem c_X5_isWord (l : Launch) (D : va_G) (cy : Nat → ClassId) (a : Nat → Nat) (P : Nat → Int → Int) (q : Nat) (L : List Int) (s9 e9 : Int) (hT : ∀ k : Int, 0 ≤ k → k < 150 → 0 ≤ P 11 k ∧ P 11 k ≤ 127) (hs : 0 ≤ s9 ∧ s9 ≤ e9) (he : e9 ≤ 150) (hLn : L.length ≤ 10) (hLb : ∀ i : Int, 0 ≤ i → i < (L.length : Int) → 0 ≤ listI L i ∧ listI L i ≤ 127) : Met l yX5_isWord wsX5_isWord { frames := 4, cells := 0, slots := 0, locals := 87 } (kPre (GWd q L D cy) D (scW cy a P) ([.ref (a 10), .ref q, .int (iI s9), .int (iI e9)] : List Value)) (kRO (fun r => ((isWd (P 11) s9 e9 L) ∧ r = 1) ∨ (¬ (isWd (P 11) s9 e9 L) ∧ r = 0))) 0 0 (fun _ => False) := by
  refine kRO_start (cc := cX5_isWord) (maxL := 5) (ret := (some .boolean)) (by decide) rfl (Nat.le_of_ble_eq_true rfl) ?_
  intro p e s m below meth c hx hb hr hlocks hml hts hown hG hP ls hl
  have hGw := hG.2
  have hG := hG.1
  have hK := hG.1
  have hl : lv_has ls 5 [(0, .ref (a 10)), (1, .ref q), (2, .int (iI s9)), (3, .int (iI e9))] := hl
  have hinX5 : ∀ w ∈ u_ws RX5 TX5 6, w ∈ wsX5_isWord := by decide +kernel
  have hmw0 := hts (.fieldLink RX5 18 "ArcPlate$Script" "text" "[B") (by decide +kernel)
  refine lv_aload_n hx hb dX5_isWord_0 rfl (lv_at hl 1 rfl) ?_
  refine k_roV (As := []) (rest := []) ⟨hx, hb, hml, hown, hts⟩ (c_J0_length l D q L hLn) gX5_isWord_J0_length_8abf5 rfl ⟨rfl, rfl⟩ 0 rfl (by decide +kernel) ⟨Nat.le_of_ble_eq_true rfl, Nat.le_of_ble_eq_true rfl⟩ (GSt_ok q L) hGw (fun k q h => by simp at h) (strO hGw.1) hl.1 rfl (Nat.le_of_ble_eq_true rfl) ⟨Nat.le_of_ble_eq_true rfl, Nat.le_of_ble_eq_true rfl⟩ dX5_isWord_1 (fun r_1 hr_1 => ?_)
  have hr_1 : r_1 = (L.length : Int) := hr_1
  subst hr_1
  refine lv_iload_n hx hb dX5_isWord_4 rfl (lv_at hl 3 rfl) ?_
  refine lv_iload_n hx hb dX5_isWord_5 rfl (lv_at hl 2 rfl) ?_
  refine k_isub hx hb dX5_isWord_6 ?_
  refine k_icmp_eq (tgt := 12) hx hb dX5_isWord_7 (by decide) (by omega) (by omega) (fun c_2 => ?_) (fun c_2 => ?_)
  · skip
    refine k_iconst hx hb dX5_isWord_12 ?_
    refine lv_istore (lv' := [(4, .int (iI 0)), (0, .ref (a 10)), (1, .ref q), (2, .int (iI s9)), (3, .int (iI e9))]) hx hb dX5_isWord_13 hl (by decide) rfl (fun ls hl => ?_)
    have loop15 : ∀ (n_3 : Nat) (k : Int) (hi0 : 0 ≤ k) (hi1 : k ≤ (L.length : Int)) (hi2 : (L.length : Int) = e9 - s9) (hi3 : ∀ i : Nat, (i : Int) < k → P 11 (s9 + i) = L.getD i 0) (hn : (L.length : Int) - k < (n_3 : Int)) (ls : Array Slot) (hl : lv_has ls 5 [(4, .int (iI k)), (0, .ref (a 10)), (1, .ref q), (2, .int (iI s9)), (3, .int (iI e9))]), W p l e { frames := 4, cells := 0, slots := 0, locals := 87 } s m ([.ref (a 10), .ref q, .int (iI s9), .int (iI e9)] : List Value).toArray below meth c s.heap [] 0 0 (MQ below (kRO (fun r => ((isWd (P 11) s9 e9 L) ∧ r = 1) ∨ (¬ (isWd (P 11) s9 e9 L) ∧ r = 0))) ([.ref (a 10), .ref q, .int (iI s9), .int (iI e9)] : List Value).toArray s 0 0 (fun _ => False)) (F0 m 15 ls []) := by
      intro n_3
      induction n_3 with
      | zero => intro k hi0 hi1 hi2 hi3 hn ls hl; exfalso; omega
      | succ n_3 ih15 =>
        intro k hi0 hi1 hi2 hi3 hn ls hl
        refine lv_iload hx hb dX5_isWord_15 (lv_at hl 0 rfl) ?_
        refine lv_aload_n hx hb dX5_isWord_17 rfl (lv_at hl 2 rfl) ?_
        refine k_roV (As := []) (rest := [.int (iI k)]) ⟨hx, hb, hml, hown, hts⟩ (c_J0_length l D q L hLn) gX5_isWord_J0_length_8abf5 rfl ⟨rfl, rfl⟩ 0 rfl (by decide +kernel) ⟨Nat.le_of_ble_eq_true rfl, Nat.le_of_ble_eq_true rfl⟩ (GSt_ok q L) hGw (fun k q h => by simp at h) (strO hGw.1) hl.1 rfl (Nat.le_of_ble_eq_true rfl) ⟨Nat.le_of_ble_eq_true rfl, Nat.le_of_ble_eq_true rfl⟩ dX5_isWord_18 (fun r_4 hr_4 => ?_)
        have hr_4 : r_4 = (L.length : Int) := hr_4
        subst hr_4
        refine k_icmp_ge (tgt := 50) hx hb dX5_isWord_21 (by decide) (by omega) (by omega) (fun c_5 => ?_) (fun c_5 => ?_)
        · skip
          refine k_iconst hx hb dX5_isWord_50 ?_
          exact W.zret (v := iI 1) hx hb hr (by decide +kernel) (fun t9 ht _ => ⟨1, rfl, (Or.inl ⟨⟨by omega, fun i h9 => hi3 i (by omega)⟩, rfl⟩ : ((isWd (P 11) s9 e9 L) ∧ (1 : Int) = 1) ∨ (¬ (isWd (P 11) s9 e9 L) ∧ (1 : Int) = 0)), ht⟩) (fun _ h => nomatch h) dX5_isWord_51 hlocks
        · skip
          have hb9 := hLb k hi0 (by omega)
          have hT9 := hT (s9 + k) (by omega) (by omega)
          refine lv_aload_n hx hb dX5_isWord_24 rfl (lv_at hl 2 rfl) ?_
          refine lv_iload hx hb dX5_isWord_25 (lv_at hl 0 rfl) ?_
          refine k_roV (As := [.int (iI k)]) (rest := []) ⟨hx, hb, hml, hown, hts⟩ (c_J0_charAt l D q L k (by omega) hLn (hLb k (by omega) (by omega))) gX5_isWord_J0_charAt_5068e rfl ⟨rfl, rfl⟩ 1 rfl (by decide +kernel) ⟨Nat.le_of_ble_eq_true rfl, Nat.le_of_ble_eq_true rfl⟩ (GSt_ok q L) hGw (fun k q h => by simp at h) (strO hGw.1) hl.1 rfl (Nat.le_of_ble_eq_true rfl) ⟨Nat.le_of_ble_eq_true rfl, Nat.le_of_ble_eq_true rfl⟩ dX5_isWord_27 (fun r_6 hr_6 => ?_)
          have hr_6 : r_6 = listI L k := hr_6
          subst hr_6
          refine lv_aload_n hx hb dX5_isWord_30 rfl (lv_at hl 1 rfl) ?_
          refine va_get (D := D) (ci := 4) (v := .ref (a 11)) (C := RX5) (T := TX5) (N := 6) hx hb hts hinX5 hown hK hP 0 rfl rfl 2 (by decide) hmw0 (fun _ h9 => h9) rfl dX5_isWord_31 ?_
          refine lv_iload_n hx hb dX5_isWord_34 rfl (lv_at hl 3 rfl) ?_
          refine lv_iload hx hb dX5_isWord_35 (lv_at hl 0 rfl) ?_
          refine k_iadd hx hb dX5_isWord_37 ?_
          refine k_bald hx hb hK hP 1 1 (f := P 11) rfl rfl (i := s9 + k) (by omega) dX5_isWord_38 ?_
          refine k_icmp_eq (tgt := 44) hx hb dX5_isWord_39 (by decide) (by omega) (by omega) (fun c_7 => ?_) (fun c_7 => ?_)
          · skip
            have hkq : listI L k = P 11 (s9 + k) := c_7
            refine lv_iinc (v := iI (k + 1)) (lv' := [(4, .int (iI (k + 1))), (0, .ref (a 10)), (1, .ref q), (2, .int (iI s9)), (3, .int (iI e9))]) hx hb dX5_isWord_44 hl (k := 0) rfl (iI_add _ _) (by decide) rfl (fun ls hl => ?_)
            refine lv_goto (tgt := 15) hx hb dX5_isWord_47 (by decide) ?_
            exact ih15 (k + 1)  (by omega) (by omega) (by omega) (fun i h9 => by by_cases e8 : (i : Int) = k; (have e7 : i = k.toNat := by omega); (subst e7; rw [e8]; exact hkq.symm); exact hi3 i (by omega)) (by omega) ls (lv_sub hl [0, 1, 2, 3, 4] rfl)
          · skip
            refine k_iconst hx hb dX5_isWord_42 ?_
            exact W.zret (v := iI 0) hx hb hr (by decide +kernel) (fun t9 ht _ => ⟨0, rfl, (Or.inr ⟨fun h9 => by have h8 := h9.2 k.toNat (by omega); rw [Int.toNat_of_nonneg hi0] at h8; exact absurd h8.symm (by assumption), rfl⟩ : ((isWd (P 11) s9 e9 L) ∧ (0 : Int) = 1) ∨ (¬ (isWd (P 11) s9 e9 L) ∧ (0 : Int) = 0)), ht⟩) (fun _ h => nomatch h) dX5_isWord_43 hlocks
    exact loop15 (((L.length : Int) - 0 : Int) + 1).toNat 0  (by omega) (by omega) (by omega) (fun i h9 => by omega) (by omega) ls (lv_sub hl [0, 1, 2, 3, 4] rfl)
  · skip
    refine k_iconst hx hb dX5_isWord_10 ?_
    exact W.zret (v := iI 0) hx hb hr (by decide +kernel) (fun t9 ht _ => ⟨0, rfl, (Or.inr ⟨fun h9 => by have h8 := h9.1; omega, rfl⟩ : ((isWd (P 11) s9 e9 L) ∧ (0 : Int) = 1) ∨ (¬ (isWd (P 11) s9 e9 L) ∧ (0 : Int) = 0)), ht⟩) (fun _ h => nomatch h) dX5_isWord_11 hlocks
set_option maxHeartbeats 4000000 in
set_option maxRecDepth 100000 in
theorem c_X5_kindOf (l : Launch) (D : va_G) (cy : Nat → ClassId) (a : Nat → Nat) (P : Nat → Int → Int) (s9 e9 : Int) (hT : ∀ k : Int, 0 ≤ k → k < 150 → 0 ≤ P 11 k ∧ P 11 k ≤ 127) (hs : 0 ≤ s9 ∧ s9 ≤ e9) (he : e9 ≤ 150) : Met l yX5_kindOf wsX5_kindOf { frames := 5, cells := 0, slots := 0, locals := 111 } (kPre (GS D cy) D (scW cy a P) ([.ref (a 10), .int (iI s9), .int (iI e9)] : List Value)) (kRO (fun r => (((kindW (P 11) s9 e9) = -1000000000) ∧ r = -1) ∨ ((0 ≤ (kindW (P 11) s9 e9) ∧ (kindW (P 11) s9 e9) ≤ 6) ∧ r = (kindW (P 11) s9 e9)))) 0 0 (fun _ => False) := by
  refine kRO_start (cc := cX5_kindOf) (maxL := 3) (ret := (some .int)) (by decide) rfl (Nat.le_of_ble_eq_true rfl) ?_
  intro p e s m below meth c hx hb hr hlocks hml hts hown hG hP ls hl
  have hGs := hG
  have hJd := hG.2.1
  have hG := hG.1
  have hK := hG.1
  have hl : lv_has ls 3 [(0, .ref (a 10)), (1, .int (iI s9)), (2, .int (iI e9))] := hl
  obtain ⟨ad, hwd⟩ := hGs.2.2
  refine lv_aload_n hx hb dX5_kindOf_0 rfl (lv_at hl 0 rfl) ?_
  refine va_ldcS hx hb (index := 57) (tx := wdT 0) (q := ad 0) hown (hwd 0 (by decide)).1 dX5_kindOf_1 ?_
  refine lv_iload_n hx hb dX5_kindOf_3 rfl (lv_at hl 1 rfl) ?_
  refine lv_iload_n hx hb dX5_kindOf_4 rfl (lv_at hl 2 rfl) ?_
  refine k_roV (As := [.ref (ad 0), .int (iI s9), .int (iI e9)]) (rest := []) ⟨hx, hb, hml, hown, hts⟩ (c_X5_isWord l D cy a P (ad 0) (wdL 0) s9 e9 (show ∀ k : Int, 0 ≤ k → k < 150 → 0 ≤ P 11 k ∧ P 11 k ≤ 127 from hT) (show 0 ≤ s9 ∧ s9 ≤ e9 by omega) (show e9 ≤ 150 by omega) (show (wdL 0).length ≤ 10 from (wd_ok 0 (by decide)).1) (show ∀ i : Int, 0 ≤ i → i < ((wdL 0).length : Int) → 0 ≤ listI (wdL 0) i ∧ listI (wdL 0) i ≤ 127 from (wd_ok 0 (by decide)).2)) gX5_kindOf_X5_isWord rfl ⟨rfl, rfl⟩ 3 rfl (by decide +kernel) ⟨Nat.le_of_ble_eq_true rfl, Nat.le_of_ble_eq_true rfl⟩ (GWd_ok (ad 0) (wdL 0) D cy) ⟨hG, (hwd 0 (by decide)).2, hJd⟩ hP (va_recv hK hP (ci := 4) (q0 := 0) rfl rfl) hl.1 rfl (Nat.le_of_ble_eq_true rfl) ⟨Nat.le_of_ble_eq_true rfl, Nat.le_of_ble_eq_true rfl⟩ dX5_kindOf_5 (fun r_1 hr_1 => ?_)
  have hr_1 : ((isWd (P 11) s9 e9 (wdL 0)) ∧ r_1 = 1) ∨ (¬ (isWd (P 11) s9 e9 (wdL 0)) ∧ r_1 = 0) := hr_1
  rcases hr_1 with ⟨c_2, hr_1⟩ | ⟨c_2, hr_1⟩ <;> subst hr_1
  · skip
    refine k_if_eq (tgt := 13) hx hb dX5_kindOf_8 (by decide) (by omega) (fun c_3 => ?_) (fun c_3 => ?_)
    · exfalso; omega
    · skip
      refine k_iconst hx hb dX5_kindOf_11 ?_
      exact W.iret (v := iI 0) hx hb hr (fun t9 ht _ => ⟨0, rfl, (by have hkw : (kindW (P 11) s9 e9) = 0 := (by unfold kindW; rw [if_pos (by assumption)]); exact Or.inr ⟨by omega, hkw.symm⟩ : (((kindW (P 11) s9 e9) = -1000000000) ∧ (0 : Int) = -1) ∨ ((0 ≤ (kindW (P 11) s9 e9) ∧ (kindW (P 11) s9 e9) ≤ 6) ∧ (0 : Int) = (kindW (P 11) s9 e9))), ht⟩) (fun _ h => nomatch h) dX5_kindOf_12 hlocks
  · skip
    refine k_if_eq (tgt := 13) hx hb dX5_kindOf_8 (by decide) (by omega) (fun c_4 => ?_) (fun c_4 => ?_)
    · skip
      refine lv_aload_n hx hb dX5_kindOf_13 rfl (lv_at hl 0 rfl) ?_
      refine va_ldcS hx hb (index := 63) (tx := wdT 1) (q := ad 1) hown (hwd 1 (by decide)).1 dX5_kindOf_14 ?_
      refine lv_iload_n hx hb dX5_kindOf_16 rfl (lv_at hl 1 rfl) ?_
      refine lv_iload_n hx hb dX5_kindOf_17 rfl (lv_at hl 2 rfl) ?_
      refine k_roV (As := [.ref (ad 1), .int (iI s9), .int (iI e9)]) (rest := []) ⟨hx, hb, hml, hown, hts⟩ (c_X5_isWord l D cy a P (ad 1) (wdL 1) s9 e9 (show ∀ k : Int, 0 ≤ k → k < 150 → 0 ≤ P 11 k ∧ P 11 k ≤ 127 from hT) (show 0 ≤ s9 ∧ s9 ≤ e9 by omega) (show e9 ≤ 150 by omega) (show (wdL 1).length ≤ 10 from (wd_ok 1 (by decide)).1) (show ∀ i : Int, 0 ≤ i → i < ((wdL 1).length : Int) → 0 ≤ listI (wdL 1) i ∧ listI (wdL 1) i ≤ 127 from (wd_ok 1 (by decide)).2)) gX5_kindOf_X5_isWord rfl ⟨rfl, rfl⟩ 3 rfl (by decide +kernel) ⟨Nat.le_of_ble_eq_true rfl, Nat.le_of_ble_eq_true rfl⟩ (GWd_ok (ad 1) (wdL 1) D cy) ⟨hG, (hwd 1 (by decide)).2, hJd⟩ hP (va_recv hK hP (ci := 4) (q0 := 0) rfl rfl) hl.1 rfl (Nat.le_of_ble_eq_true rfl) ⟨Nat.le_of_ble_eq_true rfl, Nat.le_of_ble_eq_true rfl⟩ dX5_kindOf_18 (fun r_5 hr_5 => ?_)
      have hr_5 : ((isWd (P 11) s9 e9 (wdL 1)) ∧ r_5 = 1) ∨ (¬ (isWd (P 11) s9 e9 (wdL 1)) ∧ r_5 = 0) := hr_5
      rcases hr_5 with ⟨c_6, hr_5⟩ | ⟨c_6, hr_5⟩ <;> subst hr_5
      · skip
        refine k_if_eq (tgt := 26) hx hb dX5_kindOf_21 (by decide) (by omega) (fun c_7 => ?_) (fun c_7 => ?_)
        · exfalso; omega
        · skip
          refine k_iconst hx hb dX5_kindOf_24 ?_
          exact W.iret (v := iI 1) hx hb hr (fun t9 ht _ => ⟨1, rfl, (by have hkw : (kindW (P 11) s9 e9) = 1 := (by unfold kindW; rw [if_neg (by assumption), if_pos (by assumption)]); exact Or.inr ⟨by omega, hkw.symm⟩ : (((kindW (P 11) s9 e9) = -1000000000) ∧ (1 : Int) = -1) ∨ ((0 ≤ (kindW (P 11) s9 e9) ∧ (kindW (P 11) s9 e9) ≤ 6) ∧ (1 : Int) = (kindW (P 11) s9 e9))), ht⟩) (fun _ h => nomatch h) dX5_kindOf_25 hlocks
      · skip
        refine k_if_eq (tgt := 26) hx hb dX5_kindOf_21 (by decide) (by omega) (fun c_8 => ?_) (fun c_8 => ?_)
        · skip
          refine lv_aload_n hx hb dX5_kindOf_26 rfl (lv_at hl 0 rfl) ?_
          refine va_ldcS hx hb (index := 65) (tx := wdT 2) (q := ad 2) hown (hwd 2 (by decide)).1 dX5_kindOf_27 ?_
          refine lv_iload_n hx hb dX5_kindOf_29 rfl (lv_at hl 1 rfl) ?_
          refine lv_iload_n hx hb dX5_kindOf_30 rfl (lv_at hl 2 rfl) ?_
          refine k_roV (As := [.ref (ad 2), .int (iI s9), .int (iI e9)]) (rest := []) ⟨hx, hb, hml, hown, hts⟩ (c_X5_isWord l D cy a P (ad 2) (wdL 2) s9 e9 (show ∀ k : Int, 0 ≤ k → k < 150 → 0 ≤ P 11 k ∧ P 11 k ≤ 127 from hT) (show 0 ≤ s9 ∧ s9 ≤ e9 by omega) (show e9 ≤ 150 by omega) (show (wdL 2).length ≤ 10 from (wd_ok 2 (by decide)).1) (show ∀ i : Int, 0 ≤ i → i < ((wdL 2).length : Int) → 0 ≤ listI (wdL 2) i ∧ listI (wdL 2) i ≤ 127 from (wd_ok 2 (by decide)).2)) gX5_kindOf_X5_isWord rfl ⟨rfl, rfl⟩ 3 rfl (by decide +kernel) ⟨Nat.le_of_ble_eq_true rfl, Nat.le_of_ble_eq_true rfl⟩ (GWd_ok (ad 2) (wdL 2) D cy) ⟨hG, (hwd 2 (by decide)).2, hJd⟩ hP (va_recv hK hP (ci := 4) (q0 := 0) rfl rfl) hl.1 rfl (Nat.le_of_ble_eq_true rfl) ⟨Nat.le_of_ble_eq_true rfl, Nat.le_of_ble_eq_true rfl⟩ dX5_kindOf_31 (fun r_9 hr_9 => ?_)
          have hr_9 : ((isWd (P 11) s9 e9 (wdL 2)) ∧ r_9 = 1) ∨ (¬ (isWd (P 11) s9 e9 (wdL 2)) ∧ r_9 = 0) := hr_9
          rcases hr_9 with ⟨c_10, hr_9⟩ | ⟨c_10, hr_9⟩ <;> subst hr_9
          · skip
            refine k_if_eq (tgt := 39) hx hb dX5_kindOf_34 (by decide) (by omega) (fun c_11 => ?_) (fun c_11 => ?_)
            · exfalso; omega
            · skip
              refine k_iconst hx hb dX5_kindOf_37 ?_
              exact W.iret (v := iI 2) hx hb hr (fun t9 ht _ => ⟨2, rfl, (by have hkw : (kindW (P 11) s9 e9) = 2 := (by unfold kindW; rw [if_neg (by assumption), if_neg (by assumption), if_pos (by assumption)]); exact Or.inr ⟨by omega, hkw.symm⟩ : (((kindW (P 11) s9 e9) = -1000000000) ∧ (2 : Int) = -1) ∨ ((0 ≤ (kindW (P 11) s9 e9) ∧ (kindW (P 11) s9 e9) ≤ 6) ∧ (2 : Int) = (kindW (P 11) s9 e9))), ht⟩) (fun _ h => nomatch h) dX5_kindOf_38 hlocks
          · skip
            refine k_if_eq (tgt := 39) hx hb dX5_kindOf_34 (by decide) (by omega) (fun c_12 => ?_) (fun c_12 => ?_)
            · skip
              refine lv_aload_n hx hb dX5_kindOf_39 rfl (lv_at hl 0 rfl) ?_
              refine va_ldcS hx hb (index := 67) (tx := wdT 3) (q := ad 3) hown (hwd 3 (by decide)).1 dX5_kindOf_40 ?_
              refine lv_iload_n hx hb dX5_kindOf_42 rfl (lv_at hl 1 rfl) ?_
              refine lv_iload_n hx hb dX5_kindOf_43 rfl (lv_at hl 2 rfl) ?_
              refine k_roV (As := [.ref (ad 3), .int (iI s9), .int (iI e9)]) (rest := []) ⟨hx, hb, hml, hown, hts⟩ (c_X5_isWord l D cy a P (ad 3) (wdL 3) s9 e9 (show ∀ k : Int, 0 ≤ k → k < 150 → 0 ≤ P 11 k ∧ P 11 k ≤ 127 from hT) (show 0 ≤ s9 ∧ s9 ≤ e9 by omega) (show e9 ≤ 150 by omega) (show (wdL 3).length ≤ 10 from (wd_ok 3 (by decide)).1) (show ∀ i : Int, 0 ≤ i → i < ((wdL 3).length : Int) → 0 ≤ listI (wdL 3) i ∧ listI (wdL 3) i ≤ 127 from (wd_ok 3 (by decide)).2)) gX5_kindOf_X5_isWord rfl ⟨rfl, rfl⟩ 3 rfl (by decide +kernel) ⟨Nat.le_of_ble_eq_true rfl, Nat.le_of_ble_eq_true rfl⟩ (GWd_ok (ad 3) (wdL 3) D cy) ⟨hG, (hwd 3 (by decide)).2, hJd⟩ hP (va_recv hK hP (ci := 4) (q0 := 0) rfl rfl) hl.1 rfl (Nat.le_of_ble_eq_true rfl) ⟨Nat.le_of_ble_eq_true rfl, Nat.le_of_ble_eq_true rfl⟩ dX5_kindOf_44 (fun r_13 hr_13 => ?_)
              have hr_13 : ((isWd (P 11) s9 e9 (wdL 3)) ∧ r_13 = 1) ∨ (¬ (isWd (P 11) s9 e9 (wdL 3)) ∧ r_13 = 0) := hr_13
              rcases hr_13 with ⟨c_14, hr_13⟩ | ⟨c_14, hr_13⟩ <;> subst hr_13
              · skip
                refine k_if_eq (tgt := 52) hx hb dX5_kindOf_47 (by decide) (by omega) (fun c_15 => ?_) (fun c_15 => ?_)
                · exfalso; omega
                · skip
                  refine k_iconst hx hb dX5_kindOf_50 ?_
                  exact W.iret (v := iI 3) hx hb hr (fun t9 ht _ => ⟨3, rfl, (by have hkw : (kindW (P 11) s9 e9) = 3 := (by unfold kindW; rw [if_neg (by assumption), if_neg (by assumption), if_neg (by assumption), if_pos (by assumption)]); exact Or.inr ⟨by omega, hkw.symm⟩ : (((kindW (P 11) s9 e9) = -1000000000) ∧ (3 : Int) = -1) ∨ ((0 ≤ (kindW (P 11) s9 e9) ∧ (kindW (P 11) s9 e9) ≤ 6) ∧ (3 : Int) = (kindW (P 11) s9 e9))), ht⟩) (fun _ h => nomatch h) dX5_kindOf_51 hlocks
              · skip
                refine k_if_eq (tgt := 52) hx hb dX5_kindOf_47 (by decide) (by omega) (fun c_16 => ?_) (fun c_16 => ?_)
                · skip
                  refine lv_aload_n hx hb dX5_kindOf_52 rfl (lv_at hl 0 rfl) ?_
                  refine va_ldcS hx hb (index := 69) (tx := wdT 4) (q := ad 4) hown (hwd 4 (by decide)).1 dX5_kindOf_53 ?_
                  refine lv_iload_n hx hb dX5_kindOf_55 rfl (lv_at hl 1 rfl) ?_
                  refine lv_iload_n hx hb dX5_kindOf_56 rfl (lv_at hl 2 rfl) ?_
                  refine k_roV (As := [.ref (ad 4), .int (iI s9), .int (iI e9)]) (rest := []) ⟨hx, hb, hml, hown, hts⟩ (c_X5_isWord l D cy a P (ad 4) (wdL 4) s9 e9 (show ∀ k : Int, 0 ≤ k → k < 150 → 0 ≤ P 11 k ∧ P 11 k ≤ 127 from hT) (show 0 ≤ s9 ∧ s9 ≤ e9 by omega) (show e9 ≤ 150 by omega) (show (wdL 4).length ≤ 10 from (wd_ok 4 (by decide)).1) (show ∀ i : Int, 0 ≤ i → i < ((wdL 4).length : Int) → 0 ≤ listI (wdL 4) i ∧ listI (wdL 4) i ≤ 127 from (wd_ok 4 (by decide)).2)) gX5_kindOf_X5_isWord rfl ⟨rfl, rfl⟩ 3 rfl (by decide +kernel) ⟨Nat.le_of_ble_eq_true rfl, Nat.le_of_ble_eq_true rfl⟩ (GWd_ok (ad 4) (wdL 4) D cy) ⟨hG, (hwd 4 (by decide)).2, hJd⟩ hP (va_recv hK hP (ci := 4) (q0 := 0) rfl rfl) hl.1 rfl (Nat.le_of_ble_eq_true rfl) ⟨Nat.le_of_ble_eq_true rfl, Nat.le_of_ble_eq_true rfl⟩ dX5_kindOf_57 (fun r_17 hr_17 => ?_)
                  have hr_17 : ((isWd (P 11) s9 e9 (wdL 4)) ∧ r_17 = 1) ∨ (¬ (isWd (P 11) s9 e9 (wdL 4)) ∧ r_17 = 0) := hr_17
                  rcases hr_17 with ⟨c_18, hr_17⟩ | ⟨c_18, hr_17⟩ <;> subst hr_17
                  · skip
                    refine k_if_eq (tgt := 65) hx hb dX5_kindOf_60 (by decide) (by omega) (fun c_19 => ?_) (fun c_19 => ?_)
                    · exfalso; omega
                    · skip
                      refine k_iconst hx hb dX5_kindOf_63 ?_
                      exact W.iret (v := iI 4) hx hb hr (fun t9 ht _ => ⟨4, rfl, (by have hkw : (kindW (P 11) s9 e9) = 4 := (by unfold kindW; rw [if_neg (by assumption), if_neg (by assumption), if_neg (by assumption), if_neg (by assumption), if_pos (by assumption)]); exact Or.inr ⟨by omega, hkw.symm⟩ : (((kindW (P 11) s9 e9) = -1000000000) ∧ (4 : Int) = -1) ∨ ((0 ≤ (kindW (P 11) s9 e9) ∧ (kindW (P 11) s9 e9) ≤ 6) ∧ (4 : Int) = (kindW (P 11) s9 e9))), ht⟩) (fun _ h => nomatch h) dX5_kindOf_64 hlocks
                  · skip
                    refine k_if_eq (tgt := 65) hx hb dX5_kindOf_60 (by decide) (by omega) (fun c_20 => ?_) (fun c_20 => ?_)
                    · skip
                      refine lv_aload_n hx hb dX5_kindOf_65 rfl (lv_at hl 0 rfl) ?_
                      refine va_ldcS hx hb (index := 71) (tx := wdT 5) (q := ad 5) hown (hwd 5 (by decide)).1 dX5_kindOf_66 ?_
                      refine lv_iload_n hx hb dX5_kindOf_68 rfl (lv_at hl 1 rfl) ?_
                      refine lv_iload_n hx hb dX5_kindOf_69 rfl (lv_at hl 2 rfl) ?_
                      refine k_roV (As := [.ref (ad 5), .int (iI s9), .int (iI e9)]) (rest := []) ⟨hx, hb, hml, hown, hts⟩ (c_X5_isWord l D cy a P (ad 5) (wdL 5) s9 e9 (show ∀ k : Int, 0 ≤ k → k < 150 → 0 ≤ P 11 k ∧ P 11 k ≤ 127 from hT) (show 0 ≤ s9 ∧ s9 ≤ e9 by omega) (show e9 ≤ 150 by omega) (show (wdL 5).length ≤ 10 from (wd_ok 5 (by decide)).1) (show ∀ i : Int, 0 ≤ i → i < ((wdL 5).length : Int) → 0 ≤ listI (wdL 5) i ∧ listI (wdL 5) i ≤ 127 from (wd_ok 5 (by decide)).2)) gX5_kindOf_X5_isWord rfl ⟨rfl, rfl⟩ 3 rfl (by decide +kernel) ⟨Nat.le_of_ble_eq_true rfl, Nat.le_of_ble_eq_true rfl⟩ (GWd_ok (ad 5) (wdL 5) D cy) ⟨hG, (hwd 5 (by decide)).2, hJd⟩ hP (va_recv hK hP (ci := 4) (q0 := 0) rfl rfl) hl.1 rfl (Nat.le_of_ble_eq_true rfl) ⟨Nat.le_of_ble_eq_true rfl, Nat.le_of_ble_eq_true rfl⟩ dX5_kindOf_70 (fun r_21 hr_21 => ?_)
                      have hr_21 : ((isWd (P 11) s9 e9 (wdL 5)) ∧ r_21 = 1) ∨ (¬ (isWd (P 11) s9 e9 (wdL 5)) ∧ r_21 = 0) := hr_21
                      rcases hr_21 with ⟨c_22, hr_21⟩ | ⟨c_22, hr_21⟩ <;> subst hr_21
                      · skip
                        refine k_if_eq (tgt := 78) hx hb dX5_kindOf_73 (by decide) (by omega) (fun c_23 => ?_) (fun c_23 => ?_)
                        · exfalso; omega
                        · skip
                          refine k_iconst hx hb dX5_kindOf_76 ?_
                          exact W.iret (v := iI 5) hx hb hr (fun t9 ht _ => ⟨5, rfl, (by have hkw : (kindW (P 11) s9 e9) = 5 := (by unfold kindW; rw [if_neg (by assumption), if_neg (by assumption), if_neg (by assumption), if_neg (by assumption), if_neg (by assumption), if_pos (by assumption)]); exact Or.inr ⟨by omega, hkw.symm⟩ : (((kindW (P 11) s9 e9) = -1000000000) ∧ (5 : Int) = -1) ∨ ((0 ≤ (kindW (P 11) s9 e9) ∧ (kindW (P 11) s9 e9) ≤ 6) ∧ (5 : Int) = (kindW (P 11) s9 e9))), ht⟩) (fun _ h => nomatch h) dX5_kindOf_77 hlocks
                      · skip
                        refine k_if_eq (tgt := 78) hx hb dX5_kindOf_73 (by decide) (by omega) (fun c_24 => ?_) (fun c_24 => ?_)
                        · skip
                          refine lv_aload_n hx hb dX5_kindOf_78 rfl (lv_at hl 0 rfl) ?_
                          refine va_ldcS hx hb (index := 73) (tx := wdT 6) (q := ad 6) hown (hwd 6 (by decide)).1 dX5_kindOf_79 ?_
                          refine lv_iload_n hx hb dX5_kindOf_81 rfl (lv_at hl 1 rfl) ?_
                          refine lv_iload_n hx hb dX5_kindOf_82 rfl (lv_at hl 2 rfl) ?_
                          refine k_roV (As := [.ref (ad 6), .int (iI s9), .int (iI e9)]) (rest := []) ⟨hx, hb, hml, hown, hts⟩ (c_X5_isWord l D cy a P (ad 6) (wdL 6) s9 e9 (show ∀ k : Int, 0 ≤ k → k < 150 → 0 ≤ P 11 k ∧ P 11 k ≤ 127 from hT) (show 0 ≤ s9 ∧ s9 ≤ e9 by omega) (show e9 ≤ 150 by omega) (show (wdL 6).length ≤ 10 from (wd_ok 6 (by decide)).1) (show ∀ i : Int, 0 ≤ i → i < ((wdL 6).length : Int) → 0 ≤ listI (wdL 6) i ∧ listI (wdL 6) i ≤ 127 from (wd_ok 6 (by decide)).2)) gX5_kindOf_X5_isWord rfl ⟨rfl, rfl⟩ 3 rfl (by decide +kernel) ⟨Nat.le_of_ble_eq_true rfl, Nat.le_of_ble_eq_true rfl⟩ (GWd_ok (ad 6) (wdL 6) D cy) ⟨hG, (hwd 6 (by decide)).2, hJd⟩ hP (va_recv hK hP (ci := 4) (q0 := 0) rfl rfl) hl.1 rfl (Nat.le_of_ble_eq_true rfl) ⟨Nat.le_of_ble_eq_true rfl, Nat.le_of_ble_eq_true rfl⟩ dX5_kindOf_83 (fun r_25 hr_25 => ?_)
                          have hr_25 : ((isWd (P 11) s9 e9 (wdL 6)) ∧ r_25 = 1) ∨ (¬ (isWd (P 11) s9 e9 (wdL 6)) ∧ r_25 = 0) := hr_25
                          rcases hr_25 with ⟨c_26, hr_25⟩ | ⟨c_26, hr_25⟩ <;> subst hr_25
                          · skip
                            refine k_if_eq (tgt := 94) hx hb dX5_kindOf_86 (by decide) (by omega) (fun c_27 => ?_) (fun c_27 => ?_)
                            · exfalso; omega
                            · skip
                              refine k_bipush hx hb dX5_kindOf_89 (by decide +kernel) ?_
                              refine lv_goto (tgt := 95) hx hb dX5_kindOf_91 (by decide) ?_
                              exact W.iret (v := iI 6) hx hb hr (fun t9 ht _ => ⟨6, rfl, (by first | (have hkw : (kindW (P 11) s9 e9) = 6 := (by unfold kindW; rw [if_neg (by assumption), if_neg (by assumption), if_neg (by assumption), if_neg (by assumption), if_neg (by assumption), if_neg (by assumption), if_pos (by assumption)]); exact Or.inr ⟨by omega, hkw.symm⟩) | (have hkw : (kindW (P 11) s9 e9) = -1000000000 := (by unfold kindW; rw [if_neg (by assumption), if_neg (by assumption), if_neg (by assumption), if_neg (by assumption), if_neg (by assumption), if_neg (by assumption), if_neg (by assumption)]); exact Or.inl ⟨hkw, rfl⟩) : (((kindW (P 11) s9 e9) = -1000000000) ∧ (6 : Int) = -1) ∨ ((0 ≤ (kindW (P 11) s9 e9) ∧ (kindW (P 11) s9 e9) ≤ 6) ∧ (6 : Int) = (kindW (P 11) s9 e9))), ht⟩) (fun _ h => nomatch h) dX5_kindOf_95 hlocks
                          · skip
                            refine k_if_eq (tgt := 94) hx hb dX5_kindOf_86 (by decide) (by omega) (fun c_28 => ?_) (fun c_28 => ?_)
                            · skip
                              refine k_iconst hx hb dX5_kindOf_94 ?_
                              exact W.iret (v := iI (-1)) hx hb hr (fun t9 ht _ => ⟨(-1), rfl, (by first | (have hkw : (kindW (P 11) s9 e9) = 6 := (by unfold kindW; rw [if_neg (by assumption), if_neg (by assumption), if_neg (by assumption), if_neg (by assumption), if_neg (by assumption), if_neg (by assumption), if_pos (by assumption)]); exact Or.inr ⟨by omega, hkw.symm⟩) | (have hkw : (kindW (P 11) s9 e9) = -1000000000 := (by unfold kindW; rw [if_neg (by assumption), if_neg (by assumption), if_neg (by assumption), if_neg (by assumption), if_neg (by assumption), if_neg (by assumption), if_neg (by assumption)]); exact Or.inl ⟨hkw, rfl⟩) : (((kindW (P 11) s9 e9) = -1000000000) ∧ ((-1) : Int) = -1) ∨ ((0 ≤ (kindW (P 11) s9 e9) ∧ (kindW (P 11) s9 e9) ≤ 6) ∧ ((-1) : Int) = (kindW (P 11) s9 e9))), ht⟩) (fun _ h => nomatch h) dX5_kindOf_95 hlocks
                            · exfalso; omega
                        · exfalso; omega
                    · exfalso; omega
                · exfalso; omega
            · exfalso; omega
        · exfalso; omega
    · exfalso; omega
set_option maxHeartbeats 4000000 in
set_option maxRecDepth 100000 in
theorem c_X5_readCommand (l : Launch) (D : va_G) (cy : Nat → ClassId) (sz : Nat) (a : Nat → Nat) (P : Nat → Int → Int)  (hpl : 0 ≤ P 10 5 ∧ P 10 5 ≤ P 10 0) (htn : P 10 0 ≤ 150) (hT : ∀ k : Int, 0 ≤ k → k < 150 → 0 ≤ P 11 k ∧ P 11 k ≤ 127) (hc0 : 0 ≤ P 10 1 ∧ P 10 1 < 150) (hnn : nOK (P 13)) : Met l yX5_readCommand wsX5_readCommand { frames := 6, cells := 0, slots := 0, locals := 133 } (mPre (GS D cy) D (scW cy a P) sz ([.ref (a 10)] : List Value)) (kQi D (scW cy a P) sz (fun u9 : Nat → Int → Int => scW cy a u9) (fun r9 u9 => (∃ (x9 : Int) (zq : Int) (zN : Int → Int), (((∃ (k9 : Int) (B9 : Int → Int), (prsC (P 11) (P 10 0) (P 10 5) (nmC (P 13) (P 10 1))) = (0, x9, k9, B9)) ∧ (0 ≤ x9 ∧ x9 ≤ P 10 0)) ∧ nOK zN ∧ ∀ i9 : Int, 0 ≤ i9 → i9 < P 10 1 * 4 → zN i9 = P 13 i9) ∧ r9 = x9 ∧ u9 = (upr (upr P 10 (ups (P 10) 5 zq)) 13 (zN))) ∨ (∃ (x9 : Int) (k9 : Int) (zN : Int → Int), (((prsC (P 11) (P 10 0) (P 10 5) (nmC (P 13) (P 10 1))) = (1, x9, k9, nmC zN (P 10 1)) ∧ 0 ≤ k9 ∧ k9 ≤ 6) ∧ nOK zN ∧ ∀ i9 : Int, 0 ≤ i9 → i9 < P 10 1 * 4 → zN i9 = P 13 i9) ∧ r9 = -1 ∧ u9 = (upr (upr (upr P 10 (ups (ups (P 10) 5 x9) 1 (P 10 1 + 1))) 12 (ups (P 12) (P 10 1) k9)) 13 (zN))))) 0 0 (va_A (scW cy a P) sz) := by
  refine kM_start (cc := cX5_readCommand) (maxL := 4) (ret := (some .int)) (by decide) rfl (Nat.le_of_ble_eq_true rfl) ?_
  intro p e s m below meth c hx hb hr hlocks hml hts hown hsz hA hG hP hD hS hin ls hl
  have hGs := hG
  have hJd := hG.2.1
  have hG := hG.1
  have hK := hG.1
  have hl : lv_has ls 4 [(0, .ref (a 10))] := hl
  have hinX5 : ∀ w ∈ u_ws RX5 TX5 6, w ∈ wsX5_readCommand := by decide +kernel
  have hmw0 := hts (.fieldLink RX5 29 "ArcPlate$Script" "at" "I") (by decide +kernel)
  have hmw1 := hts (.fieldLink RX5 9 "ArcPlate$Script" "length" "I") (by decide +kernel)
  have hmw2 := hts (.fieldLink RX5 43 "ArcPlate$Script" "NUMBERS" "[I") (by decide +kernel)
  have hmw3 := hts (.fieldLink RX5 22 "ArcPlate$Script" "kinds" "[I") (by decide +kernel)
  have hmw4 := hts (.fieldLink RX5 15 "ArcPlate$Script" "commands" "I") (by decide +kernel)
  have hmw5 := hts (.fieldLink RX5 18 "ArcPlate$Script" "text" "[B") (by decide +kernel)
  have hw := wre_bd (P 11) hpl.2
  have hkr := kindW_rg (P 11) (P 10 5) (wre (P 11) (P 10 0) (P 10 5))
  have hbody : ∀ (H : Heap) (locs : List Loc) (hP : va_P D vwCl (scW cy a P) H) (hS : va_S (va_A (scW cy a P) sz) s.heap H locs) (ls : Array Slot) (hl : lv_has ls 4 [(0, .ref (a 10))]), W p l e { frames := 6, cells := 0, slots := 0, locals := 133 } s m ([.ref (a 10)] : List Value).toArray below meth c H locs 0 0 (MQ below (kQi D (scW cy a P) sz (fun u9 : Nat → Int → Int => scW cy a u9) (fun r9 u9 => (∃ (x9 : Int) (zq : Int) (zN : Int → Int), (((∃ (k9 : Int) (B9 : Int → Int), (prsC (P 11) (P 10 0) (P 10 5) (nmC (P 13) (P 10 1))) = (0, x9, k9, B9)) ∧ (0 ≤ x9 ∧ x9 ≤ P 10 0)) ∧ nOK zN ∧ ∀ i9 : Int, 0 ≤ i9 → i9 < P 10 1 * 4 → zN i9 = P 13 i9) ∧ r9 = x9 ∧ u9 = (upr (upr P 10 (ups (P 10) 5 zq)) 13 (zN))) ∨ (∃ (x9 : Int) (k9 : Int) (zN : Int → Int), (((prsC (P 11) (P 10 0) (P 10 5) (nmC (P 13) (P 10 1))) = (1, x9, k9, nmC zN (P 10 1)) ∧ 0 ≤ k9 ∧ k9 ≤ 6) ∧ nOK zN ∧ ∀ i9 : Int, 0 ≤ i9 → i9 < P 10 1 * 4 → zN i9 = P 13 i9) ∧ r9 = -1 ∧ u9 = (upr (upr (upr P 10 (ups (ups (P 10) 5 x9) 1 (P 10 1 + 1))) 12 (ups (P 12) (P 10 1) k9)) 13 (zN))))) ([.ref (a 10)] : List Value).toArray s 0 0 (va_A (scW cy a P) sz)) (F0 m 0 ls []) := by
    intro H locs hP hS ls hl
    refine lv_aload_n hx hb dX5_readCommand_0 rfl (lv_at hl 0 rfl) ?_
    refine va_get (D := D) (ci := 4) (v := .int (iI (P 10 5))) (C := RX5) (T := TX5) (N := 6) hx hb hts hinX5 hown hK hP 0 rfl rfl 5 (by decide) hmw0 (fun _ h9 => h9) rfl dX5_readCommand_1 ?_
    refine lv_istore_n (lv' := [(1, .int (iI (P 10 5))), (0, .ref (a 10))]) hx hb dX5_readCommand_4 rfl hl (by decide) rfl (fun ls hl => ?_)
    have loop5 : ∀ (n_1 : Nat) (q : Int) (hi0 : P 10 5 ≤ q) (hi1 : q ≤ P 10 0) (hi2 : wre (P 11) (P 10 0) q = (wre (P 11) (P 10 0) (P 10 5))) (hn : P 10 0 - q < (n_1 : Int)) (H : Heap) (locs : List Loc) (hP : va_P D vwCl (scW cy a (upr P 10 (ups (P 10) 5 q))) H) (hD : va_D (va_A (scW cy a P) sz) (scW cy a (upr P 10 (ups (P 10) 5 q)))) (hS : va_S (va_A (scW cy a P) sz) s.heap H locs) (ls : Array Slot) (hl : lv_has ls 4 [(1, .int (iI (P 10 5))), (0, .ref (a 10))]), W p l e { frames := 6, cells := 0, slots := 0, locals := 133 } s m ([.ref (a 10)] : List Value).toArray below meth c H locs 0 0 (MQ below (kQi D (scW cy a P) sz (fun u9 : Nat → Int → Int => scW cy a u9) (fun r9 u9 => (∃ (x9 : Int) (zq : Int) (zN : Int → Int), (((∃ (k9 : Int) (B9 : Int → Int), (prsC (P 11) (P 10 0) (P 10 5) (nmC (P 13) (P 10 1))) = (0, x9, k9, B9)) ∧ (0 ≤ x9 ∧ x9 ≤ P 10 0)) ∧ nOK zN ∧ ∀ i9 : Int, 0 ≤ i9 → i9 < P 10 1 * 4 → zN i9 = P 13 i9) ∧ r9 = x9 ∧ u9 = (upr (upr P 10 (ups (P 10) 5 zq)) 13 (zN))) ∨ (∃ (x9 : Int) (k9 : Int) (zN : Int → Int), (((prsC (P 11) (P 10 0) (P 10 5) (nmC (P 13) (P 10 1))) = (1, x9, k9, nmC zN (P 10 1)) ∧ 0 ≤ k9 ∧ k9 ≤ 6) ∧ nOK zN ∧ ∀ i9 : Int, 0 ≤ i9 → i9 < P 10 1 * 4 → zN i9 = P 13 i9) ∧ r9 = -1 ∧ u9 = (upr (upr (upr P 10 (ups (ups (P 10) 5 x9) 1 (P 10 1 + 1))) 12 (ups (P 12) (P 10 1) k9)) 13 (zN))))) ([.ref (a 10)] : List Value).toArray s 0 0 (va_A (scW cy a P) sz)) (F0 m 5 ls []) := by
      intro n_1
      induction n_1 with
      | zero => intro q hi0 hi1 hi2 hn H locs hP hD hS ls hl; exfalso; omega
      | succ n_1 ih5 =>
        intro q hi0 hi1 hi2 hn H locs hP hD hS ls hl
        refine lv_aload_n hx hb dX5_readCommand_5 rfl (lv_at hl 1 rfl) ?_
        refine va_get (D := D) (ci := 4) (v := .int (iI q)) (C := RX5) (T := TX5) (N := 6) hx hb hts hinX5 hown hK hP 0 rfl rfl 5 (by decide) hmw0 (fun _ h9 => h9) rfl dX5_readCommand_6 ?_
        refine lv_aload_n hx hb dX5_readCommand_9 rfl (lv_at hl 1 rfl) ?_
        refine va_get (D := D) (ci := 4) (v := .int (iI (P 10 0))) (C := RX5) (T := TX5) (N := 6) hx hb hts hinX5 hown hK hP 0 rfl rfl 0 (by decide) hmw1 (fun _ h9 => h9) rfl dX5_readCommand_10 ?_
        refine k_icmp_ge (tgt := 57) hx hb dX5_readCommand_13 (by decide) (by omega) (by omega) (fun c_2 => ?_) (fun c_2 => ?_)
        · skip
          have hwq : (wre (P 11) (P 10 0) (P 10 5)) = q := by rw [← hi2]; exact wre_n (fun h9 => by omega)
          refine lv_aload_n hx hb dX5_readCommand_57 rfl (lv_at hl 1 rfl) ?_
          refine lv_iload_n hx hb dX5_readCommand_58 rfl (lv_at hl 0 rfl) ?_
          refine lv_aload_n hx hb dX5_readCommand_59 rfl (lv_at hl 1 rfl) ?_
          refine va_get (D := D) (ci := 4) (v := .int (iI q)) (C := RX5) (T := TX5) (N := 6) hx hb hts hinX5 hown hK hP 0 rfl rfl 5 (by decide) hmw0 (fun _ h9 => h9) rfl dX5_readCommand_60 ?_
          refine k_roV (As := [.int (iI (P 10 5)), .int (iI q)]) (rest := []) ⟨hx, hb, hml, hown, hts⟩ (c_X5_kindOf l D cy a (upr P 10 (ups (P 10) 5 q)) (P 10 5) q (show ∀ k : Int, 0 ≤ k → k < 150 → 0 ≤ (P 11) k ∧ (P 11) k ≤ 127 by omega) (show 0 ≤ (P 10 5) ∧ (P 10 5) ≤ q by omega) (show q ≤ 150 by omega)) gX5_readCommand_X5_kindOf rfl ⟨rfl, rfl⟩ 2 rfl (by decide +kernel) ⟨Nat.le_of_ble_eq_true rfl, Nat.le_of_ble_eq_true rfl⟩ (GS_ok D cy) ((GS_ok D cy).2.2.2 _ _ _ _ (fun _ h => h.elim) ((GS_ok D cy).1 _ _ _ _ hS.2.1 hGs)) hP (va_recv hK hP (ci := 4) (q0 := 0) rfl rfl) hl.1 rfl (Nat.le_of_ble_eq_true rfl) ⟨Nat.le_of_ble_eq_true rfl, Nat.le_of_ble_eq_true rfl⟩ dX5_readCommand_63 (fun r_3 hr_3 => ?_)
          have hr_3 : (((kindW ((P 11)) (P 10 5) q) = -1000000000) ∧ r_3 = -1) ∨ ((0 ≤ (kindW ((P 11)) (P 10 5) q) ∧ (kindW ((P 11)) (P 10 5) q) ≤ 6) ∧ r_3 = (kindW ((P 11)) (P 10 5) q)) := hr_3
          rcases hr_3 with ⟨c_4, hr_3⟩ | ⟨c_4, hr_3⟩ <;> subst hr_3
          · skip
            have hk0 := c_4
            rw [← hwq] at hk0
            have hpc := prsC_0 (T := P 11) (n := P 10 0) (q := P 10 5) (A := nmC (P 13) (P 10 1)) hk0
            refine lv_istore_n (lv' := [(2, .int (iI (-1))), (1, .int (iI (P 10 5))), (0, .ref (a 10))]) hx hb dX5_readCommand_66 rfl hl (by decide) rfl (fun ls hl => ?_)
            refine lv_iload_n hx hb dX5_readCommand_67 rfl (lv_at hl 0 rfl) ?_
            refine k_iconst hx hb dX5_readCommand_68 ?_
            refine k_icmp_ne (tgt := 74) hx hb dX5_readCommand_69 (by decide) (by omega) (by omega) (fun c_5 => ?_) (fun c_5 => ?_)
            · exfalso; omega
            · skip
              refine lv_iload_n hx hb dX5_readCommand_72 rfl (lv_at hl 1 rfl) ?_
              have hP : va_P D vwCl (scW cy a (upr (upr P 10 (ups (P 10) 5 q)) 13 (P 13))) H := hP
              have hD : va_D (va_A (scW cy a P) sz) (scW cy a (upr (upr P 10 (ups (P 10) 5 q)) 13 (P 13))) := hD
              exact W.iret (v := iI (P 10 5)) hx hb hr (fun t9 ht _ => ⟨⟨iI (P 10 5), (upr (upr P 10 (ups (P 10) 5 q)) 13 (P 13)), rfl, ⟨(P 10 5), rfl, (by first | exact Or.inl ⟨((P 10 5)), (q), ((P 13)), (⟨⟨⟨_, _, hpc⟩, by omega⟩, by first | exact hnn | exact hi5 | exact nOK_ups hi5 hdv, by first | exact fun _ _ _ => rfl | exact hi6 | exact fun i9 a9 b9 => (ups_ne _ _ (by omega)).trans (hi6 i9 a9 b9)⟩), (by first | rfl | omega), rfl⟩ : (∃ (x9 : Int) (zq : Int) (zN : Int → Int), (((∃ (k9 : Int) (B9 : Int → Int), (prsC (P 11) (P 10 0) (P 10 5) (nmC (P 13) (P 10 1))) = (0, x9, k9, B9)) ∧ (0 ≤ x9 ∧ x9 ≤ P 10 0)) ∧ nOK zN ∧ ∀ i9 : Int, 0 ≤ i9 → i9 < P 10 1 * 4 → zN i9 = P 13 i9) ∧ (P 10 5 : Int) = x9 ∧ (upr (upr P 10 (ups (P 10) 5 q)) 13 (P 13)) = (upr (upr P 10 (ups (P 10) 5 zq)) 13 (zN))) ∨ (∃ (x9 : Int) (k9 : Int) (zN : Int → Int), (((prsC (P 11) (P 10 0) (P 10 5) (nmC (P 13) (P 10 1))) = (1, x9, k9, nmC zN (P 10 1)) ∧ 0 ≤ k9 ∧ k9 ≤ 6) ∧ nOK zN ∧ ∀ i9 : Int, 0 ≤ i9 → i9 < P 10 1 * 4 → zN i9 = P 13 i9) ∧ (P 10 5 : Int) = -1 ∧ (upr (upr P 10 (ups (P 10) 5 q)) 13 (P 13)) = (upr (upr (upr P 10 (ups (ups (P 10) 5 x9) 1 (P 10 1 + 1))) 12 (ups (P 12) (P 10 1) k9)) 13 (zN))))⟩, by rw [ht]; exact hP, hD⟩, hS.F ht⟩) hS.2.2 dX5_readCommand_73 hlocks
          · skip
            have hk1 := c_4
            refine lv_istore_n (lv' := [(2, .int (iI (kindW ((P 11)) (P 10 5) q))), (1, .int (iI (P 10 5))), (0, .ref (a 10))]) hx hb dX5_readCommand_66 rfl hl (by decide) rfl (fun ls hl => ?_)
            refine lv_iload_n hx hb dX5_readCommand_67 rfl (lv_at hl 0 rfl) ?_
            refine k_iconst hx hb dX5_readCommand_68 ?_
            refine k_icmp_ne (tgt := 74) hx hb dX5_readCommand_69 (by decide) (by omega) (by omega) (fun c_6 => ?_) (fun c_6 => ?_)
            · skip
              refine k_iconst hx hb dX5_readCommand_74 ?_
              refine lv_istore_n (lv' := [(3, .int (iI 0)), (2, .int (iI (kindW ((P 11)) (P 10 5) q))), (1, .int (iI (P 10 5))), (0, .ref (a 10))]) hx hb dX5_readCommand_75 rfl hl (by decide) rfl (fun ls hl => ?_)
              have loop76 : ∀ (n_7 : Nat) (K9 : Int) (W9 : Int) (i : Int) (o : Int) (N : Int → Int) (hi0 : 0 ≤ i) (hi1 : i ≤ manyF K9) (hi2 : P 10 5 ≤ o ∧ o ≤ P 10 0) (hi3 : prsN (P 11) (P 10 0) (manyF K9 - i).toNat o (nmC N (P 10 1)) i = prsN (P 11) (P 10 0) (manyF K9).toNat W9 (nmC (P 13) (P 10 1)) 0) (hi4 : K9 = kindW (P 11) (P 10 5) (wre (P 11) (P 10 0) (P 10 5)) ∧ W9 = (wre (P 11) (P 10 0) (P 10 5)) ∧ 0 ≤ K9 ∧ K9 ≤ 6) (hi5 : nOK N) (hi6 : ∀ i9 : Int, 0 ≤ i9 → i9 < P 10 1 * 4 → N i9 = P 13 i9) (hn : manyF K9 - i < (n_7 : Int)) (H : Heap) (locs : List Loc) (hP : va_P D vwCl (scW cy a (upr (upr P 10 (ups (P 10) 5 o)) 13 (N))) H) (hD : va_D (va_A (scW cy a P) sz) (scW cy a (upr (upr P 10 (ups (P 10) 5 o)) 13 (N)))) (hS : va_S (va_A (scW cy a P) sz) s.heap H locs) (ls : Array Slot) (hl : lv_has ls 4 [(3, .int (iI i)), (2, .int (iI K9)), (1, .int (iI (P 10 5))), (0, .ref (a 10))]), W p l e { frames := 6, cells := 0, slots := 0, locals := 133 } s m ([.ref (a 10)] : List Value).toArray below meth c H locs 0 0 (MQ below (kQi D (scW cy a P) sz (fun u9 : Nat → Int → Int => scW cy a u9) (fun r9 u9 => (∃ (x9 : Int) (zq : Int) (zN : Int → Int), (((∃ (k9 : Int) (B9 : Int → Int), (prsC (P 11) (P 10 0) (P 10 5) (nmC (P 13) (P 10 1))) = (0, x9, k9, B9)) ∧ (0 ≤ x9 ∧ x9 ≤ P 10 0)) ∧ nOK zN ∧ ∀ i9 : Int, 0 ≤ i9 → i9 < P 10 1 * 4 → zN i9 = P 13 i9) ∧ r9 = x9 ∧ u9 = (upr (upr P 10 (ups (P 10) 5 zq)) 13 (zN))) ∨ (∃ (x9 : Int) (k9 : Int) (zN : Int → Int), (((prsC (P 11) (P 10 0) (P 10 5) (nmC (P 13) (P 10 1))) = (1, x9, k9, nmC zN (P 10 1)) ∧ 0 ≤ k9 ∧ k9 ≤ 6) ∧ nOK zN ∧ ∀ i9 : Int, 0 ≤ i9 → i9 < P 10 1 * 4 → zN i9 = P 13 i9) ∧ r9 = -1 ∧ u9 = (upr (upr (upr P 10 (ups (ups (P 10) 5 x9) 1 (P 10 1 + 1))) 12 (ups (P 12) (P 10 1) k9)) 13 (zN))))) ([.ref (a 10)] : List Value).toArray s 0 0 (va_A (scW cy a P) sz)) (F0 m 76 ls []) := by
                intro n_7
                induction n_7 with
                | zero => intro K9 W9 i o N hi0 hi1 hi2 hi3 hi4 hi5 hi6 hn H locs hP hD hS ls hl; exfalso; omega
                | succ n_7 ih76 =>
                  intro K9 W9 i o N hi0 hi1 hi2 hi3 hi4 hi5 hi6 hn H locs hP hD hS ls hl
                  have hsl := skp_le (T := P 11) hi2.2
                  have hmf := manyF_rg K9
                  have hnb := nb_many hi4.2.2
                  have hdl := dgF_bd (P 11) hsl.2
                  refine lv_iload_n hx hb dX5_readCommand_76 rfl (lv_at hl 0 rfl) ?_
                  obtain ⟨t_8, hZt_8, hTt_8⟩ := hG.2.2.2.2.2.2
                  refine va_gets hx hb hZt_8 hS hown hmw2 (fun _ h9 => h9) dX5_readCommand_77 ?_
                  refine lv_iload_n hx hb dX5_readCommand_80 rfl (lv_at hl 1 rfl) ?_
                  refine k_tald hx hb hTt_8 hS (by omega) dX5_readCommand_81 ?_
                  refine k_icmp_ge (tgt := 111) hx hb dX5_readCommand_82 (by decide) (by omega) (by omega) (fun c_9 => ?_) (fun c_9 => ?_)
                  · skip
                    have hpe : prsN (P 11) (P 10 0) (manyF K9).toNat W9 (nmC (P 13) (P 10 1)) 0 = (1, o, nmC N (P 10 1)) := by rw [← hi3, show (manyF K9 - i).toNat = 0 by omega]; rfl
                    refine lv_aload_n hx hb dX5_readCommand_111 rfl (lv_at hl 3 rfl) ?_
                    refine k_muv (k_runV (As := []) (rest := []) ⟨hx, hb, hml, hown, hts⟩ (c_X5_skipSpaces l D cy H.size a (upr (upr P 10 (ups (P 10) 5 o)) 13 (N)) (show 0 ≤ o ∧ o ≤ (P 10 0) by omega) (show (P 10 0) ≤ 150 by omega) (show ∀ k : Int, 0 ≤ k → k < 150 → 0 ≤ (P 11) k ∧ (P 11) k ≤ 127 by omega)) gX5_readCommand_X5_skipSpaces rfl ⟨rfl, rfl⟩ 0 rfl (by decide +kernel) ⟨Nat.le_of_ble_eq_true rfl, Nat.le_of_ble_eq_true rfl⟩ (GG_ok D cy) hG hS (k_free hD hS hA) hP hD (va_recv hK hP (ci := 4) (q0 := 0) rfl rfl) hl.1 rfl (Nat.le_of_ble_eq_true rfl) ⟨Nat.le_of_ble_eq_true rfl, Nat.le_of_ble_eq_true rfl⟩ dX5_readCommand_112) (k_free hD hS hA) hS (fun R_11 H1 locs1 hR_11 hP1 hD1 hS1 hk1 => ?_)
                    have hR_11 : R_11 = (upr (upr (upr P 10 (ups (P 10) 5 o)) 13 (N)) 10 (ups (ups (P 10) 5 o) 5 (skp (P 11) ((P 10 0)) (o)))) := hR_11
                    subst hR_11
                    have hDn : va_D (va_A (scW cy a P) sz) (scW cy a (upr (upr P 10 (ups (ups (P 10) 5 o) 5 (skp (P 11) ((P 10 0)) (o)))) 13 (N))) := k_addr hD rfl
                    have hPn : va_P D vwCl (scW cy a (upr (upr P 10 (ups (ups (P 10) 5 o) 5 (skp (P 11) ((P 10 0)) (o)))) 13 (N))) H1 := hP1
                    clear hP hD hS hP1 hD1 hk1
                    have hP := hPn
                    have hD := hDn
                    have hS := hS1
                    clear hPn hDn hS1
                    generalize H1 = H at hP hS ⊢
                    generalize locs1 = locs at hS ⊢
                    refine lv_aload_n hx hb dX5_readCommand_115 rfl (lv_at hl 3 rfl) ?_
                    refine k_roV (As := []) (rest := []) ⟨hx, hb, hml, hown, hts⟩ (c_X5_here l D cy a (upr (upr P 10 (ups (ups (P 10) 5 o) 5 (skp (P 11) ((P 10 0)) (o)))) 13 (N)) (show 0 ≤ (skp (P 11) ((P 10 0)) (o)) ∧ (skp (P 11) ((P 10 0)) (o)) ≤ ((P 10 0)) by omega) (show ((P 10 0)) ≤ 150 by omega)) gX5_readCommand_X5_here rfl ⟨rfl, rfl⟩ 0 rfl (by decide +kernel) ⟨Nat.le_of_ble_eq_true rfl, Nat.le_of_ble_eq_true rfl⟩ (GG_ok D cy) ((GG_ok D cy).2.2.2 _ _ _ _ (fun _ h => h.elim) ((GG_ok D cy).1 _ _ _ _ hS.2.1 hG)) hP (va_recv hK hP (ci := 4) (q0 := 0) rfl rfl) hl.1 rfl (Nat.le_of_ble_eq_true rfl) ⟨Nat.le_of_ble_eq_true rfl, Nat.le_of_ble_eq_true rfl⟩ dX5_readCommand_116 (fun r_12 hr_12 => ?_)
                    have hr_12 : (((skp (P 11) ((P 10 0)) (o)) < ((P 10 0))) ∧ r_12 = (P 11) ((skp (P 11) (P 10 0) (o)))) ∨ ((((P 10 0)) ≤ (skp (P 11) ((P 10 0)) (o))) ∧ r_12 = -1) := hr_12
                    rcases hr_12 with ⟨c_13, hr_12⟩ | ⟨c_13, hr_12⟩ <;> subst hr_12
                    · skip
                      have hT8 := hT (skp (P 11) (P 10 0) o) (by omega) (by omega)
                      refine k_bipush hx hb dX5_readCommand_119 (by decide +kernel) ?_
                      refine k_icmp_eq (tgt := 129) hx hb dX5_readCommand_121 (by decide) (by omega) (by omega) (fun c_14 => ?_) (fun c_14 => ?_)
                      · skip
                        have hpc := prsC_2 (T := P 11) (n := P 10 0) (q := P 10 5) (A := nmC (P 13) (P 10 1)) hi4.1.symm hi4.2.1.symm (by omega) hpe ⟨by omega, by omega⟩
                        refine lv_aload_n hx hb dX5_readCommand_129 rfl (lv_at hl 3 rfl) ?_
                        refine lv_dup hx hb dX5_readCommand_130 rfl ?_
                        refine va_get (D := D) (ci := 4) (v := .int (iI (skp (P 11) ((P 10 0)) (o)))) (C := RX5) (T := TX5) (N := 6) hx hb hts hinX5 hown hK hP 0 rfl rfl 5 (by decide) hmw0 (fun _ h9 => h9) rfl dX5_readCommand_131 ?_
                        refine k_iconst hx hb dX5_readCommand_134 ?_
                        refine k_iadd hx hb dX5_readCommand_135 ?_
                        refine va_put (D := D) (ci := 4) (v := .int (iI ((skp (P 11) ((P 10 0)) (o)) + 1))) (ty := .int) (C := RX5) (T := TX5) (N := 6) hx hb hts hinX5 tyX5 tyX5_ok nmX5 hown hK hP hD hS 0 rfl rfl 5 (by decide) hmw0 (fun _ h9 => h9) rfl (by decide +kernel) rfl rfl (Nat.le_of_ble_eq_true rfl) dX5_readCommand_136 (fun H locs hP hD hS => ?_)
                        have hP : va_P D vwCl (scW cy a (upr (upr P 10 (ups (ups (ups (P 10) 5 o) 5 (skp (P 11) ((P 10 0)) (o))) 5 ((skp (P 11) ((P 10 0)) (o)) + 1))) 13 (N))) H := hP
                        have hD : va_D (va_A (scW cy a P) sz) (scW cy a (upr (upr P 10 (ups (ups (ups (P 10) 5 o) 5 (skp (P 11) ((P 10 0)) (o))) 5 ((skp (P 11) ((P 10 0)) (o)) + 1))) 13 (N))) := hD
                        refine lv_aload_n hx hb dX5_readCommand_139 rfl (lv_at hl 3 rfl) ?_
                        refine va_get (D := D) (ci := 4) (v := .ref (a 12)) (C := RX5) (T := TX5) (N := 6) hx hb hts hinX5 hown hK hP 0 rfl rfl 3 (by decide) hmw3 (fun _ h9 => h9) rfl dX5_readCommand_140 ?_
                        refine lv_aload_n hx hb dX5_readCommand_143 rfl (lv_at hl 3 rfl) ?_
                        refine va_get (D := D) (ci := 4) (v := .int (iI (P 10 1))) (C := RX5) (T := TX5) (N := 6) hx hb hts hinX5 hown hK hP 0 rfl rfl 1 (by decide) hmw4 (fun _ h9 => h9) rfl dX5_readCommand_144 ?_
                        refine lv_iload_n hx hb dX5_readCommand_147 rfl (lv_at hl 1 rfl) ?_
                        refine k_iast hx hb hK hP hD hS 2 0 (f := P 12) rfl rfl (i := P 10 1) (x := K9) (by omega) dX5_readCommand_148 (fun H locs hP hD hS => ?_)
                        have hP : va_P D vwCl (scW cy a (upr (upr (upr P 10 (ups (ups (ups (P 10) 5 o) 5 (skp (P 11) ((P 10 0)) (o))) 5 ((skp (P 11) ((P 10 0)) (o)) + 1))) 12 (ups (P 12) (P 10 1) K9)) 13 (N))) H := hP
                        have hD : va_D (va_A (scW cy a P) sz) (scW cy a (upr (upr (upr P 10 (ups (ups (ups (P 10) 5 o) 5 (skp (P 11) ((P 10 0)) (o))) 5 ((skp (P 11) ((P 10 0)) (o)) + 1))) 12 (ups (P 12) (P 10 1) K9)) 13 (N))) := hD
                        refine lv_aload_n hx hb dX5_readCommand_149 rfl (lv_at hl 3 rfl) ?_
                        refine lv_dup hx hb dX5_readCommand_150 rfl ?_
                        refine va_get (D := D) (ci := 4) (v := .int (iI (P 10 1))) (C := RX5) (T := TX5) (N := 6) hx hb hts hinX5 hown hK hP 0 rfl rfl 1 (by decide) hmw4 (fun _ h9 => h9) rfl dX5_readCommand_151 ?_
                        refine k_iconst hx hb dX5_readCommand_154 ?_
                        refine k_iadd hx hb dX5_readCommand_155 ?_
                        refine va_put (D := D) (ci := 4) (v := .int (iI ((P 10 1) + 1))) (ty := .int) (C := RX5) (T := TX5) (N := 6) hx hb hts hinX5 tyX5 tyX5_ok nmX5 hown hK hP hD hS 0 rfl rfl 1 (by decide) hmw4 (fun _ h9 => h9) rfl (by decide +kernel) rfl rfl (Nat.le_of_ble_eq_true rfl) dX5_readCommand_156 (fun H locs hP hD hS => ?_)
                        have hP : va_P D vwCl (scW cy a (upr (upr (upr P 10 (ups (ups (ups (ups (P 10) 5 o) 5 (skp (P 11) ((P 10 0)) (o))) 5 ((skp (P 11) ((P 10 0)) (o)) + 1)) 1 ((P 10 1) + 1))) 12 (ups (P 12) (P 10 1) K9)) 13 (N))) H := hP
                        have hD : va_D (va_A (scW cy a P) sz) (scW cy a (upr (upr (upr P 10 (ups (ups (ups (ups (P 10) 5 o) 5 (skp (P 11) ((P 10 0)) (o))) 5 ((skp (P 11) ((P 10 0)) (o)) + 1)) 1 ((P 10 1) + 1))) 12 (ups (P 12) (P 10 1) K9)) 13 (N))) := hD
                        refine k_iconst hx hb dX5_readCommand_159 ?_
                        exact W.iret (v := iI (-1)) hx hb hr (fun t9 ht _ => ⟨⟨iI (-1), (upr (upr (upr P 10 (ups (ups (ups (ups (P 10) 5 o) 5 (skp (P 11) ((P 10 0)) (o))) 5 ((skp (P 11) ((P 10 0)) (o)) + 1)) 1 ((P 10 1) + 1))) 12 (ups (P 12) (P 10 1) K9)) 13 (N)), rfl, ⟨(-1), rfl, (by first | exact Or.inr (⟨(((skp (P 11) ((P 10 0)) (o)) + 1)), (K9), (N), (⟨⟨hpc, hi4.2.2⟩, hi5, hi6⟩), (by first | rfl | omega), (by rw [show (ups (ups (ups (ups (P 10) 5 o) 5 (skp (P 11) ((P 10 0)) (o))) 5 ((skp (P 11) ((P 10 0)) (o)) + 1)) 1 ((P 10 1) + 1)) = (ups (ups (P 10) 5 ((skp (P 11) ((P 10 0)) (o)) + 1)) 1 (P 10 1 + 1)) from by first | rfl | exact ups_ups _ _ _ _ | (funext k9; unfold ups; (repeat' split) <;> first | rfl | omega | (exfalso; omega))])⟩) : (∃ (x9 : Int) (zq : Int) (zN : Int → Int), (((∃ (k9 : Int) (B9 : Int → Int), (prsC (P 11) (P 10 0) (P 10 5) (nmC (P 13) (P 10 1))) = (0, x9, k9, B9)) ∧ (0 ≤ x9 ∧ x9 ≤ P 10 0)) ∧ nOK zN ∧ ∀ i9 : Int, 0 ≤ i9 → i9 < P 10 1 * 4 → zN i9 = P 13 i9) ∧ ((-1) : Int) = x9 ∧ (upr (upr (upr P 10 (ups (ups (ups (ups (P 10) 5 o) 5 (skp (P 11) ((P 10 0)) (o))) 5 ((skp (P 11) ((P 10 0)) (o)) + 1)) 1 ((P 10 1) + 1))) 12 (ups (P 12) (P 10 1) K9)) 13 (N)) = (upr (upr P 10 (ups (P 10) 5 zq)) 13 (zN))) ∨ (∃ (x9 : Int) (k9 : Int) (zN : Int → Int), (((prsC (P 11) (P 10 0) (P 10 5) (nmC (P 13) (P 10 1))) = (1, x9, k9, nmC zN (P 10 1)) ∧ 0 ≤ k9 ∧ k9 ≤ 6) ∧ nOK zN ∧ ∀ i9 : Int, 0 ≤ i9 → i9 < P 10 1 * 4 → zN i9 = P 13 i9) ∧ ((-1) : Int) = -1 ∧ (upr (upr (upr P 10 (ups (ups (ups (ups (P 10) 5 o) 5 (skp (P 11) ((P 10 0)) (o))) 5 ((skp (P 11) ((P 10 0)) (o)) + 1)) 1 ((P 10 1) + 1))) 12 (ups (P 12) (P 10 1) K9)) 13 (N)) = (upr (upr (upr P 10 (ups (ups (P 10) 5 x9) 1 (P 10 1 + 1))) 12 (ups (P 12) (P 10 1) k9)) 13 (zN))))⟩, by rw [ht]; exact hP, hD⟩, hS.F ht⟩) hS.2.2 dX5_readCommand_160 hlocks
                      · skip
                        have hpc := prsC_3 (T := P 11) (n := P 10 0) (q := P 10 5) (A := nmC (P 13) (P 10 1)) hi4.1.symm hi4.2.1.symm (by omega) hpe (fun h9 => by omega)
                        refine lv_aload_n hx hb dX5_readCommand_124 rfl (lv_at hl 3 rfl) ?_
                        refine va_get (D := D) (ci := 4) (v := .int (iI (skp (P 11) ((P 10 0)) (o)))) (C := RX5) (T := TX5) (N := 6) hx hb hts hinX5 hown hK hP 0 rfl rfl 5 (by decide) hmw0 (fun _ h9 => h9) rfl dX5_readCommand_125 ?_
                        exact W.iret (v := iI (skp (P 11) ((P 10 0)) (o))) hx hb hr (fun t9 ht _ => ⟨⟨iI (skp (P 11) ((P 10 0)) (o)), (upr (upr P 10 (ups (ups (P 10) 5 o) 5 (skp (P 11) ((P 10 0)) (o)))) 13 (N)), rfl, ⟨(skp (P 11) ((P 10 0)) (o)), rfl, (by first | exact Or.inl ⟨((skp (P 11) ((P 10 0)) (o))), ((skp (P 11) ((P 10 0)) (o))), (N), (⟨⟨⟨_, _, hpc⟩, by omega⟩, by first | exact hnn | exact hi5 | exact nOK_ups hi5 hdv, by first | exact fun _ _ _ => rfl | exact hi6 | exact fun i9 a9 b9 => (ups_ne _ _ (by omega)).trans (hi6 i9 a9 b9)⟩), (by first | rfl | omega), (by rw [show (ups (ups (P 10) 5 o) 5 (skp (P 11) ((P 10 0)) (o))) = (ups (P 10) 5 (skp (P 11) ((P 10 0)) (o))) from by first | rfl | exact ups_ups _ _ _ _ | (funext k9; unfold ups; (repeat' split) <;> first | rfl | omega | (exfalso; omega))])⟩ : (∃ (x9 : Int) (zq : Int) (zN : Int → Int), (((∃ (k9 : Int) (B9 : Int → Int), (prsC (P 11) (P 10 0) (P 10 5) (nmC (P 13) (P 10 1))) = (0, x9, k9, B9)) ∧ (0 ≤ x9 ∧ x9 ≤ P 10 0)) ∧ nOK zN ∧ ∀ i9 : Int, 0 ≤ i9 → i9 < P 10 1 * 4 → zN i9 = P 13 i9) ∧ (skp (P 11) ((P 10 0)) (o) : Int) = x9 ∧ (upr (upr P 10 (ups (ups (P 10) 5 o) 5 (skp (P 11) ((P 10 0)) (o)))) 13 (N)) = (upr (upr P 10 (ups (P 10) 5 zq)) 13 (zN))) ∨ (∃ (x9 : Int) (k9 : Int) (zN : Int → Int), (((prsC (P 11) (P 10 0) (P 10 5) (nmC (P 13) (P 10 1))) = (1, x9, k9, nmC zN (P 10 1)) ∧ 0 ≤ k9 ∧ k9 ≤ 6) ∧ nOK zN ∧ ∀ i9 : Int, 0 ≤ i9 → i9 < P 10 1 * 4 → zN i9 = P 13 i9) ∧ (skp (P 11) ((P 10 0)) (o) : Int) = -1 ∧ (upr (upr P 10 (ups (ups (P 10) 5 o) 5 (skp (P 11) ((P 10 0)) (o)))) 13 (N)) = (upr (upr (upr P 10 (ups (ups (P 10) 5 x9) 1 (P 10 1 + 1))) 12 (ups (P 12) (P 10 1) k9)) 13 (zN))))⟩, by rw [ht]; exact hP, hD⟩, hS.F ht⟩) hS.2.2 dX5_readCommand_128 hlocks
                    · skip
                      refine k_bipush hx hb dX5_readCommand_119 (by decide +kernel) ?_
                      refine k_icmp_eq (tgt := 129) hx hb dX5_readCommand_121 (by decide) (by omega) (by omega) (fun c_15 => ?_) (fun c_15 => ?_)
                      · exfalso; omega
                      · skip
                        have hpc := prsC_3 (T := P 11) (n := P 10 0) (q := P 10 5) (A := nmC (P 13) (P 10 1)) hi4.1.symm hi4.2.1.symm (by omega) hpe (fun h9 => by omega)
                        refine lv_aload_n hx hb dX5_readCommand_124 rfl (lv_at hl 3 rfl) ?_
                        refine va_get (D := D) (ci := 4) (v := .int (iI (skp (P 11) ((P 10 0)) (o)))) (C := RX5) (T := TX5) (N := 6) hx hb hts hinX5 hown hK hP 0 rfl rfl 5 (by decide) hmw0 (fun _ h9 => h9) rfl dX5_readCommand_125 ?_
                        exact W.iret (v := iI (skp (P 11) ((P 10 0)) (o))) hx hb hr (fun t9 ht _ => ⟨⟨iI (skp (P 11) ((P 10 0)) (o)), (upr (upr P 10 (ups (ups (P 10) 5 o) 5 (skp (P 11) ((P 10 0)) (o)))) 13 (N)), rfl, ⟨(skp (P 11) ((P 10 0)) (o)), rfl, (by first | exact Or.inl ⟨((skp (P 11) ((P 10 0)) (o))), ((skp (P 11) ((P 10 0)) (o))), (N), (⟨⟨⟨_, _, hpc⟩, by omega⟩, by first | exact hnn | exact hi5 | exact nOK_ups hi5 hdv, by first | exact fun _ _ _ => rfl | exact hi6 | exact fun i9 a9 b9 => (ups_ne _ _ (by omega)).trans (hi6 i9 a9 b9)⟩), (by first | rfl | omega), (by rw [show (ups (ups (P 10) 5 o) 5 (skp (P 11) ((P 10 0)) (o))) = (ups (P 10) 5 (skp (P 11) ((P 10 0)) (o))) from by first | rfl | exact ups_ups _ _ _ _ | (funext k9; unfold ups; (repeat' split) <;> first | rfl | omega | (exfalso; omega))])⟩ : (∃ (x9 : Int) (zq : Int) (zN : Int → Int), (((∃ (k9 : Int) (B9 : Int → Int), (prsC (P 11) (P 10 0) (P 10 5) (nmC (P 13) (P 10 1))) = (0, x9, k9, B9)) ∧ (0 ≤ x9 ∧ x9 ≤ P 10 0)) ∧ nOK zN ∧ ∀ i9 : Int, 0 ≤ i9 → i9 < P 10 1 * 4 → zN i9 = P 13 i9) ∧ (skp (P 11) ((P 10 0)) (o) : Int) = x9 ∧ (upr (upr P 10 (ups (ups (P 10) 5 o) 5 (skp (P 11) ((P 10 0)) (o)))) 13 (N)) = (upr (upr P 10 (ups (P 10) 5 zq)) 13 (zN))) ∨ (∃ (x9 : Int) (k9 : Int) (zN : Int → Int), (((prsC (P 11) (P 10 0) (P 10 5) (nmC (P 13) (P 10 1))) = (1, x9, k9, nmC zN (P 10 1)) ∧ 0 ≤ k9 ∧ k9 ≤ 6) ∧ nOK zN ∧ ∀ i9 : Int, 0 ≤ i9 → i9 < P 10 1 * 4 → zN i9 = P 13 i9) ∧ (skp (P 11) ((P 10 0)) (o) : Int) = -1 ∧ (upr (upr P 10 (ups (ups (P 10) 5 o) 5 (skp (P 11) ((P 10 0)) (o)))) 13 (N)) = (upr (upr (upr P 10 (ups (ups (P 10) 5 x9) 1 (P 10 1 + 1))) 12 (ups (P 12) (P 10 1) k9)) 13 (zN))))⟩, by rw [ht]; exact hP, hD⟩, hS.F ht⟩) hS.2.2 dX5_readCommand_128 hlocks
                  · skip
                    refine lv_aload_n hx hb dX5_readCommand_85 rfl (lv_at hl 3 rfl) ?_
                    refine lv_aload_n hx hb dX5_readCommand_86 rfl (lv_at hl 3 rfl) ?_
                    refine va_get (D := D) (ci := 4) (v := .int (iI (P 10 1))) (C := RX5) (T := TX5) (N := 6) hx hb hts hinX5 hown hK hP 0 rfl rfl 1 (by decide) hmw4 (fun _ h9 => h9) rfl dX5_readCommand_87 ?_
                    refine k_iconst hx hb dX5_readCommand_90 ?_
                    refine k_imul hx hb dX5_readCommand_91 ?_
                    refine lv_iload_n hx hb dX5_readCommand_92 rfl (lv_at hl 0 rfl) ?_
                    refine k_iadd hx hb dX5_readCommand_93 ?_
                    refine k_mui (k_runV (As := [.int (iI (((P 10 1) * 4) + i))]) (rest := []) ⟨hx, hb, hml, hown, hts⟩ (c_X5_readNumber l D cy H.size a (upr (upr P 10 (ups (P 10) 5 o)) 13 (N)) (((P 10 1) * 4) + i) (show 0 ≤ o ∧ o ≤ (P 10 0) by omega) (show (P 10 0) ≤ 150 by omega) (show ∀ k : Int, 0 ≤ k → k < 150 → 0 ≤ (P 11) k ∧ (P 11) k ≤ 127 by omega) (show 0 ≤ (((P 10 1) * 4) + i) ∧ (((P 10 1) * 4) + i) < 600 by omega)) gX5_readCommand_X5_readNumber rfl ⟨rfl, rfl⟩ 1 rfl (by decide +kernel) ⟨Nat.le_of_ble_eq_true rfl, Nat.le_of_ble_eq_true rfl⟩ (GG_ok D cy) hG hS (k_free hD hS hA) hP hD (va_recv hK hP (ci := 4) (q0 := 0) rfl rfl) hl.1 rfl (Nat.le_of_ble_eq_true rfl) ⟨Nat.le_of_ble_eq_true rfl, Nat.le_of_ble_eq_true rfl⟩ dX5_readCommand_94) (k_free hD hS hA) hS (fun r_16 R_17 H1 locs1 hR_17 hP1 hD1 hS1 hk1 => ?_)
                    rcases hR_17 with ⟨c_18, hr_16, hR_17⟩ | ⟨c_18, hr_16, hR_17⟩ | ⟨dq_19, dv_20, c_18, hr_16, hR_17⟩ | ⟨dq_21, dv_22, c_18, hr_16, hR_17⟩
                    · skip
                      have c_18 : (skp (P 11) ((P 10 0)) (o)) = o := c_18
                      subst hr_16
                      subst hR_17
                      have hDn : va_D (va_A (scW cy a P) sz) (scW cy a (upr (upr P 10 (ups (P 10) 5 o)) 13 (N))) := k_addr hD rfl
                      have hPn : va_P D vwCl (scW cy a (upr (upr P 10 (ups (P 10) 5 o)) 13 (N))) H1 := hP1
                      clear hP hD hS hP1 hD1 hk1
                      have hP := hPn
                      have hD := hDn
                      have hS := hS1
                      clear hPn hDn hS1
                      generalize H1 = H at hP hS ⊢
                      generalize locs1 = locs at hS ⊢
                      have hps := prsN_a (T := P 11) (n := P 10 0) (m := manyF K9) (k := i) (q := o) (A := nmC N (P 10 1)) (by omega) c_18
                      have hpc := prsC_1 (T := P 11) (n := P 10 0) (q := P 10 5) (A := nmC (P 13) (P 10 1)) hi4.1.symm hi4.2.1.symm (by omega) (hi3.symm.trans hps)
                      refine k_if_ne (tgt := 105) hx hb dX5_readCommand_97 (by decide) (by omega) (fun c_23 => ?_) (fun c_23 => ?_)
                      · exfalso; omega
                      · skip
                        refine lv_aload_n hx hb dX5_readCommand_100 rfl (lv_at hl 3 rfl) ?_
                        refine va_get (D := D) (ci := 4) (v := .int (iI o)) (C := RX5) (T := TX5) (N := 6) hx hb hts hinX5 hown hK hP 0 rfl rfl 5 (by decide) hmw0 (fun _ h9 => h9) rfl dX5_readCommand_101 ?_
                        exact W.iret (v := iI o) hx hb hr (fun t9 ht _ => ⟨⟨iI o, (upr (upr P 10 (ups (P 10) 5 o)) 13 (N)), rfl, ⟨o, rfl, (by first | exact Or.inl ⟨(o), (o), (N), (⟨⟨⟨_, _, hpc⟩, by omega⟩, by first | exact hnn | exact hi5 | exact nOK_ups hi5 hdv, by first | exact fun _ _ _ => rfl | exact hi6 | exact fun i9 a9 b9 => (ups_ne _ _ (by omega)).trans (hi6 i9 a9 b9)⟩), (by first | rfl | omega), rfl⟩ : (∃ (x9 : Int) (zq : Int) (zN : Int → Int), (((∃ (k9 : Int) (B9 : Int → Int), (prsC (P 11) (P 10 0) (P 10 5) (nmC (P 13) (P 10 1))) = (0, x9, k9, B9)) ∧ (0 ≤ x9 ∧ x9 ≤ P 10 0)) ∧ nOK zN ∧ ∀ i9 : Int, 0 ≤ i9 → i9 < P 10 1 * 4 → zN i9 = P 13 i9) ∧ (o : Int) = x9 ∧ (upr (upr P 10 (ups (P 10) 5 o)) 13 (N)) = (upr (upr P 10 (ups (P 10) 5 zq)) 13 (zN))) ∨ (∃ (x9 : Int) (k9 : Int) (zN : Int → Int), (((prsC (P 11) (P 10 0) (P 10 5) (nmC (P 13) (P 10 1))) = (1, x9, k9, nmC zN (P 10 1)) ∧ 0 ≤ k9 ∧ k9 ≤ 6) ∧ nOK zN ∧ ∀ i9 : Int, 0 ≤ i9 → i9 < P 10 1 * 4 → zN i9 = P 13 i9) ∧ (o : Int) = -1 ∧ (upr (upr P 10 (ups (P 10) 5 o)) 13 (N)) = (upr (upr (upr P 10 (ups (ups (P 10) 5 x9) 1 (P 10 1 + 1))) 12 (ups (P 12) (P 10 1) k9)) 13 (zN))))⟩, by rw [ht]; exact hP, hD⟩, hS.F ht⟩) hS.2.2 dX5_readCommand_104 hlocks
                    · skip
                      have c_18 : o < (skp (P 11) ((P 10 0)) (o)) ∧ (dgF (P 11) ((P 10 0)) (skp (P 11) ((P 10 0)) (o))) = ((skp (P 11) ((P 10 0)) (o)), 0) := c_18
                      subst hr_16
                      subst hR_17
                      have hDn : va_D (va_A (scW cy a P) sz) (scW cy a (upr (upr P 10 (ups (ups (P 10) 5 o) 5 (skp (P 11) ((P 10 0)) (o)))) 13 (N))) := k_addr hD rfl
                      have hPn : va_P D vwCl (scW cy a (upr (upr P 10 (ups (ups (P 10) 5 o) 5 (skp (P 11) ((P 10 0)) (o)))) 13 (N))) H1 := hP1
                      clear hP hD hS hP1 hD1 hk1
                      have hP := hPn
                      have hD := hDn
                      have hS := hS1
                      clear hPn hDn hS1
                      generalize H1 = H at hP hS ⊢
                      generalize locs1 = locs at hS ⊢
                      have hps := prsN_b (T := P 11) (n := P 10 0) (m := manyF K9) (k := i) (q := o) (A := nmC N (P 10 1)) (by omega) (by omega) c_18.2
                      have hpc := prsC_1 (T := P 11) (n := P 10 0) (q := P 10 5) (A := nmC (P 13) (P 10 1)) hi4.1.symm hi4.2.1.symm (by omega) (hi3.symm.trans hps)
                      refine k_if_ne (tgt := 105) hx hb dX5_readCommand_97 (by decide) (by omega) (fun c_24 => ?_) (fun c_24 => ?_)
                      · exfalso; omega
                      · skip
                        refine lv_aload_n hx hb dX5_readCommand_100 rfl (lv_at hl 3 rfl) ?_
                        refine va_get (D := D) (ci := 4) (v := .int (iI (skp (P 11) ((P 10 0)) (o)))) (C := RX5) (T := TX5) (N := 6) hx hb hts hinX5 hown hK hP 0 rfl rfl 5 (by decide) hmw0 (fun _ h9 => h9) rfl dX5_readCommand_101 ?_
                        exact W.iret (v := iI (skp (P 11) ((P 10 0)) (o))) hx hb hr (fun t9 ht _ => ⟨⟨iI (skp (P 11) ((P 10 0)) (o)), (upr (upr P 10 (ups (ups (P 10) 5 o) 5 (skp (P 11) ((P 10 0)) (o)))) 13 (N)), rfl, ⟨(skp (P 11) ((P 10 0)) (o)), rfl, (by first | exact Or.inl ⟨((skp (P 11) ((P 10 0)) (o))), ((skp (P 11) ((P 10 0)) (o))), (N), (⟨⟨⟨_, _, hpc⟩, by omega⟩, by first | exact hnn | exact hi5 | exact nOK_ups hi5 hdv, by first | exact fun _ _ _ => rfl | exact hi6 | exact fun i9 a9 b9 => (ups_ne _ _ (by omega)).trans (hi6 i9 a9 b9)⟩), (by first | rfl | omega), (by rw [show (ups (ups (P 10) 5 o) 5 (skp (P 11) ((P 10 0)) (o))) = (ups (P 10) 5 (skp (P 11) ((P 10 0)) (o))) from by first | rfl | exact ups_ups _ _ _ _ | (funext k9; unfold ups; (repeat' split) <;> first | rfl | omega | (exfalso; omega))])⟩ : (∃ (x9 : Int) (zq : Int) (zN : Int → Int), (((∃ (k9 : Int) (B9 : Int → Int), (prsC (P 11) (P 10 0) (P 10 5) (nmC (P 13) (P 10 1))) = (0, x9, k9, B9)) ∧ (0 ≤ x9 ∧ x9 ≤ P 10 0)) ∧ nOK zN ∧ ∀ i9 : Int, 0 ≤ i9 → i9 < P 10 1 * 4 → zN i9 = P 13 i9) ∧ (skp (P 11) ((P 10 0)) (o) : Int) = x9 ∧ (upr (upr P 10 (ups (ups (P 10) 5 o) 5 (skp (P 11) ((P 10 0)) (o)))) 13 (N)) = (upr (upr P 10 (ups (P 10) 5 zq)) 13 (zN))) ∨ (∃ (x9 : Int) (k9 : Int) (zN : Int → Int), (((prsC (P 11) (P 10 0) (P 10 5) (nmC (P 13) (P 10 1))) = (1, x9, k9, nmC zN (P 10 1)) ∧ 0 ≤ k9 ∧ k9 ≤ 6) ∧ nOK zN ∧ ∀ i9 : Int, 0 ≤ i9 → i9 < P 10 1 * 4 → zN i9 = P 13 i9) ∧ (skp (P 11) ((P 10 0)) (o) : Int) = -1 ∧ (upr (upr P 10 (ups (ups (P 10) 5 o) 5 (skp (P 11) ((P 10 0)) (o)))) 13 (N)) = (upr (upr (upr P 10 (ups (ups (P 10) 5 x9) 1 (P 10 1 + 1))) 12 (ups (P 12) (P 10 1) k9)) 13 (zN))))⟩, by rw [ht]; exact hP, hD⟩, hS.F ht⟩) hS.2.2 dX5_readCommand_104 hlocks
                    · skip
                      have c_18 : ((o < (skp (P 11) ((P 10 0)) (o)) ∧ (skp (P 11) ((P 10 0)) (o)) < dq_19 ∧ dq_19 ≤ (P 10 0)) ∧ (dgF (P 11) ((P 10 0)) (skp (P 11) ((P 10 0)) (o))) = (dq_19, dv_20)) ∧ (dq_19 < (P 10 0) ∧ 48 ≤ (P 11) dq_19 ∧ (P 11) dq_19 ≤ 57) := c_18
                      subst hr_16
                      subst hR_17
                      have hDn : va_D (va_A (scW cy a P) sz) (scW cy a (upr (upr P 10 (ups (ups (P 10) 5 o) 5 dq_19)) 13 (ups (N) (((P 10 1) * 4) + i) dv_20))) := k_addr hD rfl
                      have hPn : va_P D vwCl (scW cy a (upr (upr P 10 (ups (ups (P 10) 5 o) 5 dq_19)) 13 (ups (N) (((P 10 1) * 4) + i) dv_20))) H1 := hP1
                      clear hP hD hS hP1 hD1 hk1
                      have hP := hPn
                      have hD := hDn
                      have hS := hS1
                      clear hPn hDn hS1
                      generalize H1 = H at hP hS ⊢
                      generalize locs1 = locs at hS ⊢
                      have hdd := c_18.1.2
                      have hdv := hdl.2
                      rw [c_18.1.2] at hdv
                      have hpc := rd_long (T := P 11) (n := P 10 0) (m := manyF K9) (i := i) (q := o) (A := nmC (P 13) (P 10 1)) (B := nmC N (P 10 1)) (by omega) rfl (by omega) c_18.1.2 (by omega) (by omega) hi3 hi4.1.symm hi4.2.1.symm (by omega)
                      refine k_if_ne (tgt := 105) hx hb dX5_readCommand_97 (by decide) (by omega) (fun c_25 => ?_) (fun c_25 => ?_)
                      · exfalso; omega
                      · skip
                        refine lv_aload_n hx hb dX5_readCommand_100 rfl (lv_at hl 3 rfl) ?_
                        refine va_get (D := D) (ci := 4) (v := .int (iI dq_19)) (C := RX5) (T := TX5) (N := 6) hx hb hts hinX5 hown hK hP 0 rfl rfl 5 (by decide) hmw0 (fun _ h9 => h9) rfl dX5_readCommand_101 ?_
                        exact W.iret (v := iI dq_19) hx hb hr (fun t9 ht _ => ⟨⟨iI dq_19, (upr (upr P 10 (ups (ups (P 10) 5 o) 5 dq_19)) 13 (ups (N) (((P 10 1) * 4) + i) dv_20)), rfl, ⟨dq_19, rfl, (by first | exact Or.inl ⟨(dq_19), (dq_19), ((ups (N) (((P 10 1) * 4) + i) dv_20)), (⟨⟨⟨_, _, hpc⟩, by omega⟩, by first | exact hnn | exact hi5 | exact nOK_ups hi5 hdv, by first | exact fun _ _ _ => rfl | exact hi6 | exact fun i9 a9 b9 => (ups_ne _ _ (by omega)).trans (hi6 i9 a9 b9)⟩), (by first | rfl | omega), (by rw [show (ups (ups (P 10) 5 o) 5 dq_19) = (ups (P 10) 5 dq_19) from by first | rfl | exact ups_ups _ _ _ _ | (funext k9; unfold ups; (repeat' split) <;> first | rfl | omega | (exfalso; omega))])⟩ : (∃ (x9 : Int) (zq : Int) (zN : Int → Int), (((∃ (k9 : Int) (B9 : Int → Int), (prsC (P 11) (P 10 0) (P 10 5) (nmC (P 13) (P 10 1))) = (0, x9, k9, B9)) ∧ (0 ≤ x9 ∧ x9 ≤ P 10 0)) ∧ nOK zN ∧ ∀ i9 : Int, 0 ≤ i9 → i9 < P 10 1 * 4 → zN i9 = P 13 i9) ∧ (dq_19 : Int) = x9 ∧ (upr (upr P 10 (ups (ups (P 10) 5 o) 5 dq_19)) 13 (ups (N) (((P 10 1) * 4) + i) dv_20)) = (upr (upr P 10 (ups (P 10) 5 zq)) 13 (zN))) ∨ (∃ (x9 : Int) (k9 : Int) (zN : Int → Int), (((prsC (P 11) (P 10 0) (P 10 5) (nmC (P 13) (P 10 1))) = (1, x9, k9, nmC zN (P 10 1)) ∧ 0 ≤ k9 ∧ k9 ≤ 6) ∧ nOK zN ∧ ∀ i9 : Int, 0 ≤ i9 → i9 < P 10 1 * 4 → zN i9 = P 13 i9) ∧ (dq_19 : Int) = -1 ∧ (upr (upr P 10 (ups (ups (P 10) 5 o) 5 dq_19)) 13 (ups (N) (((P 10 1) * 4) + i) dv_20)) = (upr (upr (upr P 10 (ups (ups (P 10) 5 x9) 1 (P 10 1 + 1))) 12 (ups (P 12) (P 10 1) k9)) 13 (zN))))⟩, by rw [ht]; exact hP, hD⟩, hS.F ht⟩) hS.2.2 dX5_readCommand_104 hlocks
                    · skip
                      have c_18 : ((o < (skp (P 11) ((P 10 0)) (o)) ∧ (skp (P 11) ((P 10 0)) (o)) < dq_21 ∧ dq_21 ≤ (P 10 0)) ∧ (dgF (P 11) ((P 10 0)) (skp (P 11) ((P 10 0)) (o))) = (dq_21, dv_22)) ∧ ¬ (dq_21 < (P 10 0) ∧ 48 ≤ (P 11) dq_21 ∧ (P 11) dq_21 ≤ 57) := c_18
                      subst hr_16
                      subst hR_17
                      have hDn : va_D (va_A (scW cy a P) sz) (scW cy a (upr (upr P 10 (ups (ups (P 10) 5 o) 5 dq_21)) 13 (ups (N) (((P 10 1) * 4) + i) dv_22))) := k_addr hD rfl
                      have hPn : va_P D vwCl (scW cy a (upr (upr P 10 (ups (ups (P 10) 5 o) 5 dq_21)) 13 (ups (N) (((P 10 1) * 4) + i) dv_22))) H1 := hP1
                      clear hP hD hS hP1 hD1 hk1
                      have hP := hPn
                      have hD := hDn
                      have hS := hS1
                      clear hPn hDn hS1
                      generalize H1 = H at hP hS ⊢
                      generalize locs1 = locs at hS ⊢
                      have hdd := c_18.1.2
                      have hdv := hdl.2
                      rw [c_18.1.2] at hdv
                      have hps := prsN_c (T := P 11) (n := P 10 0) (m := manyF K9) (k := i) (q := o) (A := nmC N (P 10 1)) (by omega) (by omega) c_18.1.2 (by omega)
                      refine k_if_ne (tgt := 105) hx hb dX5_readCommand_97 (by decide) (by omega) (fun c_26 => ?_) (fun c_26 => ?_)
                      · skip
                        refine lv_iinc (v := iI (i + 1)) (lv' := [(3, .int (iI (i + 1))), (2, .int (iI K9)), (1, .int (iI (P 10 5))), (0, .ref (a 10))]) hx hb dX5_readCommand_105 hl (k := 0) rfl (iI_add _ _) (by decide) rfl (fun ls hl => ?_)
                        refine lv_goto (tgt := 76) hx hb dX5_readCommand_108 (by decide) ?_
                        exact ih76 K9 W9 (i + 1) dq_21 (ups (N) (((P 10 1) * 4) + i) dv_22)  (by omega) (by omega) (by omega) (by rw [nmC_ups]; exact hps.symm.trans hi3) (hi4) (nOK_ups hi5 hdv) (fun i9 a9 b9 => by rw [ups_ne _ _ (by omega)]; exact hi6 i9 a9 b9) (by omega) H locs (by rw [show (ups (P 10) 5 dq_21) = (ups (ups (P 10) 5 o) 5 dq_21) from (ups_ups _ _ _ _).symm]; exact hP) (k_addr hD rfl) hS ls (lv_sub hl [0, 1, 2, 3] rfl)
                      · exfalso; omega
              exact loop76 ((manyF (kindW ((P 11)) (P 10 5) q) - 0 : Int) + 1).toNat (kindW ((P 11)) (P 10 5) q) q 0 q (P 13)  (by omega) ((manyF_rg _).1) (by omega) (by rw [Int.sub_zero]) (⟨by rw [← hwq], hwq.symm, by omega⟩) (hnn) (fun _ _ _ => rfl) (by omega) H locs (hP) (k_addr hD rfl) hS ls (lv_sub hl [0, 1, 2, 3] rfl)
            · exfalso; omega
        · skip
          have hT9 := hT q (by omega) (by omega)
          refine lv_aload_n hx hb dX5_readCommand_16 rfl (lv_at hl 1 rfl) ?_
          refine va_get (D := D) (ci := 4) (v := .ref (a 11)) (C := RX5) (T := TX5) (N := 6) hx hb hts hinX5 hown hK hP 0 rfl rfl 2 (by decide) hmw5 (fun _ h9 => h9) rfl dX5_readCommand_17 ?_
          refine lv_aload_n hx hb dX5_readCommand_20 rfl (lv_at hl 1 rfl) ?_
          refine va_get (D := D) (ci := 4) (v := .int (iI q)) (C := RX5) (T := TX5) (N := 6) hx hb hts hinX5 hown hK hP 0 rfl rfl 5 (by decide) hmw0 (fun _ h9 => h9) rfl dX5_readCommand_21 ?_
          refine k_bald hx hb hK hP 1 1 (f := P 11) rfl rfl (i := q) (by omega) dX5_readCommand_24 ?_
          refine k_bipush hx hb dX5_readCommand_25 (by decide +kernel) ?_
          refine k_icmp_lt (tgt := 57) hx hb dX5_readCommand_27 (by decide) (by omega) (by omega) (fun c_27 => ?_) (fun c_27 => ?_)
          · skip
            have hwq : (wre (P 11) (P 10 0) (P 10 5)) = q := by rw [← hi2]; exact wre_n (fun h9 => by omega)
            refine lv_aload_n hx hb dX5_readCommand_57 rfl (lv_at hl 1 rfl) ?_
            refine lv_iload_n hx hb dX5_readCommand_58 rfl (lv_at hl 0 rfl) ?_
            refine lv_aload_n hx hb dX5_readCommand_59 rfl (lv_at hl 1 rfl) ?_
            refine va_get (D := D) (ci := 4) (v := .int (iI q)) (C := RX5) (T := TX5) (N := 6) hx hb hts hinX5 hown hK hP 0 rfl rfl 5 (by decide) hmw0 (fun _ h9 => h9) rfl dX5_readCommand_60 ?_
            refine k_roV (As := [.int (iI (P 10 5)), .int (iI q)]) (rest := []) ⟨hx, hb, hml, hown, hts⟩ (c_X5_kindOf l D cy a (upr P 10 (ups (P 10) 5 q)) (P 10 5) q (show ∀ k : Int, 0 ≤ k → k < 150 → 0 ≤ (P 11) k ∧ (P 11) k ≤ 127 by omega) (show 0 ≤ (P 10 5) ∧ (P 10 5) ≤ q by omega) (show q ≤ 150 by omega)) gX5_readCommand_X5_kindOf rfl ⟨rfl, rfl⟩ 2 rfl (by decide +kernel) ⟨Nat.le_of_ble_eq_true rfl, Nat.le_of_ble_eq_true rfl⟩ (GS_ok D cy) ((GS_ok D cy).2.2.2 _ _ _ _ (fun _ h => h.elim) ((GS_ok D cy).1 _ _ _ _ hS.2.1 hGs)) hP (va_recv hK hP (ci := 4) (q0 := 0) rfl rfl) hl.1 rfl (Nat.le_of_ble_eq_true rfl) ⟨Nat.le_of_ble_eq_true rfl, Nat.le_of_ble_eq_true rfl⟩ dX5_readCommand_63 (fun r_28 hr_28 => ?_)
            have hr_28 : (((kindW ((P 11)) (P 10 5) q) = -1000000000) ∧ r_28 = -1) ∨ ((0 ≤ (kindW ((P 11)) (P 10 5) q) ∧ (kindW ((P 11)) (P 10 5) q) ≤ 6) ∧ r_28 = (kindW ((P 11)) (P 10 5) q)) := hr_28
            rcases hr_28 with ⟨c_29, hr_28⟩ | ⟨c_29, hr_28⟩ <;> subst hr_28
            · skip
              have hk0 := c_29
              rw [← hwq] at hk0
              have hpc := prsC_0 (T := P 11) (n := P 10 0) (q := P 10 5) (A := nmC (P 13) (P 10 1)) hk0
              refine lv_istore_n (lv' := [(2, .int (iI (-1))), (1, .int (iI (P 10 5))), (0, .ref (a 10))]) hx hb dX5_readCommand_66 rfl hl (by decide) rfl (fun ls hl => ?_)
              refine lv_iload_n hx hb dX5_readCommand_67 rfl (lv_at hl 0 rfl) ?_
              refine k_iconst hx hb dX5_readCommand_68 ?_
              refine k_icmp_ne (tgt := 74) hx hb dX5_readCommand_69 (by decide) (by omega) (by omega) (fun c_30 => ?_) (fun c_30 => ?_)
              · exfalso; omega
              · skip
                refine lv_iload_n hx hb dX5_readCommand_72 rfl (lv_at hl 1 rfl) ?_
                have hP : va_P D vwCl (scW cy a (upr (upr P 10 (ups (P 10) 5 q)) 13 (P 13))) H := hP
                have hD : va_D (va_A (scW cy a P) sz) (scW cy a (upr (upr P 10 (ups (P 10) 5 q)) 13 (P 13))) := hD
                exact W.iret (v := iI (P 10 5)) hx hb hr (fun t9 ht _ => ⟨⟨iI (P 10 5), (upr (upr P 10 (ups (P 10) 5 q)) 13 (P 13)), rfl, ⟨(P 10 5), rfl, (by first | exact Or.inl ⟨((P 10 5)), (q), ((P 13)), (⟨⟨⟨_, _, hpc⟩, by omega⟩, by first | exact hnn | exact hi5 | exact nOK_ups hi5 hdv, by first | exact fun _ _ _ => rfl | exact hi6 | exact fun i9 a9 b9 => (ups_ne _ _ (by omega)).trans (hi6 i9 a9 b9)⟩), (by first | rfl | omega), rfl⟩ : (∃ (x9 : Int) (zq : Int) (zN : Int → Int), (((∃ (k9 : Int) (B9 : Int → Int), (prsC (P 11) (P 10 0) (P 10 5) (nmC (P 13) (P 10 1))) = (0, x9, k9, B9)) ∧ (0 ≤ x9 ∧ x9 ≤ P 10 0)) ∧ nOK zN ∧ ∀ i9 : Int, 0 ≤ i9 → i9 < P 10 1 * 4 → zN i9 = P 13 i9) ∧ (P 10 5 : Int) = x9 ∧ (upr (upr P 10 (ups (P 10) 5 q)) 13 (P 13)) = (upr (upr P 10 (ups (P 10) 5 zq)) 13 (zN))) ∨ (∃ (x9 : Int) (k9 : Int) (zN : Int → Int), (((prsC (P 11) (P 10 0) (P 10 5) (nmC (P 13) (P 10 1))) = (1, x9, k9, nmC zN (P 10 1)) ∧ 0 ≤ k9 ∧ k9 ≤ 6) ∧ nOK zN ∧ ∀ i9 : Int, 0 ≤ i9 → i9 < P 10 1 * 4 → zN i9 = P 13 i9) ∧ (P 10 5 : Int) = -1 ∧ (upr (upr P 10 (ups (P 10) 5 q)) 13 (P 13)) = (upr (upr (upr P 10 (ups (ups (P 10) 5 x9) 1 (P 10 1 + 1))) 12 (ups (P 12) (P 10 1) k9)) 13 (zN))))⟩, by rw [ht]; exact hP, hD⟩, hS.F ht⟩) hS.2.2 dX5_readCommand_73 hlocks
            · skip
              have hk1 := c_29
              refine lv_istore_n (lv' := [(2, .int (iI (kindW ((P 11)) (P 10 5) q))), (1, .int (iI (P 10 5))), (0, .ref (a 10))]) hx hb dX5_readCommand_66 rfl hl (by decide) rfl (fun ls hl => ?_)
              refine lv_iload_n hx hb dX5_readCommand_67 rfl (lv_at hl 0 rfl) ?_
              refine k_iconst hx hb dX5_readCommand_68 ?_
              refine k_icmp_ne (tgt := 74) hx hb dX5_readCommand_69 (by decide) (by omega) (by omega) (fun c_31 => ?_) (fun c_31 => ?_)
              · skip
                refine k_iconst hx hb dX5_readCommand_74 ?_
                refine lv_istore_n (lv' := [(3, .int (iI 0)), (2, .int (iI (kindW ((P 11)) (P 10 5) q))), (1, .int (iI (P 10 5))), (0, .ref (a 10))]) hx hb dX5_readCommand_75 rfl hl (by decide) rfl (fun ls hl => ?_)
                have loop76 : ∀ (n_32 : Nat) (K9 : Int) (W9 : Int) (i : Int) (o : Int) (N : Int → Int) (hi0 : 0 ≤ i) (hi1 : i ≤ manyF K9) (hi2 : P 10 5 ≤ o ∧ o ≤ P 10 0) (hi3 : prsN (P 11) (P 10 0) (manyF K9 - i).toNat o (nmC N (P 10 1)) i = prsN (P 11) (P 10 0) (manyF K9).toNat W9 (nmC (P 13) (P 10 1)) 0) (hi4 : K9 = kindW (P 11) (P 10 5) (wre (P 11) (P 10 0) (P 10 5)) ∧ W9 = (wre (P 11) (P 10 0) (P 10 5)) ∧ 0 ≤ K9 ∧ K9 ≤ 6) (hi5 : nOK N) (hi6 : ∀ i9 : Int, 0 ≤ i9 → i9 < P 10 1 * 4 → N i9 = P 13 i9) (hn : manyF K9 - i < (n_32 : Int)) (H : Heap) (locs : List Loc) (hP : va_P D vwCl (scW cy a (upr (upr P 10 (ups (P 10) 5 o)) 13 (N))) H) (hD : va_D (va_A (scW cy a P) sz) (scW cy a (upr (upr P 10 (ups (P 10) 5 o)) 13 (N)))) (hS : va_S (va_A (scW cy a P) sz) s.heap H locs) (ls : Array Slot) (hl : lv_has ls 4 [(3, .int (iI i)), (2, .int (iI K9)), (1, .int (iI (P 10 5))), (0, .ref (a 10))]), W p l e { frames := 6, cells := 0, slots := 0, locals := 133 } s m ([.ref (a 10)] : List Value).toArray below meth c H locs 0 0 (MQ below (kQi D (scW cy a P) sz (fun u9 : Nat → Int → Int => scW cy a u9) (fun r9 u9 => (∃ (x9 : Int) (zq : Int) (zN : Int → Int), (((∃ (k9 : Int) (B9 : Int → Int), (prsC (P 11) (P 10 0) (P 10 5) (nmC (P 13) (P 10 1))) = (0, x9, k9, B9)) ∧ (0 ≤ x9 ∧ x9 ≤ P 10 0)) ∧ nOK zN ∧ ∀ i9 : Int, 0 ≤ i9 → i9 < P 10 1 * 4 → zN i9 = P 13 i9) ∧ r9 = x9 ∧ u9 = (upr (upr P 10 (ups (P 10) 5 zq)) 13 (zN))) ∨ (∃ (x9 : Int) (k9 : Int) (zN : Int → Int), (((prsC (P 11) (P 10 0) (P 10 5) (nmC (P 13) (P 10 1))) = (1, x9, k9, nmC zN (P 10 1)) ∧ 0 ≤ k9 ∧ k9 ≤ 6) ∧ nOK zN ∧ ∀ i9 : Int, 0 ≤ i9 → i9 < P 10 1 * 4 → zN i9 = P 13 i9) ∧ r9 = -1 ∧ u9 = (upr (upr (upr P 10 (ups (ups (P 10) 5 x9) 1 (P 10 1 + 1))) 12 (ups (P 12) (P 10 1) k9)) 13 (zN))))) ([.ref (a 10)] : List Value).toArray s 0 0 (va_A (scW cy a P) sz)) (F0 m 76 ls []) := by
                  intro n_32
                  induction n_32 with
                  | zero => intro K9 W9 i o N hi0 hi1 hi2 hi3 hi4 hi5 hi6 hn H locs hP hD hS ls hl; exfalso; omega
                  | succ n_32 ih76 =>
                    intro K9 W9 i o N hi0 hi1 hi2 hi3 hi4 hi5 hi6 hn H locs hP hD hS ls hl
                    have hsl := skp_le (T := P 11) hi2.2
                    have hmf := manyF_rg K9
                    have hnb := nb_many hi4.2.2
                    have hdl := dgF_bd (P 11) hsl.2
                    refine lv_iload_n hx hb dX5_readCommand_76 rfl (lv_at hl 0 rfl) ?_
                    obtain ⟨t_33, hZt_33, hTt_33⟩ := hG.2.2.2.2.2.2
                    refine va_gets hx hb hZt_33 hS hown hmw2 (fun _ h9 => h9) dX5_readCommand_77 ?_
                    refine lv_iload_n hx hb dX5_readCommand_80 rfl (lv_at hl 1 rfl) ?_
                    refine k_tald hx hb hTt_33 hS (by omega) dX5_readCommand_81 ?_
                    refine k_icmp_ge (tgt := 111) hx hb dX5_readCommand_82 (by decide) (by omega) (by omega) (fun c_34 => ?_) (fun c_34 => ?_)
                    · skip
                      have hpe : prsN (P 11) (P 10 0) (manyF K9).toNat W9 (nmC (P 13) (P 10 1)) 0 = (1, o, nmC N (P 10 1)) := by rw [← hi3, show (manyF K9 - i).toNat = 0 by omega]; rfl
                      refine lv_aload_n hx hb dX5_readCommand_111 rfl (lv_at hl 3 rfl) ?_
                      refine k_muv (k_runV (As := []) (rest := []) ⟨hx, hb, hml, hown, hts⟩ (c_X5_skipSpaces l D cy H.size a (upr (upr P 10 (ups (P 10) 5 o)) 13 (N)) (show 0 ≤ o ∧ o ≤ (P 10 0) by omega) (show (P 10 0) ≤ 150 by omega) (show ∀ k : Int, 0 ≤ k → k < 150 → 0 ≤ (P 11) k ∧ (P 11) k ≤ 127 by omega)) gX5_readCommand_X5_skipSpaces rfl ⟨rfl, rfl⟩ 0 rfl (by decide +kernel) ⟨Nat.le_of_ble_eq_true rfl, Nat.le_of_ble_eq_true rfl⟩ (GG_ok D cy) hG hS (k_free hD hS hA) hP hD (va_recv hK hP (ci := 4) (q0 := 0) rfl rfl) hl.1 rfl (Nat.le_of_ble_eq_true rfl) ⟨Nat.le_of_ble_eq_true rfl, Nat.le_of_ble_eq_true rfl⟩ dX5_readCommand_112) (k_free hD hS hA) hS (fun R_36 H1 locs1 hR_36 hP1 hD1 hS1 hk1 => ?_)
                      have hR_36 : R_36 = (upr (upr (upr P 10 (ups (P 10) 5 o)) 13 (N)) 10 (ups (ups (P 10) 5 o) 5 (skp (P 11) ((P 10 0)) (o)))) := hR_36
                      subst hR_36
                      have hDn : va_D (va_A (scW cy a P) sz) (scW cy a (upr (upr P 10 (ups (ups (P 10) 5 o) 5 (skp (P 11) ((P 10 0)) (o)))) 13 (N))) := k_addr hD rfl
                      have hPn : va_P D vwCl (scW cy a (upr (upr P 10 (ups (ups (P 10) 5 o) 5 (skp (P 11) ((P 10 0)) (o)))) 13 (N))) H1 := hP1
                      clear hP hD hS hP1 hD1 hk1
                      have hP := hPn
                      have hD := hDn
                      have hS := hS1
                      clear hPn hDn hS1
                      generalize H1 = H at hP hS ⊢
                      generalize locs1 = locs at hS ⊢
                      refine lv_aload_n hx hb dX5_readCommand_115 rfl (lv_at hl 3 rfl) ?_
                      refine k_roV (As := []) (rest := []) ⟨hx, hb, hml, hown, hts⟩ (c_X5_here l D cy a (upr (upr P 10 (ups (ups (P 10) 5 o) 5 (skp (P 11) ((P 10 0)) (o)))) 13 (N)) (show 0 ≤ (skp (P 11) ((P 10 0)) (o)) ∧ (skp (P 11) ((P 10 0)) (o)) ≤ ((P 10 0)) by omega) (show ((P 10 0)) ≤ 150 by omega)) gX5_readCommand_X5_here rfl ⟨rfl, rfl⟩ 0 rfl (by decide +kernel) ⟨Nat.le_of_ble_eq_true rfl, Nat.le_of_ble_eq_true rfl⟩ (GG_ok D cy) ((GG_ok D cy).2.2.2 _ _ _ _ (fun _ h => h.elim) ((GG_ok D cy).1 _ _ _ _ hS.2.1 hG)) hP (va_recv hK hP (ci := 4) (q0 := 0) rfl rfl) hl.1 rfl (Nat.le_of_ble_eq_true rfl) ⟨Nat.le_of_ble_eq_true rfl, Nat.le_of_ble_eq_true rfl⟩ dX5_readCommand_116 (fun r_37 hr_37 => ?_)
                      have hr_37 : (((skp (P 11) ((P 10 0)) (o)) < ((P 10 0))) ∧ r_37 = (P 11) ((skp (P 11) (P 10 0) (o)))) ∨ ((((P 10 0)) ≤ (skp (P 11) ((P 10 0)) (o))) ∧ r_37 = -1) := hr_37
                      rcases hr_37 with ⟨c_38, hr_37⟩ | ⟨c_38, hr_37⟩ <;> subst hr_37
                      · skip
                        have hT8 := hT (skp (P 11) (P 10 0) o) (by omega) (by omega)
                        refine k_bipush hx hb dX5_readCommand_119 (by decide +kernel) ?_
                        refine k_icmp_eq (tgt := 129) hx hb dX5_readCommand_121 (by decide) (by omega) (by omega) (fun c_39 => ?_) (fun c_39 => ?_)
                        · skip
                          have hpc := prsC_2 (T := P 11) (n := P 10 0) (q := P 10 5) (A := nmC (P 13) (P 10 1)) hi4.1.symm hi4.2.1.symm (by omega) hpe ⟨by omega, by omega⟩
                          refine lv_aload_n hx hb dX5_readCommand_129 rfl (lv_at hl 3 rfl) ?_
                          refine lv_dup hx hb dX5_readCommand_130 rfl ?_
                          refine va_get (D := D) (ci := 4) (v := .int (iI (skp (P 11) ((P 10 0)) (o)))) (C := RX5) (T := TX5) (N := 6) hx hb hts hinX5 hown hK hP 0 rfl rfl 5 (by decide) hmw0 (fun _ h9 => h9) rfl dX5_readCommand_131 ?_
                          refine k_iconst hx hb dX5_readCommand_134 ?_
                          refine k_iadd hx hb dX5_readCommand_135 ?_
                          refine va_put (D := D) (ci := 4) (v := .int (iI ((skp (P 11) ((P 10 0)) (o)) + 1))) (ty := .int) (C := RX5) (T := TX5) (N := 6) hx hb hts hinX5 tyX5 tyX5_ok nmX5 hown hK hP hD hS 0 rfl rfl 5 (by decide) hmw0 (fun _ h9 => h9) rfl (by decide +kernel) rfl rfl (Nat.le_of_ble_eq_true rfl) dX5_readCommand_136 (fun H locs hP hD hS => ?_)
                          have hP : va_P D vwCl (scW cy a (upr (upr P 10 (ups (ups (ups (P 10) 5 o) 5 (skp (P 11) ((P 10 0)) (o))) 5 ((skp (P 11) ((P 10 0)) (o)) + 1))) 13 (N))) H := hP
                          have hD : va_D (va_A (scW cy a P) sz) (scW cy a (upr (upr P 10 (ups (ups (ups (P 10) 5 o) 5 (skp (P 11) ((P 10 0)) (o))) 5 ((skp (P 11) ((P 10 0)) (o)) + 1))) 13 (N))) := hD
                          refine lv_aload_n hx hb dX5_readCommand_139 rfl (lv_at hl 3 rfl) ?_
                          refine va_get (D := D) (ci := 4) (v := .ref (a 12)) (C := RX5) (T := TX5) (N := 6) hx hb hts hinX5 hown hK hP 0 rfl rfl 3 (by decide) hmw3 (fun _ h9 => h9) rfl dX5_readCommand_140 ?_
                          refine lv_aload_n hx hb dX5_readCommand_143 rfl (lv_at hl 3 rfl) ?_
                          refine va_get (D := D) (ci := 4) (v := .int (iI (P 10 1))) (C := RX5) (T := TX5) (N := 6) hx hb hts hinX5 hown hK hP 0 rfl rfl 1 (by decide) hmw4 (fun _ h9 => h9) rfl dX5_readCommand_144 ?_
                          refine lv_iload_n hx hb dX5_readCommand_147 rfl (lv_at hl 1 rfl) ?_
                          refine k_iast hx hb hK hP hD hS 2 0 (f := P 12) rfl rfl (i := P 10 1) (x := K9) (by omega) dX5_readCommand_148 (fun H locs hP hD hS => ?_)
                          have hP : va_P D vwCl (scW cy a (upr (upr (upr P 10 (ups (ups (ups (P 10) 5 o) 5 (skp (P 11) ((P 10 0)) (o))) 5 ((skp (P 11) ((P 10 0)) (o)) + 1))) 12 (ups (P 12) (P 10 1) K9)) 13 (N))) H := hP
                          have hD : va_D (va_A (scW cy a P) sz) (scW cy a (upr (upr (upr P 10 (ups (ups (ups (P 10) 5 o) 5 (skp (P 11) ((P 10 0)) (o))) 5 ((skp (P 11) ((P 10 0)) (o)) + 1))) 12 (ups (P 12) (P 10 1) K9)) 13 (N))) := hD
                          refine lv_aload_n hx hb dX5_readCommand_149 rfl (lv_at hl 3 rfl) ?_
                          refine lv_dup hx hb dX5_readCommand_150 rfl ?_
                          refine va_get (D := D) (ci := 4) (v := .int (iI (P 10 1))) (C := RX5) (T := TX5) (N := 6) hx hb hts hinX5 hown hK hP 0 rfl rfl 1 (by decide) hmw4 (fun _ h9 => h9) rfl dX5_readCommand_151 ?_
                          refine k_iconst hx hb dX5_readCommand_154 ?_
                          refine k_iadd hx hb dX5_readCommand_155 ?_
                          refine va_put (D := D) (ci := 4) (v := .int (iI ((P 10 1) + 1))) (ty := .int) (C := RX5) (T := TX5) (N := 6) hx hb hts hinX5 tyX5 tyX5_ok nmX5 hown hK hP hD hS 0 rfl rfl 1 (by decide) hmw4 (fun _ h9 => h9) rfl (by decide +kernel) rfl rfl (Nat.le_of_ble_eq_true rfl) dX5_readCommand_156 (fun H locs hP hD hS => ?_)
                          have hP : va_P D vwCl (scW cy a (upr (upr (upr P 10 (ups (ups (ups (ups (P 10) 5 o) 5 (skp (P 11) ((P 10 0)) (o))) 5 ((skp (P 11) ((P 10 0)) (o)) + 1)) 1 ((P 10 1) + 1))) 12 (ups (P 12) (P 10 1) K9)) 13 (N))) H := hP
                          have hD : va_D (va_A (scW cy a P) sz) (scW cy a (upr (upr (upr P 10 (ups (ups (ups (ups (P 10) 5 o) 5 (skp (P 11) ((P 10 0)) (o))) 5 ((skp (P 11) ((P 10 0)) (o)) + 1)) 1 ((P 10 1) + 1))) 12 (ups (P 12) (P 10 1) K9)) 13 (N))) := hD
                          refine k_iconst hx hb dX5_readCommand_159 ?_
                          exact W.iret (v := iI (-1)) hx hb hr (fun t9 ht _ => ⟨⟨iI (-1), (upr (upr (upr P 10 (ups (ups (ups (ups (P 10) 5 o) 5 (skp (P 11) ((P 10 0)) (o))) 5 ((skp (P 11) ((P 10 0)) (o)) + 1)) 1 ((P 10 1) + 1))) 12 (ups (P 12) (P 10 1) K9)) 13 (N)), rfl, ⟨(-1), rfl, (by first | exact Or.inr (⟨(((skp (P 11) ((P 10 0)) (o)) + 1)), (K9), (N), (⟨⟨hpc, hi4.2.2⟩, hi5, hi6⟩), (by first | rfl | omega), (by rw [show (ups (ups (ups (ups (P 10) 5 o) 5 (skp (P 11) ((P 10 0)) (o))) 5 ((skp (P 11) ((P 10 0)) (o)) + 1)) 1 ((P 10 1) + 1)) = (ups (ups (P 10) 5 ((skp (P 11) ((P 10 0)) (o)) + 1)) 1 (P 10 1 + 1)) from by first | rfl | exact ups_ups _ _ _ _ | (funext k9; unfold ups; (repeat' split) <;> first | rfl | omega | (exfalso; omega))])⟩) : (∃ (x9 : Int) (zq : Int) (zN : Int → Int), (((∃ (k9 : Int) (B9 : Int → Int), (prsC (P 11) (P 10 0) (P 10 5) (nmC (P 13) (P 10 1))) = (0, x9, k9, B9)) ∧ (0 ≤ x9 ∧ x9 ≤ P 10 0)) ∧ nOK zN ∧ ∀ i9 : Int, 0 ≤ i9 → i9 < P 10 1 * 4 → zN i9 = P 13 i9) ∧ ((-1) : Int) = x9 ∧ (upr (upr (upr P 10 (ups (ups (ups (ups (P 10) 5 o) 5 (skp (P 11) ((P 10 0)) (o))) 5 ((skp (P 11) ((P 10 0)) (o)) + 1)) 1 ((P 10 1) + 1))) 12 (ups (P 12) (P 10 1) K9)) 13 (N)) = (upr (upr P 10 (ups (P 10) 5 zq)) 13 (zN))) ∨ (∃ (x9 : Int) (k9 : Int) (zN : Int → Int), (((prsC (P 11) (P 10 0) (P 10 5) (nmC (P 13) (P 10 1))) = (1, x9, k9, nmC zN (P 10 1)) ∧ 0 ≤ k9 ∧ k9 ≤ 6) ∧ nOK zN ∧ ∀ i9 : Int, 0 ≤ i9 → i9 < P 10 1 * 4 → zN i9 = P 13 i9) ∧ ((-1) : Int) = -1 ∧ (upr (upr (upr P 10 (ups (ups (ups (ups (P 10) 5 o) 5 (skp (P 11) ((P 10 0)) (o))) 5 ((skp (P 11) ((P 10 0)) (o)) + 1)) 1 ((P 10 1) + 1))) 12 (ups (P 12) (P 10 1) K9)) 13 (N)) = (upr (upr (upr P 10 (ups (ups (P 10) 5 x9) 1 (P 10 1 + 1))) 12 (ups (P 12) (P 10 1) k9)) 13 (zN))))⟩, by rw [ht]; exact hP, hD⟩, hS.F ht⟩) hS.2.2 dX5_readCommand_160 hlocks
                        · skip
                          have hpc := prsC_3 (T := P 11) (n := P 10 0) (q := P 10 5) (A := nmC (P 13) (P 10 1)) hi4.1.symm hi4.2.1.symm (by omega) hpe (fun h9 => by omega)
                          refine lv_aload_n hx hb dX5_readCommand_124 rfl (lv_at hl 3 rfl) ?_
                          refine va_get (D := D) (ci := 4) (v := .int (iI (skp (P 11) ((P 10 0)) (o)))) (C := RX5) (T := TX5) (N := 6) hx hb hts hinX5 hown hK hP 0 rfl rfl 5 (by decide) hmw0 (fun _ h9 => h9) rfl dX5_readCommand_125 ?_
                          exact W.iret (v := iI (skp (P 11) ((P 10 0)) (o))) hx hb hr (fun t9 ht _ => ⟨⟨iI (skp (P 11) ((P 10 0)) (o)), (upr (upr P 10 (ups (ups (P 10) 5 o) 5 (skp (P 11) ((P 10 0)) (o)))) 13 (N)), rfl, ⟨(skp (P 11) ((P 10 0)) (o)), rfl, (by first | exact Or.inl ⟨((skp (P 11) ((P 10 0)) (o))), ((skp (P 11) ((P 10 0)) (o))), (N), (⟨⟨⟨_, _, hpc⟩, by omega⟩, by first | exact hnn | exact hi5 | exact nOK_ups hi5 hdv, by first | exact fun _ _ _ => rfl | exact hi6 | exact fun i9 a9 b9 => (ups_ne _ _ (by omega)).trans (hi6 i9 a9 b9)⟩), (by first | rfl | omega), (by rw [show (ups (ups (P 10) 5 o) 5 (skp (P 11) ((P 10 0)) (o))) = (ups (P 10) 5 (skp (P 11) ((P 10 0)) (o))) from by first | rfl | exact ups_ups _ _ _ _ | (funext k9; unfold ups; (repeat' split) <;> first | rfl | omega | (exfalso; omega))])⟩ : (∃ (x9 : Int) (zq : Int) (zN : Int → Int), (((∃ (k9 : Int) (B9 : Int → Int), (prsC (P 11) (P 10 0) (P 10 5) (nmC (P 13) (P 10 1))) = (0, x9, k9, B9)) ∧ (0 ≤ x9 ∧ x9 ≤ P 10 0)) ∧ nOK zN ∧ ∀ i9 : Int, 0 ≤ i9 → i9 < P 10 1 * 4 → zN i9 = P 13 i9) ∧ (skp (P 11) ((P 10 0)) (o) : Int) = x9 ∧ (upr (upr P 10 (ups (ups (P 10) 5 o) 5 (skp (P 11) ((P 10 0)) (o)))) 13 (N)) = (upr (upr P 10 (ups (P 10) 5 zq)) 13 (zN))) ∨ (∃ (x9 : Int) (k9 : Int) (zN : Int → Int), (((prsC (P 11) (P 10 0) (P 10 5) (nmC (P 13) (P 10 1))) = (1, x9, k9, nmC zN (P 10 1)) ∧ 0 ≤ k9 ∧ k9 ≤ 6) ∧ nOK zN ∧ ∀ i9 : Int, 0 ≤ i9 → i9 < P 10 1 * 4 → zN i9 = P 13 i9) ∧ (skp (P 11) ((P 10 0)) (o) : Int) = -1 ∧ (upr (upr P 10 (ups (ups (P 10) 5 o) 5 (skp (P 11) ((P 10 0)) (o)))) 13 (N)) = (upr (upr (upr P 10 (ups (ups (P 10) 5 x9) 1 (P 10 1 + 1))) 12 (ups (P 12) (P 10 1) k9)) 13 (zN))))⟩, by rw [ht]; exact hP, hD⟩, hS.F ht⟩) hS.2.2 dX5_readCommand_128 hlocks
                      · skip
                        refine k_bipush hx hb dX5_readCommand_119 (by decide +kernel) ?_
                        refine k_icmp_eq (tgt := 129) hx hb dX5_readCommand_121 (by decide) (by omega) (by omega) (fun c_40 => ?_) (fun c_40 => ?_)
                        · exfalso; omega
                        · skip
                          have hpc := prsC_3 (T := P 11) (n := P 10 0) (q := P 10 5) (A := nmC (P 13) (P 10 1)) hi4.1.symm hi4.2.1.symm (by omega) hpe (fun h9 => by omega)
                          refine lv_aload_n hx hb dX5_readCommand_124 rfl (lv_at hl 3 rfl) ?_
                          refine va_get (D := D) (ci := 4) (v := .int (iI (skp (P 11) ((P 10 0)) (o)))) (C := RX5) (T := TX5) (N := 6) hx hb hts hinX5 hown hK hP 0 rfl rfl 5 (by decide) hmw0 (fun _ h9 => h9) rfl dX5_readCommand_125 ?_
                          exact W.iret (v := iI (skp (P 11) ((P 10 0)) (o))) hx hb hr (fun t9 ht _ => ⟨⟨iI (skp (P 11) ((P 10 0)) (o)), (upr (upr P 10 (ups (ups (P 10) 5 o) 5 (skp (P 11) ((P 10 0)) (o)))) 13 (N)), rfl, ⟨(skp (P 11) ((P 10 0)) (o)), rfl, (by first | exact Or.inl ⟨((skp (P 11) ((P 10 0)) (o))), ((skp (P 11) ((P 10 0)) (o))), (N), (⟨⟨⟨_, _, hpc⟩, by omega⟩, by first | exact hnn | exact hi5 | exact nOK_ups hi5 hdv, by first | exact fun _ _ _ => rfl | exact hi6 | exact fun i9 a9 b9 => (ups_ne _ _ (by omega)).trans (hi6 i9 a9 b9)⟩), (by first | rfl | omega), (by rw [show (ups (ups (P 10) 5 o) 5 (skp (P 11) ((P 10 0)) (o))) = (ups (P 10) 5 (skp (P 11) ((P 10 0)) (o))) from by first | rfl | exact ups_ups _ _ _ _ | (funext k9; unfold ups; (repeat' split) <;> first | rfl | omega | (exfalso; omega))])⟩ : (∃ (x9 : Int) (zq : Int) (zN : Int → Int), (((∃ (k9 : Int) (B9 : Int → Int), (prsC (P 11) (P 10 0) (P 10 5) (nmC (P 13) (P 10 1))) = (0, x9, k9, B9)) ∧ (0 ≤ x9 ∧ x9 ≤ P 10 0)) ∧ nOK zN ∧ ∀ i9 : Int, 0 ≤ i9 → i9 < P 10 1 * 4 → zN i9 = P 13 i9) ∧ (skp (P 11) ((P 10 0)) (o) : Int) = x9 ∧ (upr (upr P 10 (ups (ups (P 10) 5 o) 5 (skp (P 11) ((P 10 0)) (o)))) 13 (N)) = (upr (upr P 10 (ups (P 10) 5 zq)) 13 (zN))) ∨ (∃ (x9 : Int) (k9 : Int) (zN : Int → Int), (((prsC (P 11) (P 10 0) (P 10 5) (nmC (P 13) (P 10 1))) = (1, x9, k9, nmC zN (P 10 1)) ∧ 0 ≤ k9 ∧ k9 ≤ 6) ∧ nOK zN ∧ ∀ i9 : Int, 0 ≤ i9 → i9 < P 10 1 * 4 → zN i9 = P 13 i9) ∧ (skp (P 11) ((P 10 0)) (o) : Int) = -1 ∧ (upr (upr P 10 (ups (ups (P 10) 5 o) 5 (skp (P 11) ((P 10 0)) (o)))) 13 (N)) = (upr (upr (upr P 10 (ups (ups (P 10) 5 x9) 1 (P 10 1 + 1))) 12 (ups (P 12) (P 10 1) k9)) 13 (zN))))⟩, by rw [ht]; exact hP, hD⟩, hS.F ht⟩) hS.2.2 dX5_readCommand_128 hlocks
                    · skip
                      refine lv_aload_n hx hb dX5_readCommand_85 rfl (lv_at hl 3 rfl) ?_
                      refine lv_aload_n hx hb dX5_readCommand_86 rfl (lv_at hl 3 rfl) ?_
                      refine va_get (D := D) (ci := 4) (v := .int (iI (P 10 1))) (C := RX5) (T := TX5) (N := 6) hx hb hts hinX5 hown hK hP 0 rfl rfl 1 (by decide) hmw4 (fun _ h9 => h9) rfl dX5_readCommand_87 ?_
                      refine k_iconst hx hb dX5_readCommand_90 ?_
                      refine k_imul hx hb dX5_readCommand_91 ?_
                      refine lv_iload_n hx hb dX5_readCommand_92 rfl (lv_at hl 0 rfl) ?_
                      refine k_iadd hx hb dX5_readCommand_93 ?_
                      refine k_mui (k_runV (As := [.int (iI (((P 10 1) * 4) + i))]) (rest := []) ⟨hx, hb, hml, hown, hts⟩ (c_X5_readNumber l D cy H.size a (upr (upr P 10 (ups (P 10) 5 o)) 13 (N)) (((P 10 1) * 4) + i) (show 0 ≤ o ∧ o ≤ (P 10 0) by omega) (show (P 10 0) ≤ 150 by omega) (show ∀ k : Int, 0 ≤ k → k < 150 → 0 ≤ (P 11) k ∧ (P 11) k ≤ 127 by omega) (show 0 ≤ (((P 10 1) * 4) + i) ∧ (((P 10 1) * 4) + i) < 600 by omega)) gX5_readCommand_X5_readNumber rfl ⟨rfl, rfl⟩ 1 rfl (by decide +kernel) ⟨Nat.le_of_ble_eq_true rfl, Nat.le_of_ble_eq_true rfl⟩ (GG_ok D cy) hG hS (k_free hD hS hA) hP hD (va_recv hK hP (ci := 4) (q0 := 0) rfl rfl) hl.1 rfl (Nat.le_of_ble_eq_true rfl) ⟨Nat.le_of_ble_eq_true rfl, Nat.le_of_ble_eq_true rfl⟩ dX5_readCommand_94) (k_free hD hS hA) hS (fun r_41 R_42 H1 locs1 hR_42 hP1 hD1 hS1 hk1 => ?_)
                      rcases hR_42 with ⟨c_43, hr_41, hR_42⟩ | ⟨c_43, hr_41, hR_42⟩ | ⟨dq_44, dv_45, c_43, hr_41, hR_42⟩ | ⟨dq_46, dv_47, c_43, hr_41, hR_42⟩
                      · skip
                        have c_43 : (skp (P 11) ((P 10 0)) (o)) = o := c_43
                        subst hr_41
                        subst hR_42
                        have hDn : va_D (va_A (scW cy a P) sz) (scW cy a (upr (upr P 10 (ups (P 10) 5 o)) 13 (N))) := k_addr hD rfl
                        have hPn : va_P D vwCl (scW cy a (upr (upr P 10 (ups (P 10) 5 o)) 13 (N))) H1 := hP1
                        clear hP hD hS hP1 hD1 hk1
                        have hP := hPn
                        have hD := hDn
                        have hS := hS1
                        clear hPn hDn hS1
                        generalize H1 = H at hP hS ⊢
                        generalize locs1 = locs at hS ⊢
                        have hps := prsN_a (T := P 11) (n := P 10 0) (m := manyF K9) (k := i) (q := o) (A := nmC N (P 10 1)) (by omega) c_43
                        have hpc := prsC_1 (T := P 11) (n := P 10 0) (q := P 10 5) (A := nmC (P 13) (P 10 1)) hi4.1.symm hi4.2.1.symm (by omega) (hi3.symm.trans hps)
                        refine k_if_ne (tgt := 105) hx hb dX5_readCommand_97 (by decide) (by omega) (fun c_48 => ?_) (fun c_48 => ?_)
                        · exfalso; omega
                        · skip
                          refine lv_aload_n hx hb dX5_readCommand_100 rfl (lv_at hl 3 rfl) ?_
                          refine va_get (D := D) (ci := 4) (v := .int (iI o)) (C := RX5) (T := TX5) (N := 6) hx hb hts hinX5 hown hK hP 0 rfl rfl 5 (by decide) hmw0 (fun _ h9 => h9) rfl dX5_readCommand_101 ?_
                          exact W.iret (v := iI o) hx hb hr (fun t9 ht _ => ⟨⟨iI o, (upr (upr P 10 (ups (P 10) 5 o)) 13 (N)), rfl, ⟨o, rfl, (by first | exact Or.inl ⟨(o), (o), (N), (⟨⟨⟨_, _, hpc⟩, by omega⟩, by first | exact hnn | exact hi5 | exact nOK_ups hi5 hdv, by first | exact fun _ _ _ => rfl | exact hi6 | exact fun i9 a9 b9 => (ups_ne _ _ (by omega)).trans (hi6 i9 a9 b9)⟩), (by first | rfl | omega), rfl⟩ : (∃ (x9 : Int) (zq : Int) (zN : Int → Int), (((∃ (k9 : Int) (B9 : Int → Int), (prsC (P 11) (P 10 0) (P 10 5) (nmC (P 13) (P 10 1))) = (0, x9, k9, B9)) ∧ (0 ≤ x9 ∧ x9 ≤ P 10 0)) ∧ nOK zN ∧ ∀ i9 : Int, 0 ≤ i9 → i9 < P 10 1 * 4 → zN i9 = P 13 i9) ∧ (o : Int) = x9 ∧ (upr (upr P 10 (ups (P 10) 5 o)) 13 (N)) = (upr (upr P 10 (ups (P 10) 5 zq)) 13 (zN))) ∨ (∃ (x9 : Int) (k9 : Int) (zN : Int → Int), (((prsC (P 11) (P 10 0) (P 10 5) (nmC (P 13) (P 10 1))) = (1, x9, k9, nmC zN (P 10 1)) ∧ 0 ≤ k9 ∧ k9 ≤ 6) ∧ nOK zN ∧ ∀ i9 : Int, 0 ≤ i9 → i9 < P 10 1 * 4 → zN i9 = P 13 i9) ∧ (o : Int) = -1 ∧ (upr (upr P 10 (ups (P 10) 5 o)) 13 (N)) = (upr (upr (upr P 10 (ups (ups (P 10) 5 x9) 1 (P 10 1 + 1))) 12 (ups (P 12) (P 10 1) k9)) 13 (zN))))⟩, by rw [ht]; exact hP, hD⟩, hS.F ht⟩) hS.2.2 dX5_readCommand_104 hlocks
                      · skip
                        have c_43 : o < (skp (P 11) ((P 10 0)) (o)) ∧ (dgF (P 11) ((P 10 0)) (skp (P 11) ((P 10 0)) (o))) = ((skp (P 11) ((P 10 0)) (o)), 0) := c_43
                        subst hr_41
                        subst hR_42
                        have hDn : va_D (va_A (scW cy a P) sz) (scW cy a (upr (upr P 10 (ups (ups (P 10) 5 o) 5 (skp (P 11) ((P 10 0)) (o)))) 13 (N))) := k_addr hD rfl
                        have hPn : va_P D vwCl (scW cy a (upr (upr P 10 (ups (ups (P 10) 5 o) 5 (skp (P 11) ((P 10 0)) (o)))) 13 (N))) H1 := hP1
                        clear hP hD hS hP1 hD1 hk1
                        have hP := hPn
                        have hD := hDn
                        have hS := hS1
                        clear hPn hDn hS1
                        generalize H1 = H at hP hS ⊢
                        generalize locs1 = locs at hS ⊢
                        have hps := prsN_b (T := P 11) (n := P 10 0) (m := manyF K9) (k := i) (q := o) (A := nmC N (P 10 1)) (by omega) (by omega) c_43.2
                        have hpc := prsC_1 (T := P 11) (n := P 10 0) (q := P 10 5) (A := nmC (P 13) (P 10 1)) hi4.1.symm hi4.2.1.symm (by omega) (hi3.symm.trans hps)
                        refine k_if_ne (tgt := 105) hx hb dX5_readCommand_97 (by decide) (by omega) (fun c_49 => ?_) (fun c_49 => ?_)
                        · exfalso; omega
                        · skip
                          refine lv_aload_n hx hb dX5_readCommand_100 rfl (lv_at hl 3 rfl) ?_
                          refine va_get (D := D) (ci := 4) (v := .int (iI (skp (P 11) ((P 10 0)) (o)))) (C := RX5) (T := TX5) (N := 6) hx hb hts hinX5 hown hK hP 0 rfl rfl 5 (by decide) hmw0 (fun _ h9 => h9) rfl dX5_readCommand_101 ?_
                          exact W.iret (v := iI (skp (P 11) ((P 10 0)) (o))) hx hb hr (fun t9 ht _ => ⟨⟨iI (skp (P 11) ((P 10 0)) (o)), (upr (upr P 10 (ups (ups (P 10) 5 o) 5 (skp (P 11) ((P 10 0)) (o)))) 13 (N)), rfl, ⟨(skp (P 11) ((P 10 0)) (o)), rfl, (by first | exact Or.inl ⟨((skp (P 11) ((P 10 0)) (o))), ((skp (P 11) ((P 10 0)) (o))), (N), (⟨⟨⟨_, _, hpc⟩, by omega⟩, by first | exact hnn | exact hi5 | exact nOK_ups hi5 hdv, by first | exact fun _ _ _ => rfl | exact hi6 | exact fun i9 a9 b9 => (ups_ne _ _ (by omega)).trans (hi6 i9 a9 b9)⟩), (by first | rfl | omega), (by rw [show (ups (ups (P 10) 5 o) 5 (skp (P 11) ((P 10 0)) (o))) = (ups (P 10) 5 (skp (P 11) ((P 10 0)) (o))) from by first | rfl | exact ups_ups _ _ _ _ | (funext k9; unfold ups; (repeat' split) <;> first | rfl | omega | (exfalso; omega))])⟩ : (∃ (x9 : Int) (zq : Int) (zN : Int → Int), (((∃ (k9 : Int) (B9 : Int → Int), (prsC (P 11) (P 10 0) (P 10 5) (nmC (P 13) (P 10 1))) = (0, x9, k9, B9)) ∧ (0 ≤ x9 ∧ x9 ≤ P 10 0)) ∧ nOK zN ∧ ∀ i9 : Int, 0 ≤ i9 → i9 < P 10 1 * 4 → zN i9 = P 13 i9) ∧ (skp (P 11) ((P 10 0)) (o) : Int) = x9 ∧ (upr (upr P 10 (ups (ups (P 10) 5 o) 5 (skp (P 11) ((P 10 0)) (o)))) 13 (N)) = (upr (upr P 10 (ups (P 10) 5 zq)) 13 (zN))) ∨ (∃ (x9 : Int) (k9 : Int) (zN : Int → Int), (((prsC (P 11) (P 10 0) (P 10 5) (nmC (P 13) (P 10 1))) = (1, x9, k9, nmC zN (P 10 1)) ∧ 0 ≤ k9 ∧ k9 ≤ 6) ∧ nOK zN ∧ ∀ i9 : Int, 0 ≤ i9 → i9 < P 10 1 * 4 → zN i9 = P 13 i9) ∧ (skp (P 11) ((P 10 0)) (o) : Int) = -1 ∧ (upr (upr P 10 (ups (ups (P 10) 5 o) 5 (skp (P 11) ((P 10 0)) (o)))) 13 (N)) = (upr (upr (upr P 10 (ups (ups (P 10) 5 x9) 1 (P 10 1 + 1))) 12 (ups (P 12) (P 10 1) k9)) 13 (zN))))⟩, by rw [ht]; exact hP, hD⟩, hS.F ht⟩) hS.2.2 dX5_readCommand_104 hlocks
                      · skip
                        have c_43 : ((o < (skp (P 11) ((P 10 0)) (o)) ∧ (skp (P 11) ((P 10 0)) (o)) < dq_44 ∧ dq_44 ≤ (P 10 0)) ∧ (dgF (P 11) ((P 10 0)) (skp (P 11) ((P 10 0)) (o))) = (dq_44, dv_45)) ∧ (dq_44 < (P 10 0) ∧ 48 ≤ (P 11) dq_44 ∧ (P 11) dq_44 ≤ 57) := c_43
                        subst hr_41
                        subst hR_42
                        have hDn : va_D (va_A (scW cy a P) sz) (scW cy a (upr (upr P 10 (ups (ups (P 10) 5 o) 5 dq_44)) 13 (ups (N) (((P 10 1) * 4) + i) dv_45))) := k_addr hD rfl
                        have hPn : va_P D vwCl (scW cy a (upr (upr P 10 (ups (ups (P 10) 5 o) 5 dq_44)) 13 (ups (N) (((P 10 1) * 4) + i) dv_45))) H1 := hP1
                        clear hP hD hS hP1 hD1 hk1
                        have hP := hPn
                        have hD := hDn
                        have hS := hS1
                        clear hPn hDn hS1
                        generalize H1 = H at hP hS ⊢
                        generalize locs1 = locs at hS ⊢
                        have hdd := c_43.1.2
                        have hdv := hdl.2
                        rw [c_43.1.2] at hdv
                        have hpc := rd_long (T := P 11) (n := P 10 0) (m := manyF K9) (i := i) (q := o) (A := nmC (P 13) (P 10 1)) (B := nmC N (P 10 1)) (by omega) rfl (by omega) c_43.1.2 (by omega) (by omega) hi3 hi4.1.symm hi4.2.1.symm (by omega)
                        refine k_if_ne (tgt := 105) hx hb dX5_readCommand_97 (by decide) (by omega) (fun c_50 => ?_) (fun c_50 => ?_)
                        · exfalso; omega
                        · skip
                          refine lv_aload_n hx hb dX5_readCommand_100 rfl (lv_at hl 3 rfl) ?_
                          refine va_get (D := D) (ci := 4) (v := .int (iI dq_44)) (C := RX5) (T := TX5) (N := 6) hx hb hts hinX5 hown hK hP 0 rfl rfl 5 (by decide) hmw0 (fun _ h9 => h9) rfl dX5_readCommand_101 ?_
                          exact W.iret (v := iI dq_44) hx hb hr (fun t9 ht _ => ⟨⟨iI dq_44, (upr (upr P 10 (ups (ups (P 10) 5 o) 5 dq_44)) 13 (ups (N) (((P 10 1) * 4) + i) dv_45)), rfl, ⟨dq_44, rfl, (by first | exact Or.inl ⟨(dq_44), (dq_44), ((ups (N) (((P 10 1) * 4) + i) dv_45)), (⟨⟨⟨_, _, hpc⟩, by omega⟩, by first | exact hnn | exact hi5 | exact nOK_ups hi5 hdv, by first | exact fun _ _ _ => rfl | exact hi6 | exact fun i9 a9 b9 => (ups_ne _ _ (by omega)).trans (hi6 i9 a9 b9)⟩), (by first | rfl | omega), (by rw [show (ups (ups (P 10) 5 o) 5 dq_44) = (ups (P 10) 5 dq_44) from by first | rfl | exact ups_ups _ _ _ _ | (funext k9; unfold ups; (repeat' split) <;> first | rfl | omega | (exfalso; omega))])⟩ : (∃ (x9 : Int) (zq : Int) (zN : Int → Int), (((∃ (k9 : Int) (B9 : Int → Int), (prsC (P 11) (P 10 0) (P 10 5) (nmC (P 13) (P 10 1))) = (0, x9, k9, B9)) ∧ (0 ≤ x9 ∧ x9 ≤ P 10 0)) ∧ nOK zN ∧ ∀ i9 : Int, 0 ≤ i9 → i9 < P 10 1 * 4 → zN i9 = P 13 i9) ∧ (dq_44 : Int) = x9 ∧ (upr (upr P 10 (ups (ups (P 10) 5 o) 5 dq_44)) 13 (ups (N) (((P 10 1) * 4) + i) dv_45)) = (upr (upr P 10 (ups (P 10) 5 zq)) 13 (zN))) ∨ (∃ (x9 : Int) (k9 : Int) (zN : Int → Int), (((prsC (P 11) (P 10 0) (P 10 5) (nmC (P 13) (P 10 1))) = (1, x9, k9, nmC zN (P 10 1)) ∧ 0 ≤ k9 ∧ k9 ≤ 6) ∧ nOK zN ∧ ∀ i9 : Int, 0 ≤ i9 → i9 < P 10 1 * 4 → zN i9 = P 13 i9) ∧ (dq_44 : Int) = -1 ∧ (upr (upr P 10 (ups (ups (P 10) 5 o) 5 dq_44)) 13 (ups (N) (((P 10 1) * 4) + i) dv_45)) = (upr (upr (upr P 10 (ups (ups (P 10) 5 x9) 1 (P 10 1 + 1))) 12 (ups (P 12) (P 10 1) k9)) 13 (zN))))⟩, by rw [ht]; exact hP, hD⟩, hS.F ht⟩) hS.2.2 dX5_readCommand_104 hlocks
                      · skip
                        have c_43 : ((o < (skp (P 11) ((P 10 0)) (o)) ∧ (skp (P 11) ((P 10 0)) (o)) < dq_46 ∧ dq_46 ≤ (P 10 0)) ∧ (dgF (P 11) ((P 10 0)) (skp (P 11) ((P 10 0)) (o))) = (dq_46, dv_47)) ∧ ¬ (dq_46 < (P 10 0) ∧ 48 ≤ (P 11) dq_46 ∧ (P 11) dq_46 ≤ 57) := c_43
                        subst hr_41
                        subst hR_42
                        have hDn : va_D (va_A (scW cy a P) sz) (scW cy a (upr (upr P 10 (ups (ups (P 10) 5 o) 5 dq_46)) 13 (ups (N) (((P 10 1) * 4) + i) dv_47))) := k_addr hD rfl
                        have hPn : va_P D vwCl (scW cy a (upr (upr P 10 (ups (ups (P 10) 5 o) 5 dq_46)) 13 (ups (N) (((P 10 1) * 4) + i) dv_47))) H1 := hP1
                        clear hP hD hS hP1 hD1 hk1
                        have hP := hPn
                        have hD := hDn
                        have hS := hS1
                        clear hPn hDn hS1
                        generalize H1 = H at hP hS ⊢
                        generalize locs1 = locs at hS ⊢
                        have hdd := c_43.1.2
                        have hdv := hdl.2
                        rw [c_43.1.2] at hdv
                        have hps := prsN_c (T := P 11) (n := P 10 0) (m := manyF K9) (k := i) (q := o) (A := nmC N (P 10 1)) (by omega) (by omega) c_43.1.2 (by omega)
                        refine k_if_ne (tgt := 105) hx hb dX5_readCommand_97 (by decide) (by omega) (fun c_51 => ?_) (fun c_51 => ?_)
                        · skip
                          refine lv_iinc (v := iI (i + 1)) (lv' := [(3, .int (iI (i + 1))), (2, .int (iI K9)), (1, .int (iI (P 10 5))), (0, .ref (a 10))]) hx hb dX5_readCommand_105 hl (k := 0) rfl (iI_add _ _) (by decide) rfl (fun ls hl => ?_)
                          refine lv_goto (tgt := 76) hx hb dX5_readCommand_108 (by decide) ?_
                          exact ih76 K9 W9 (i + 1) dq_46 (ups (N) (((P 10 1) * 4) + i) dv_47)  (by omega) (by omega) (by omega) (by rw [nmC_ups]; exact hps.symm.trans hi3) (hi4) (nOK_ups hi5 hdv) (fun i9 a9 b9 => by rw [ups_ne _ _ (by omega)]; exact hi6 i9 a9 b9) (by omega) H locs (by rw [show (ups (P 10) 5 dq_46) = (ups (ups (P 10) 5 o) 5 dq_46) from (ups_ups _ _ _ _).symm]; exact hP) (k_addr hD rfl) hS ls (lv_sub hl [0, 1, 2, 3] rfl)
                        · exfalso; omega
                exact loop76 ((manyF (kindW ((P 11)) (P 10 5) q) - 0 : Int) + 1).toNat (kindW ((P 11)) (P 10 5) q) q 0 q (P 13)  (by omega) ((manyF_rg _).1) (by omega) (by rw [Int.sub_zero]) (⟨by rw [← hwq], hwq.symm, by omega⟩) (hnn) (fun _ _ _ => rfl) (by omega) H locs (hP) (k_addr hD rfl) hS ls (lv_sub hl [0, 1, 2, 3] rfl)
              · exfalso; omega
          · skip
            refine lv_aload_n hx hb dX5_readCommand_30 rfl (lv_at hl 1 rfl) ?_
            refine va_get (D := D) (ci := 4) (v := .ref (a 11)) (C := RX5) (T := TX5) (N := 6) hx hb hts hinX5 hown hK hP 0 rfl rfl 2 (by decide) hmw5 (fun _ h9 => h9) rfl dX5_readCommand_31 ?_
            refine lv_aload_n hx hb dX5_readCommand_34 rfl (lv_at hl 1 rfl) ?_
            refine va_get (D := D) (ci := 4) (v := .int (iI q)) (C := RX5) (T := TX5) (N := 6) hx hb hts hinX5 hown hK hP 0 rfl rfl 5 (by decide) hmw0 (fun _ h9 => h9) rfl dX5_readCommand_35 ?_
            refine k_bald hx hb hK hP 1 1 (f := P 11) rfl rfl (i := q) (by omega) dX5_readCommand_38 ?_
            refine k_bipush hx hb dX5_readCommand_39 (by decide +kernel) ?_
            refine k_icmp_gt (tgt := 57) hx hb dX5_readCommand_41 (by decide) (by omega) (by omega) (fun c_52 => ?_) (fun c_52 => ?_)
            · skip
              have hwq : (wre (P 11) (P 10 0) (P 10 5)) = q := by rw [← hi2]; exact wre_n (fun h9 => by omega)
              refine lv_aload_n hx hb dX5_readCommand_57 rfl (lv_at hl 1 rfl) ?_
              refine lv_iload_n hx hb dX5_readCommand_58 rfl (lv_at hl 0 rfl) ?_
              refine lv_aload_n hx hb dX5_readCommand_59 rfl (lv_at hl 1 rfl) ?_
              refine va_get (D := D) (ci := 4) (v := .int (iI q)) (C := RX5) (T := TX5) (N := 6) hx hb hts hinX5 hown hK hP 0 rfl rfl 5 (by decide) hmw0 (fun _ h9 => h9) rfl dX5_readCommand_60 ?_
              refine k_roV (As := [.int (iI (P 10 5)), .int (iI q)]) (rest := []) ⟨hx, hb, hml, hown, hts⟩ (c_X5_kindOf l D cy a (upr P 10 (ups (P 10) 5 q)) (P 10 5) q (show ∀ k : Int, 0 ≤ k → k < 150 → 0 ≤ (P 11) k ∧ (P 11) k ≤ 127 by omega) (show 0 ≤ (P 10 5) ∧ (P 10 5) ≤ q by omega) (show q ≤ 150 by omega)) gX5_readCommand_X5_kindOf rfl ⟨rfl, rfl⟩ 2 rfl (by decide +kernel) ⟨Nat.le_of_ble_eq_true rfl, Nat.le_of_ble_eq_true rfl⟩ (GS_ok D cy) ((GS_ok D cy).2.2.2 _ _ _ _ (fun _ h => h.elim) ((GS_ok D cy).1 _ _ _ _ hS.2.1 hGs)) hP (va_recv hK hP (ci := 4) (q0 := 0) rfl rfl) hl.1 rfl (Nat.le_of_ble_eq_true rfl) ⟨Nat.le_of_ble_eq_true rfl, Nat.le_of_ble_eq_true rfl⟩ dX5_readCommand_63 (fun r_53 hr_53 => ?_)
              have hr_53 : (((kindW ((P 11)) (P 10 5) q) = -1000000000) ∧ r_53 = -1) ∨ ((0 ≤ (kindW ((P 11)) (P 10 5) q) ∧ (kindW ((P 11)) (P 10 5) q) ≤ 6) ∧ r_53 = (kindW ((P 11)) (P 10 5) q)) := hr_53
              rcases hr_53 with ⟨c_54, hr_53⟩ | ⟨c_54, hr_53⟩ <;> subst hr_53
              · skip
                have hk0 := c_54
                rw [← hwq] at hk0
                have hpc := prsC_0 (T := P 11) (n := P 10 0) (q := P 10 5) (A := nmC (P 13) (P 10 1)) hk0
                refine lv_istore_n (lv' := [(2, .int (iI (-1))), (1, .int (iI (P 10 5))), (0, .ref (a 10))]) hx hb dX5_readCommand_66 rfl hl (by decide) rfl (fun ls hl => ?_)
                refine lv_iload_n hx hb dX5_readCommand_67 rfl (lv_at hl 0 rfl) ?_
                refine k_iconst hx hb dX5_readCommand_68 ?_
                refine k_icmp_ne (tgt := 74) hx hb dX5_readCommand_69 (by decide) (by omega) (by omega) (fun c_55 => ?_) (fun c_55 => ?_)
                · exfalso; omega
                · skip
                  refine lv_iload_n hx hb dX5_readCommand_72 rfl (lv_at hl 1 rfl) ?_
                  have hP : va_P D vwCl (scW cy a (upr (upr P 10 (ups (P 10) 5 q)) 13 (P 13))) H := hP
                  have hD : va_D (va_A (scW cy a P) sz) (scW cy a (upr (upr P 10 (ups (P 10) 5 q)) 13 (P 13))) := hD
                  exact W.iret (v := iI (P 10 5)) hx hb hr (fun t9 ht _ => ⟨⟨iI (P 10 5), (upr (upr P 10 (ups (P 10) 5 q)) 13 (P 13)), rfl, ⟨(P 10 5), rfl, (by first | exact Or.inl ⟨((P 10 5)), (q), ((P 13)), (⟨⟨⟨_, _, hpc⟩, by omega⟩, by first | exact hnn | exact hi5 | exact nOK_ups hi5 hdv, by first | exact fun _ _ _ => rfl | exact hi6 | exact fun i9 a9 b9 => (ups_ne _ _ (by omega)).trans (hi6 i9 a9 b9)⟩), (by first | rfl | omega), rfl⟩ : (∃ (x9 : Int) (zq : Int) (zN : Int → Int), (((∃ (k9 : Int) (B9 : Int → Int), (prsC (P 11) (P 10 0) (P 10 5) (nmC (P 13) (P 10 1))) = (0, x9, k9, B9)) ∧ (0 ≤ x9 ∧ x9 ≤ P 10 0)) ∧ nOK zN ∧ ∀ i9 : Int, 0 ≤ i9 → i9 < P 10 1 * 4 → zN i9 = P 13 i9) ∧ (P 10 5 : Int) = x9 ∧ (upr (upr P 10 (ups (P 10) 5 q)) 13 (P 13)) = (upr (upr P 10 (ups (P 10) 5 zq)) 13 (zN))) ∨ (∃ (x9 : Int) (k9 : Int) (zN : Int → Int), (((prsC (P 11) (P 10 0) (P 10 5) (nmC (P 13) (P 10 1))) = (1, x9, k9, nmC zN (P 10 1)) ∧ 0 ≤ k9 ∧ k9 ≤ 6) ∧ nOK zN ∧ ∀ i9 : Int, 0 ≤ i9 → i9 < P 10 1 * 4 → zN i9 = P 13 i9) ∧ (P 10 5 : Int) = -1 ∧ (upr (upr P 10 (ups (P 10) 5 q)) 13 (P 13)) = (upr (upr (upr P 10 (ups (ups (P 10) 5 x9) 1 (P 10 1 + 1))) 12 (ups (P 12) (P 10 1) k9)) 13 (zN))))⟩, by rw [ht]; exact hP, hD⟩, hS.F ht⟩) hS.2.2 dX5_readCommand_73 hlocks
              · skip
                have hk1 := c_54
                refine lv_istore_n (lv' := [(2, .int (iI (kindW ((P 11)) (P 10 5) q))), (1, .int (iI (P 10 5))), (0, .ref (a 10))]) hx hb dX5_readCommand_66 rfl hl (by decide) rfl (fun ls hl => ?_)
                refine lv_iload_n hx hb dX5_readCommand_67 rfl (lv_at hl 0 rfl) ?_
                refine k_iconst hx hb dX5_readCommand_68 ?_
                refine k_icmp_ne (tgt := 74) hx hb dX5_readCommand_69 (by decide) (by omega) (by omega) (fun c_56 => ?_) (fun c_56 => ?_)
                · skip
                  refine k_iconst hx hb dX5_readCommand_74 ?_
                  refine lv_istore_n (lv' := [(3, .int (iI 0)), (2, .int (iI (kindW ((P 11)) (P 10 5) q))), (1, .int (iI (P 10 5))), (0, .ref (a 10))]) hx hb dX5_readCommand_75 rfl hl (by decide) rfl (fun ls hl => ?_)
                  have loop76 : ∀ (n_57 : Nat) (K9 : Int) (W9 : Int) (i : Int) (o : Int) (N : Int → Int) (hi0 : 0 ≤ i) (hi1 : i ≤ manyF K9) (hi2 : P 10 5 ≤ o ∧ o ≤ P 10 0) (hi3 : prsN (P 11) (P 10 0) (manyF K9 - i).toNat o (nmC N (P 10 1)) i = prsN (P 11) (P 10 0) (manyF K9).toNat W9 (nmC (P 13) (P 10 1)) 0) (hi4 : K9 = kindW (P 11) (P 10 5) (wre (P 11) (P 10 0) (P 10 5)) ∧ W9 = (wre (P 11) (P 10 0) (P 10 5)) ∧ 0 ≤ K9 ∧ K9 ≤ 6) (hi5 : nOK N) (hi6 : ∀ i9 : Int, 0 ≤ i9 → i9 < P 10 1 * 4 → N i9 = P 13 i9) (hn : manyF K9 - i < (n_57 : Int)) (H : Heap) (locs : List Loc) (hP : va_P D vwCl (scW cy a (upr (upr P 10 (ups (P 10) 5 o)) 13 (N))) H) (hD : va_D (va_A (scW cy a P) sz) (scW cy a (upr (upr P 10 (ups (P 10) 5 o)) 13 (N)))) (hS : va_S (va_A (scW cy a P) sz) s.heap H locs) (ls : Array Slot) (hl : lv_has ls 4 [(3, .int (iI i)), (2, .int (iI K9)), (1, .int (iI (P 10 5))), (0, .ref (a 10))]), W p l e { frames := 6, cells := 0, slots := 0, locals := 133 } s m ([.ref (a 10)] : List Value).toArray below meth c H locs 0 0 (MQ below (kQi D (scW cy a P) sz (fun u9 : Nat → Int → Int => scW cy a u9) (fun r9 u9 => (∃ (x9 : Int) (zq : Int) (zN : Int → Int), (((∃ (k9 : Int) (B9 : Int → Int), (prsC (P 11) (P 10 0) (P 10 5) (nmC (P 13) (P 10 1))) = (0, x9, k9, B9)) ∧ (0 ≤ x9 ∧ x9 ≤ P 10 0)) ∧ nOK zN ∧ ∀ i9 : Int, 0 ≤ i9 → i9 < P 10 1 * 4 → zN i9 = P 13 i9) ∧ r9 = x9 ∧ u9 = (upr (upr P 10 (ups (P 10) 5 zq)) 13 (zN))) ∨ (∃ (x9 : Int) (k9 : Int) (zN : Int → Int), (((prsC (P 11) (P 10 0) (P 10 5) (nmC (P 13) (P 10 1))) = (1, x9, k9, nmC zN (P 10 1)) ∧ 0 ≤ k9 ∧ k9 ≤ 6) ∧ nOK zN ∧ ∀ i9 : Int, 0 ≤ i9 → i9 < P 10 1 * 4 → zN i9 = P 13 i9) ∧ r9 = -1 ∧ u9 = (upr (upr (upr P 10 (ups (ups (P 10) 5 x9) 1 (P 10 1 + 1))) 12 (ups (P 12) (P 10 1) k9)) 13 (zN))))) ([.ref (a 10)] : List Value).toArray s 0 0 (va_A (scW cy a P) sz)) (F0 m 76 ls []) := by
                    intro n_57
                    induction n_57 with
                    | zero => intro K9 W9 i o N hi0 hi1 hi2 hi3 hi4 hi5 hi6 hn H locs hP hD hS ls hl; exfalso; omega
                    | succ n_57 ih76 =>
                      intro K9 W9 i o N hi0 hi1 hi2 hi3 hi4 hi5 hi6 hn H locs hP hD hS ls hl
                      have hsl := skp_le (T := P 11) hi2.2
                      have hmf := manyF_rg K9
                      have hnb := nb_many hi4.2.2
                      have hdl := dgF_bd (P 11) hsl.2
                      refine lv_iload_n hx hb dX5_readCommand_76 rfl (lv_at hl 0 rfl) ?_
                      obtain ⟨t_58, hZt_58, hTt_58⟩ := hG.2.2.2.2.2.2
                      refine va_gets hx hb hZt_58 hS hown hmw2 (fun _ h9 => h9) dX5_readCommand_77 ?_
                      refine lv_iload_n hx hb dX5_readCommand_80 rfl (lv_at hl 1 rfl) ?_
                      refine k_tald hx hb hTt_58 hS (by omega) dX5_readCommand_81 ?_
                      refine k_icmp_ge (tgt := 111) hx hb dX5_readCommand_82 (by decide) (by omega) (by omega) (fun c_59 => ?_) (fun c_59 => ?_)
                      · skip
                        have hpe : prsN (P 11) (P 10 0) (manyF K9).toNat W9 (nmC (P 13) (P 10 1)) 0 = (1, o, nmC N (P 10 1)) := by rw [← hi3, show (manyF K9 - i).toNat = 0 by omega]; rfl
                        refine lv_aload_n hx hb dX5_readCommand_111 rfl (lv_at hl 3 rfl) ?_
                        refine k_muv (k_runV (As := []) (rest := []) ⟨hx, hb, hml, hown, hts⟩ (c_X5_skipSpaces l D cy H.size a (upr (upr P 10 (ups (P 10) 5 o)) 13 (N)) (show 0 ≤ o ∧ o ≤ (P 10 0) by omega) (show (P 10 0) ≤ 150 by omega) (show ∀ k : Int, 0 ≤ k → k < 150 → 0 ≤ (P 11) k ∧ (P 11) k ≤ 127 by omega)) gX5_readCommand_X5_skipSpaces rfl ⟨rfl, rfl⟩ 0 rfl (by decide +kernel) ⟨Nat.le_of_ble_eq_true rfl, Nat.le_of_ble_eq_true rfl⟩ (GG_ok D cy) hG hS (k_free hD hS hA) hP hD (va_recv hK hP (ci := 4) (q0 := 0) rfl rfl) hl.1 rfl (Nat.le_of_ble_eq_true rfl) ⟨Nat.le_of_ble_eq_true rfl, Nat.le_of_ble_eq_true rfl⟩ dX5_readCommand_112) (k_free hD hS hA) hS (fun R_61 H1 locs1 hR_61 hP1 hD1 hS1 hk1 => ?_)
                        have hR_61 : R_61 = (upr (upr (upr P 10 (ups (P 10) 5 o)) 13 (N)) 10 (ups (ups (P 10) 5 o) 5 (skp (P 11) ((P 10 0)) (o)))) := hR_61
                        subst hR_61
                        have hDn : va_D (va_A (scW cy a P) sz) (scW cy a (upr (upr P 10 (ups (ups (P 10) 5 o) 5 (skp (P 11) ((P 10 0)) (o)))) 13 (N))) := k_addr hD rfl
                        have hPn : va_P D vwCl (scW cy a (upr (upr P 10 (ups (ups (P 10) 5 o) 5 (skp (P 11) ((P 10 0)) (o)))) 13 (N))) H1 := hP1
                        clear hP hD hS hP1 hD1 hk1
                        have hP := hPn
                        have hD := hDn
                        have hS := hS1
                        clear hPn hDn hS1
                        generalize H1 = H at hP hS ⊢
                        generalize locs1 = locs at hS ⊢
                        refine lv_aload_n hx hb dX5_readCommand_115 rfl (lv_at hl 3 rfl) ?_
                        refine k_roV (As := []) (rest := []) ⟨hx, hb, hml, hown, hts⟩ (c_X5_here l D cy a (upr (upr P 10 (ups (ups (P 10) 5 o) 5 (skp (P 11) ((P 10 0)) (o)))) 13 (N)) (show 0 ≤ (skp (P 11) ((P 10 0)) (o)) ∧ (skp (P 11) ((P 10 0)) (o)) ≤ ((P 10 0)) by omega) (show ((P 10 0)) ≤ 150 by omega)) gX5_readCommand_X5_here rfl ⟨rfl, rfl⟩ 0 rfl (by decide +kernel) ⟨Nat.le_of_ble_eq_true rfl, Nat.le_of_ble_eq_true rfl⟩ (GG_ok D cy) ((GG_ok D cy).2.2.2 _ _ _ _ (fun _ h => h.elim) ((GG_ok D cy).1 _ _ _ _ hS.2.1 hG)) hP (va_recv hK hP (ci := 4) (q0 := 0) rfl rfl) hl.1 rfl (Nat.le_of_ble_eq_true rfl) ⟨Nat.le_of_ble_eq_true rfl, Nat.le_of_ble_eq_true rfl⟩ dX5_readCommand_116 (fun r_62 hr_62 => ?_)
                        have hr_62 : (((skp (P 11) ((P 10 0)) (o)) < ((P 10 0))) ∧ r_62 = (P 11) ((skp (P 11) (P 10 0) (o)))) ∨ ((((P 10 0)) ≤ (skp (P 11) ((P 10 0)) (o))) ∧ r_62 = -1) := hr_62
                        rcases hr_62 with ⟨c_63, hr_62⟩ | ⟨c_63, hr_62⟩ <;> subst hr_62
                        · skip
                          have hT8 := hT (skp (P 11) (P 10 0) o) (by omega) (by omega)
                          refine k_bipush hx hb dX5_readCommand_119 (by decide +kernel) ?_
                          refine k_icmp_eq (tgt := 129) hx hb dX5_readCommand_121 (by decide) (by omega) (by omega) (fun c_64 => ?_) (fun c_64 => ?_)
                          · skip
                            have hpc := prsC_2 (T := P 11) (n := P 10 0) (q := P 10 5) (A := nmC (P 13) (P 10 1)) hi4.1.symm hi4.2.1.symm (by omega) hpe ⟨by omega, by omega⟩
                            refine lv_aload_n hx hb dX5_readCommand_129 rfl (lv_at hl 3 rfl) ?_
                            refine lv_dup hx hb dX5_readCommand_130 rfl ?_
                            refine va_get (D := D) (ci := 4) (v := .int (iI (skp (P 11) ((P 10 0)) (o)))) (C := RX5) (T := TX5) (N := 6) hx hb hts hinX5 hown hK hP 0 rfl rfl 5 (by decide) hmw0 (fun _ h9 => h9) rfl dX5_readCommand_131 ?_
                            refine k_iconst hx hb dX5_readCommand_134 ?_
                            refine k_iadd hx hb dX5_readCommand_135 ?_
                            refine va_put (D := D) (ci := 4) (v := .int (iI ((skp (P 11) ((P 10 0)) (o)) + 1))) (ty := .int) (C := RX5) (T := TX5) (N := 6) hx hb hts hinX5 tyX5 tyX5_ok nmX5 hown hK hP hD hS 0 rfl rfl 5 (by decide) hmw0 (fun _ h9 => h9) rfl (by decide +kernel) rfl rfl (Nat.le_of_ble_eq_true rfl) dX5_readCommand_136 (fun H locs hP hD hS => ?_)
                            have hP : va_P D vwCl (scW cy a (upr (upr P 10 (ups (ups (ups (P 10) 5 o) 5 (skp (P 11) ((P 10 0)) (o))) 5 ((skp (P 11) ((P 10 0)) (o)) + 1))) 13 (N))) H := hP
                            have hD : va_D (va_A (scW cy a P) sz) (scW cy a (upr (upr P 10 (ups (ups (ups (P 10) 5 o) 5 (skp (P 11) ((P 10 0)) (o))) 5 ((skp (P 11) ((P 10 0)) (o)) + 1))) 13 (N))) := hD
                            refine lv_aload_n hx hb dX5_readCommand_139 rfl (lv_at hl 3 rfl) ?_
                            refine va_get (D := D) (ci := 4) (v := .ref (a 12)) (C := RX5) (T := TX5) (N := 6) hx hb hts hinX5 hown hK hP 0 rfl rfl 3 (by decide) hmw3 (fun _ h9 => h9) rfl dX5_readCommand_140 ?_
                            refine lv_aload_n hx hb dX5_readCommand_143 rfl (lv_at hl 3 rfl) ?_
                            refine va_get (D := D) (ci := 4) (v := .int (iI (P 10 1))) (C := RX5) (T := TX5) (N := 6) hx hb hts hinX5 hown hK hP 0 rfl rfl 1 (by decide) hmw4 (fun _ h9 => h9) rfl dX5_readCommand_144 ?_
                            refine lv_iload_n hx hb dX5_readCommand_147 rfl (lv_at hl 1 rfl) ?_
                            refine k_iast hx hb hK hP hD hS 2 0 (f := P 12) rfl rfl (i := P 10 1) (x := K9) (by omega) dX5_readCommand_148 (fun H locs hP hD hS => ?_)
                            have hP : va_P D vwCl (scW cy a (upr (upr (upr P 10 (ups (ups (ups (P 10) 5 o) 5 (skp (P 11) ((P 10 0)) (o))) 5 ((skp (P 11) ((P 10 0)) (o)) + 1))) 12 (ups (P 12) (P 10 1) K9)) 13 (N))) H := hP
                            have hD : va_D (va_A (scW cy a P) sz) (scW cy a (upr (upr (upr P 10 (ups (ups (ups (P 10) 5 o) 5 (skp (P 11) ((P 10 0)) (o))) 5 ((skp (P 11) ((P 10 0)) (o)) + 1))) 12 (ups (P 12) (P 10 1) K9)) 13 (N))) := hD
                            refine lv_aload_n hx hb dX5_readCommand_149 rfl (lv_at hl 3 rfl) ?_
                            refine lv_dup hx hb dX5_readCommand_150 rfl ?_
                            refine va_get (D := D) (ci := 4) (v := .int (iI (P 10 1))) (C := RX5) (T := TX5) (N := 6) hx hb hts hinX5 hown hK hP 0 rfl rfl 1 (by decide) hmw4 (fun _ h9 => h9) rfl dX5_readCommand_151 ?_
                            refine k_iconst hx hb dX5_readCommand_154 ?_
                            refine k_iadd hx hb dX5_readCommand_155 ?_
                            refine va_put (D := D) (ci := 4) (v := .int (iI ((P 10 1) + 1))) (ty := .int) (C := RX5) (T := TX5) (N := 6) hx hb hts hinX5 tyX5 tyX5_ok nmX5 hown hK hP hD hS 0 rfl rfl 1 (by decide) hmw4 (fun _ h9 => h9) rfl (by decide +kernel) rfl rfl (Nat.le_of_ble_eq_true rfl) dX5_readCommand_156 (fun H locs hP hD hS => ?_)
                            have hP : va_P D vwCl (scW cy a (upr (upr (upr P 10 (ups (ups (ups (ups (P 10) 5 o) 5 (skp (P 11) ((P 10 0)) (o))) 5 ((skp (P 11) ((P 10 0)) (o)) + 1)) 1 ((P 10 1) + 1))) 12 (ups (P 12) (P 10 1) K9)) 13 (N))) H := hP
                            have hD : va_D (va_A (scW cy a P) sz) (scW cy a (upr (upr (upr P 10 (ups (ups (ups (ups (P 10) 5 o) 5 (skp (P 11) ((P 10 0)) (o))) 5 ((skp (P 11) ((P 10 0)) (o)) + 1)) 1 ((P 10 1) + 1))) 12 (ups (P 12) (P 10 1) K9)) 13 (N))) := hD
                            refine k_iconst hx hb dX5_readCommand_159 ?_
                            exact W.iret (v := iI (-1)) hx hb hr (fun t9 ht _ => ⟨⟨iI (-1), (upr (upr (upr P 10 (ups (ups (ups (ups (P 10) 5 o) 5 (skp (P 11) ((P 10 0)) (o))) 5 ((skp (P 11) ((P 10 0)) (o)) + 1)) 1 ((P 10 1) + 1))) 12 (ups (P 12) (P 10 1) K9)) 13 (N)), rfl, ⟨(-1), rfl, (by first | exact Or.inr (⟨(((skp (P 11) ((P 10 0)) (o)) + 1)), (K9), (N), (⟨⟨hpc, hi4.2.2⟩, hi5, hi6⟩), (by first | rfl | omega), (by rw [show (ups (ups (ups (ups (P 10) 5 o) 5 (skp (P 11) ((P 10 0)) (o))) 5 ((skp (P 11) ((P 10 0)) (o)) + 1)) 1 ((P 10 1) + 1)) = (ups (ups (P 10) 5 ((skp (P 11) ((P 10 0)) (o)) + 1)) 1 (P 10 1 + 1)) from by first | rfl | exact ups_ups _ _ _ _ | (funext k9; unfold ups; (repeat' split) <;> first | rfl | omega | (exfalso; omega))])⟩) : (∃ (x9 : Int) (zq : Int) (zN : Int → Int), (((∃ (k9 : Int) (B9 : Int → Int), (prsC (P 11) (P 10 0) (P 10 5) (nmC (P 13) (P 10 1))) = (0, x9, k9, B9)) ∧ (0 ≤ x9 ∧ x9 ≤ P 10 0)) ∧ nOK zN ∧ ∀ i9 : Int, 0 ≤ i9 → i9 < P 10 1 * 4 → zN i9 = P 13 i9) ∧ ((-1) : Int) = x9 ∧ (upr (upr (upr P 10 (ups (ups (ups (ups (P 10) 5 o) 5 (skp (P 11) ((P 10 0)) (o))) 5 ((skp (P 11) ((P 10 0)) (o)) + 1)) 1 ((P 10 1) + 1))) 12 (ups (P 12) (P 10 1) K9)) 13 (N)) = (upr (upr P 10 (ups (P 10) 5 zq)) 13 (zN))) ∨ (∃ (x9 : Int) (k9 : Int) (zN : Int → Int), (((prsC (P 11) (P 10 0) (P 10 5) (nmC (P 13) (P 10 1))) = (1, x9, k9, nmC zN (P 10 1)) ∧ 0 ≤ k9 ∧ k9 ≤ 6) ∧ nOK zN ∧ ∀ i9 : Int, 0 ≤ i9 → i9 < P 10 1 * 4 → zN i9 = P 13 i9) ∧ ((-1) : Int) = -1 ∧ (upr (upr (upr P 10 (ups (ups (ups (ups (P 10) 5 o) 5 (skp (P 11) ((P 10 0)) (o))) 5 ((skp (P 11) ((P 10 0)) (o)) + 1)) 1 ((P 10 1) + 1))) 12 (ups (P 12) (P 10 1) K9)) 13 (N)) = (upr (upr (upr P 10 (ups (ups (P 10) 5 x9) 1 (P 10 1 + 1))) 12 (ups (P 12) (P 10 1) k9)) 13 (zN))))⟩, by rw [ht]; exact hP, hD⟩, hS.F ht⟩) hS.2.2 dX5_readCommand_160 hlocks
                          · skip
                            have hpc := prsC_3 (T := P 11) (n := P 10 0) (q := P 10 5) (A := nmC (P 13) (P 10 1)) hi4.1.symm hi4.2.1.symm (by omega) hpe (fun h9 => by omega)
                            refine lv_aload_n hx hb dX5_readCommand_124 rfl (lv_at hl 3 rfl) ?_
                            refine va_get (D := D) (ci := 4) (v := .int (iI (skp (P 11) ((P 10 0)) (o)))) (C := RX5) (T := TX5) (N := 6) hx hb hts hinX5 hown hK hP 0 rfl rfl 5 (by decide) hmw0 (fun _ h9 => h9) rfl dX5_readCommand_125 ?_
                            exact W.iret (v := iI (skp (P 11) ((P 10 0)) (o))) hx hb hr (fun t9 ht _ => ⟨⟨iI (skp (P 11) ((P 10 0)) (o)), (upr (upr P 10 (ups (ups (P 10) 5 o) 5 (skp (P 11) ((P 10 0)) (o)))) 13 (N)), rfl, ⟨(skp (P 11) ((P 10 0)) (o)), rfl, (by first | exact Or.inl ⟨((skp (P 11) ((P 10 0)) (o))), ((skp (P 11) ((P 10 0)) (o))), (N), (⟨⟨⟨_, _, hpc⟩, by omega⟩, by first | exact hnn | exact hi5 | exact nOK_ups hi5 hdv, by first | exact fun _ _ _ => rfl | exact hi6 | exact fun i9 a9 b9 => (ups_ne _ _ (by omega)).trans (hi6 i9 a9 b9)⟩), (by first | rfl | omega), (by rw [show (ups (ups (P 10) 5 o) 5 (skp (P 11) ((P 10 0)) (o))) = (ups (P 10) 5 (skp (P 11) ((P 10 0)) (o))) from by first | rfl | exact ups_ups _ _ _ _ | (funext k9; unfold ups; (repeat' split) <;> first | rfl | omega | (exfalso; omega))])⟩ : (∃ (x9 : Int) (zq : Int) (zN : Int → Int), (((∃ (k9 : Int) (B9 : Int → Int), (prsC (P 11) (P 10 0) (P 10 5) (nmC (P 13) (P 10 1))) = (0, x9, k9, B9)) ∧ (0 ≤ x9 ∧ x9 ≤ P 10 0)) ∧ nOK zN ∧ ∀ i9 : Int, 0 ≤ i9 → i9 < P 10 1 * 4 → zN i9 = P 13 i9) ∧ (skp (P 11) ((P 10 0)) (o) : Int) = x9 ∧ (upr (upr P 10 (ups (ups (P 10) 5 o) 5 (skp (P 11) ((P 10 0)) (o)))) 13 (N)) = (upr (upr P 10 (ups (P 10) 5 zq)) 13 (zN))) ∨ (∃ (x9 : Int) (k9 : Int) (zN : Int → Int), (((prsC (P 11) (P 10 0) (P 10 5) (nmC (P 13) (P 10 1))) = (1, x9, k9, nmC zN (P 10 1)) ∧ 0 ≤ k9 ∧ k9 ≤ 6) ∧ nOK zN ∧ ∀ i9 : Int, 0 ≤ i9 → i9 < P 10 1 * 4 → zN i9 = P 13 i9) ∧ (skp (P 11) ((P 10 0)) (o) : Int) = -1 ∧ (upr (upr P 10 (ups (ups (P 10) 5 o) 5 (skp (P 11) ((P 10 0)) (o)))) 13 (N)) = (upr (upr (upr P 10 (ups (ups (P 10) 5 x9) 1 (P 10 1 + 1))) 12 (ups (P 12) (P 10 1) k9)) 13 (zN))))⟩, by rw [ht]; exact hP, hD⟩, hS.F ht⟩) hS.2.2 dX5_readCommand_128 hlocks
                        · skip
                          refine k_bipush hx hb dX5_readCommand_119 (by decide +kernel) ?_
                          refine k_icmp_eq (tgt := 129) hx hb dX5_readCommand_121 (by decide) (by omega) (by omega) (fun c_65 => ?_) (fun c_65 => ?_)
                          · exfalso; omega
                          · skip
                            have hpc := prsC_3 (T := P 11) (n := P 10 0) (q := P 10 5) (A := nmC (P 13) (P 10 1)) hi4.1.symm hi4.2.1.symm (by omega) hpe (fun h9 => by omega)
                            refine lv_aload_n hx hb dX5_readCommand_124 rfl (lv_at hl 3 rfl) ?_
                            refine va_get (D := D) (ci := 4) (v := .int (iI (skp (P 11) ((P 10 0)) (o)))) (C := RX5) (T := TX5) (N := 6) hx hb hts hinX5 hown hK hP 0 rfl rfl 5 (by decide) hmw0 (fun _ h9 => h9) rfl dX5_readCommand_125 ?_
                            exact W.iret (v := iI (skp (P 11) ((P 10 0)) (o))) hx hb hr (fun t9 ht _ => ⟨⟨iI (skp (P 11) ((P 10 0)) (o)), (upr (upr P 10 (ups (ups (P 10) 5 o) 5 (skp (P 11) ((P 10 0)) (o)))) 13 (N)), rfl, ⟨(skp (P 11) ((P 10 0)) (o)), rfl, (by first | exact Or.inl ⟨((skp (P 11) ((P 10 0)) (o))), ((skp (P 11) ((P 10 0)) (o))), (N), (⟨⟨⟨_, _, hpc⟩, by omega⟩, by first | exact hnn | exact hi5 | exact nOK_ups hi5 hdv, by first | exact fun _ _ _ => rfl | exact hi6 | exact fun i9 a9 b9 => (ups_ne _ _ (by omega)).trans (hi6 i9 a9 b9)⟩), (by first | rfl | omega), (by rw [show (ups (ups (P 10) 5 o) 5 (skp (P 11) ((P 10 0)) (o))) = (ups (P 10) 5 (skp (P 11) ((P 10 0)) (o))) from by first | rfl | exact ups_ups _ _ _ _ | (funext k9; unfold ups; (repeat' split) <;> first | rfl | omega | (exfalso; omega))])⟩ : (∃ (x9 : Int) (zq : Int) (zN : Int → Int), (((∃ (k9 : Int) (B9 : Int → Int), (prsC (P 11) (P 10 0) (P 10 5) (nmC (P 13) (P 10 1))) = (0, x9, k9, B9)) ∧ (0 ≤ x9 ∧ x9 ≤ P 10 0)) ∧ nOK zN ∧ ∀ i9 : Int, 0 ≤ i9 → i9 < P 10 1 * 4 → zN i9 = P 13 i9) ∧ (skp (P 11) ((P 10 0)) (o) : Int) = x9 ∧ (upr (upr P 10 (ups (ups (P 10) 5 o) 5 (skp (P 11) ((P 10 0)) (o)))) 13 (N)) = (upr (upr P 10 (ups (P 10) 5 zq)) 13 (zN))) ∨ (∃ (x9 : Int) (k9 : Int) (zN : Int → Int), (((prsC (P 11) (P 10 0) (P 10 5) (nmC (P 13) (P 10 1))) = (1, x9, k9, nmC zN (P 10 1)) ∧ 0 ≤ k9 ∧ k9 ≤ 6) ∧ nOK zN ∧ ∀ i9 : Int, 0 ≤ i9 → i9 < P 10 1 * 4 → zN i9 = P 13 i9) ∧ (skp (P 11) ((P 10 0)) (o) : Int) = -1 ∧ (upr (upr P 10 (ups (ups (P 10) 5 o) 5 (skp (P 11) ((P 10 0)) (o)))) 13 (N)) = (upr (upr (upr P 10 (ups (ups (P 10) 5 x9) 1 (P 10 1 + 1))) 12 (ups (P 12) (P 10 1) k9)) 13 (zN))))⟩, by rw [ht]; exact hP, hD⟩, hS.F ht⟩) hS.2.2 dX5_readCommand_128 hlocks
                      · skip
                        refine lv_aload_n hx hb dX5_readCommand_85 rfl (lv_at hl 3 rfl) ?_
                        refine lv_aload_n hx hb dX5_readCommand_86 rfl (lv_at hl 3 rfl) ?_
                        refine va_get (D := D) (ci := 4) (v := .int (iI (P 10 1))) (C := RX5) (T := TX5) (N := 6) hx hb hts hinX5 hown hK hP 0 rfl rfl 1 (by decide) hmw4 (fun _ h9 => h9) rfl dX5_readCommand_87 ?_
                        refine k_iconst hx hb dX5_readCommand_90 ?_
                        refine k_imul hx hb dX5_readCommand_91 ?_
                        refine lv_iload_n hx hb dX5_readCommand_92 rfl (lv_at hl 0 rfl) ?_
                        refine k_iadd hx hb dX5_readCommand_93 ?_
                        refine k_mui (k_runV (As := [.int (iI (((P 10 1) * 4) + i))]) (rest := []) ⟨hx, hb, hml, hown, hts⟩ (c_X5_readNumber l D cy H.size a (upr (upr P 10 (ups (P 10) 5 o)) 13 (N)) (((P 10 1) * 4) + i) (show 0 ≤ o ∧ o ≤ (P 10 0) by omega) (show (P 10 0) ≤ 150 by omega) (show ∀ k : Int, 0 ≤ k → k < 150 → 0 ≤ (P 11) k ∧ (P 11) k ≤ 127 by omega) (show 0 ≤ (((P 10 1) * 4) + i) ∧ (((P 10 1) * 4) + i) < 600 by omega)) gX5_readCommand_X5_readNumber rfl ⟨rfl, rfl⟩ 1 rfl (by decide +kernel) ⟨Nat.le_of_ble_eq_true rfl, Nat.le_of_ble_eq_true rfl⟩ (GG_ok D cy) hG hS (k_free hD hS hA) hP hD (va_recv hK hP (ci := 4) (q0 := 0) rfl rfl) hl.1 rfl (Nat.le_of_ble_eq_true rfl) ⟨Nat.le_of_ble_eq_true rfl, Nat.le_of_ble_eq_true rfl⟩ dX5_readCommand_94) (k_free hD hS hA) hS (fun r_66 R_67 H1 locs1 hR_67 hP1 hD1 hS1 hk1 => ?_)
                        rcases hR_67 with ⟨c_68, hr_66, hR_67⟩ | ⟨c_68, hr_66, hR_67⟩ | ⟨dq_69, dv_70, c_68, hr_66, hR_67⟩ | ⟨dq_71, dv_72, c_68, hr_66, hR_67⟩
                        · skip
                          have c_68 : (skp (P 11) ((P 10 0)) (o)) = o := c_68
                          subst hr_66
                          subst hR_67
                          have hDn : va_D (va_A (scW cy a P) sz) (scW cy a (upr (upr P 10 (ups (P 10) 5 o)) 13 (N))) := k_addr hD rfl
                          have hPn : va_P D vwCl (scW cy a (upr (upr P 10 (ups (P 10) 5 o)) 13 (N))) H1 := hP1
                          clear hP hD hS hP1 hD1 hk1
                          have hP := hPn
                          have hD := hDn
                          have hS := hS1
                          clear hPn hDn hS1
                          generalize H1 = H at hP hS ⊢
                          generalize locs1 = locs at hS ⊢
                          have hps := prsN_a (T := P 11) (n := P 10 0) (m := manyF K9) (k := i) (q := o) (A := nmC N (P 10 1)) (by omega) c_68
                          have hpc := prsC_1 (T := P 11) (n := P 10 0) (q := P 10 5) (A := nmC (P 13) (P 10 1)) hi4.1.symm hi4.2.1.symm (by omega) (hi3.symm.trans hps)
                          refine k_if_ne (tgt := 105) hx hb dX5_readCommand_97 (by decide) (by omega) (fun c_73 => ?_) (fun c_73 => ?_)
                          · exfalso; omega
                          · skip
                            refine lv_aload_n hx hb dX5_readCommand_100 rfl (lv_at hl 3 rfl) ?_
                            refine va_get (D := D) (ci := 4) (v := .int (iI o)) (C := RX5) (T := TX5) (N := 6) hx hb hts hinX5 hown hK hP 0 rfl rfl 5 (by decide) hmw0 (fun _ h9 => h9) rfl dX5_readCommand_101 ?_
                            exact W.iret (v := iI o) hx hb hr (fun t9 ht _ => ⟨⟨iI o, (upr (upr P 10 (ups (P 10) 5 o)) 13 (N)), rfl, ⟨o, rfl, (by first | exact Or.inl ⟨(o), (o), (N), (⟨⟨⟨_, _, hpc⟩, by omega⟩, by first | exact hnn | exact hi5 | exact nOK_ups hi5 hdv, by first | exact fun _ _ _ => rfl | exact hi6 | exact fun i9 a9 b9 => (ups_ne _ _ (by omega)).trans (hi6 i9 a9 b9)⟩), (by first | rfl | omega), rfl⟩ : (∃ (x9 : Int) (zq : Int) (zN : Int → Int), (((∃ (k9 : Int) (B9 : Int → Int), (prsC (P 11) (P 10 0) (P 10 5) (nmC (P 13) (P 10 1))) = (0, x9, k9, B9)) ∧ (0 ≤ x9 ∧ x9 ≤ P 10 0)) ∧ nOK zN ∧ ∀ i9 : Int, 0 ≤ i9 → i9 < P 10 1 * 4 → zN i9 = P 13 i9) ∧ (o : Int) = x9 ∧ (upr (upr P 10 (ups (P 10) 5 o)) 13 (N)) = (upr (upr P 10 (ups (P 10) 5 zq)) 13 (zN))) ∨ (∃ (x9 : Int) (k9 : Int) (zN : Int → Int), (((prsC (P 11) (P 10 0) (P 10 5) (nmC (P 13) (P 10 1))) = (1, x9, k9, nmC zN (P 10 1)) ∧ 0 ≤ k9 ∧ k9 ≤ 6) ∧ nOK zN ∧ ∀ i9 : Int, 0 ≤ i9 → i9 < P 10 1 * 4 → zN i9 = P 13 i9) ∧ (o : Int) = -1 ∧ (upr (upr P 10 (ups (P 10) 5 o)) 13 (N)) = (upr (upr (upr P 10 (ups (ups (P 10) 5 x9) 1 (P 10 1 + 1))) 12 (ups (P 12) (P 10 1) k9)) 13 (zN))))⟩, by rw [ht]; exact hP, hD⟩, hS.F ht⟩) hS.2.2 dX5_readCommand_104 hlocks
                        · skip
                          have c_68 : o < (skp (P 11) ((P 10 0)) (o)) ∧ (dgF (P 11) ((P 10 0)) (skp (P 11) ((P 10 0)) (o))) = ((skp (P 11) ((P 10 0)) (o)), 0) := c_68
                          subst hr_66
                          subst hR_67
                          have hDn : va_D (va_A (scW cy a P) sz) (scW cy a (upr (upr P 10 (ups (ups (P 10) 5 o) 5 (skp (P 11) ((P 10 0)) (o)))) 13 (N))) := k_addr hD rfl
                          have hPn : va_P D vwCl (scW cy a (upr (upr P 10 (ups (ups (P 10) 5 o) 5 (skp (P 11) ((P 10 0)) (o)))) 13 (N))) H1 := hP1
                          clear hP hD hS hP1 hD1 hk1
                          have hP := hPn
                          have hD := hDn
                          have hS := hS1
                          clear hPn hDn hS1
                          generalize H1 = H at hP hS ⊢
                          generalize locs1 = locs at hS ⊢
                          have hps := prsN_b (T := P 11) (n := P 10 0) (m := manyF K9) (k := i) (q := o) (A := nmC N (P 10 1)) (by omega) (by omega) c_68.2
                          have hpc := prsC_1 (T := P 11) (n := P 10 0) (q := P 10 5) (A := nmC (P 13) (P 10 1)) hi4.1.symm hi4.2.1.symm (by omega) (hi3.symm.trans hps)
                          refine k_if_ne (tgt := 105) hx hb dX5_readCommand_97 (by decide) (by omega) (fun c_74 => ?_) (fun c_74 => ?_)
                          · exfalso; omega
                          · skip
                            refine lv_aload_n hx hb dX5_readCommand_100 rfl (lv_at hl 3 rfl) ?_
                            refine va_get (D := D) (ci := 4) (v := .int (iI (skp (P 11) ((P 10 0)) (o)))) (C := RX5) (T := TX5) (N := 6) hx hb hts hinX5 hown hK hP 0 rfl rfl 5 (by decide) hmw0 (fun _ h9 => h9) rfl dX5_readCommand_101 ?_
                            exact W.iret (v := iI (skp (P 11) ((P 10 0)) (o))) hx hb hr (fun t9 ht _ => ⟨⟨iI (skp (P 11) ((P 10 0)) (o)), (upr (upr P 10 (ups (ups (P 10) 5 o) 5 (skp (P 11) ((P 10 0)) (o)))) 13 (N)), rfl, ⟨(skp (P 11) ((P 10 0)) (o)), rfl, (by first | exact Or.inl ⟨((skp (P 11) ((P 10 0)) (o))), ((skp (P 11) ((P 10 0)) (o))), (N), (⟨⟨⟨_, _, hpc⟩, by omega⟩, by first | exact hnn | exact hi5 | exact nOK_ups hi5 hdv, by first | exact fun _ _ _ => rfl | exact hi6 | exact fun i9 a9 b9 => (ups_ne _ _ (by omega)).trans (hi6 i9 a9 b9)⟩), (by first | rfl | omega), (by rw [show (ups (ups (P 10) 5 o) 5 (skp (P 11) ((P 10 0)) (o))) = (ups (P 10) 5 (skp (P 11) ((P 10 0)) (o))) from by first | rfl | exact ups_ups _ _ _ _ | (funext k9; unfold ups; (repeat' split) <;> first | rfl | omega | (exfalso; omega))])⟩ : (∃ (x9 : Int) (zq : Int) (zN : Int → Int), (((∃ (k9 : Int) (B9 : Int → Int), (prsC (P 11) (P 10 0) (P 10 5) (nmC (P 13) (P 10 1))) = (0, x9, k9, B9)) ∧ (0 ≤ x9 ∧ x9 ≤ P 10 0)) ∧ nOK zN ∧ ∀ i9 : Int, 0 ≤ i9 → i9 < P 10 1 * 4 → zN i9 = P 13 i9) ∧ (skp (P 11) ((P 10 0)) (o) : Int) = x9 ∧ (upr (upr P 10 (ups (ups (P 10) 5 o) 5 (skp (P 11) ((P 10 0)) (o)))) 13 (N)) = (upr (upr P 10 (ups (P 10) 5 zq)) 13 (zN))) ∨ (∃ (x9 : Int) (k9 : Int) (zN : Int → Int), (((prsC (P 11) (P 10 0) (P 10 5) (nmC (P 13) (P 10 1))) = (1, x9, k9, nmC zN (P 10 1)) ∧ 0 ≤ k9 ∧ k9 ≤ 6) ∧ nOK zN ∧ ∀ i9 : Int, 0 ≤ i9 → i9 < P 10 1 * 4 → zN i9 = P 13 i9) ∧ (skp (P 11) ((P 10 0)) (o) : Int) = -1 ∧ (upr (upr P 10 (ups (ups (P 10) 5 o) 5 (skp (P 11) ((P 10 0)) (o)))) 13 (N)) = (upr (upr (upr P 10 (ups (ups (P 10) 5 x9) 1 (P 10 1 + 1))) 12 (ups (P 12) (P 10 1) k9)) 13 (zN))))⟩, by rw [ht]; exact hP, hD⟩, hS.F ht⟩) hS.2.2 dX5_readCommand_104 hlocks
                        · skip
                          have c_68 : ((o < (skp (P 11) ((P 10 0)) (o)) ∧ (skp (P 11) ((P 10 0)) (o)) < dq_69 ∧ dq_69 ≤ (P 10 0)) ∧ (dgF (P 11) ((P 10 0)) (skp (P 11) ((P 10 0)) (o))) = (dq_69, dv_70)) ∧ (dq_69 < (P 10 0) ∧ 48 ≤ (P 11) dq_69 ∧ (P 11) dq_69 ≤ 57) := c_68
                          subst hr_66
                          subst hR_67
                          have hDn : va_D (va_A (scW cy a P) sz) (scW cy a (upr (upr P 10 (ups (ups (P 10) 5 o) 5 dq_69)) 13 (ups (N) (((P 10 1) * 4) + i) dv_70))) := k_addr hD rfl
                          have hPn : va_P D vwCl (scW cy a (upr (upr P 10 (ups (ups (P 10) 5 o) 5 dq_69)) 13 (ups (N) (((P 10 1) * 4) + i) dv_70))) H1 := hP1
                          clear hP hD hS hP1 hD1 hk1
                          have hP := hPn
                          have hD := hDn
                          have hS := hS1
                          clear hPn hDn hS1
                          generalize H1 = H at hP hS ⊢
                          generalize locs1 = locs at hS ⊢
                          have hdd := c_68.1.2
                          have hdv := hdl.2
                          rw [c_68.1.2] at hdv
                          have hpc := rd_long (T := P 11) (n := P 10 0) (m := manyF K9) (i := i) (q := o) (A := nmC (P 13) (P 10 1)) (B := nmC N (P 10 1)) (by omega) rfl (by omega) c_68.1.2 (by omega) (by omega) hi3 hi4.1.symm hi4.2.1.symm (by omega)
                          refine k_if_ne (tgt := 105) hx hb dX5_readCommand_97 (by decide) (by omega) (fun c_75 => ?_) (fun c_75 => ?_)
                          · exfalso; omega
                          · skip
                            refine lv_aload_n hx hb dX5_readCommand_100 rfl (lv_at hl 3 rfl) ?_
                            refine va_get (D := D) (ci := 4) (v := .int (iI dq_69)) (C := RX5) (T := TX5) (N := 6) hx hb hts hinX5 hown hK hP 0 rfl rfl 5 (by decide) hmw0 (fun _ h9 => h9) rfl dX5_readCommand_101 ?_
                            exact W.iret (v := iI dq_69) hx hb hr (fun t9 ht _ => ⟨⟨iI dq_69, (upr (upr P 10 (ups (ups (P 10) 5 o) 5 dq_69)) 13 (ups (N) (((P 10 1) * 4) + i) dv_70)), rfl, ⟨dq_69, rfl, (by first | exact Or.inl ⟨(dq_69), (dq_69), ((ups (N) (((P 10 1) * 4) + i) dv_70)), (⟨⟨⟨_, _, hpc⟩, by omega⟩, by first | exact hnn | exact hi5 | exact nOK_ups hi5 hdv, by first | exact fun _ _ _ => rfl | exact hi6 | exact fun i9 a9 b9 => (ups_ne _ _ (by omega)).trans (hi6 i9 a9 b9)⟩), (by first | rfl | omega), (by rw [show (ups (ups (P 10) 5 o) 5 dq_69) = (ups (P 10) 5 dq_69) from by first | rfl | exact ups_ups _ _ _ _ | (funext k9; unfold ups; (repeat' split) <;> first | rfl | omega | (exfalso; omega))])⟩ : (∃ (x9 : Int) (zq : Int) (zN : Int → Int), (((∃ (k9 : Int) (B9 : Int → Int), (prsC (P 11) (P 10 0) (P 10 5) (nmC (P 13) (P 10 1))) = (0, x9, k9, B9)) ∧ (0 ≤ x9 ∧ x9 ≤ P 10 0)) ∧ nOK zN ∧ ∀ i9 : Int, 0 ≤ i9 → i9 < P 10 1 * 4 → zN i9 = P 13 i9) ∧ (dq_69 : Int) = x9 ∧ (upr (upr P 10 (ups (ups (P 10) 5 o) 5 dq_69)) 13 (ups (N) (((P 10 1) * 4) + i) dv_70)) = (upr (upr P 10 (ups (P 10) 5 zq)) 13 (zN))) ∨ (∃ (x9 : Int) (k9 : Int) (zN : Int → Int), (((prsC (P 11) (P 10 0) (P 10 5) (nmC (P 13) (P 10 1))) = (1, x9, k9, nmC zN (P 10 1)) ∧ 0 ≤ k9 ∧ k9 ≤ 6) ∧ nOK zN ∧ ∀ i9 : Int, 0 ≤ i9 → i9 < P 10 1 * 4 → zN i9 = P 13 i9) ∧ (dq_69 : Int) = -1 ∧ (upr (upr P 10 (ups (ups (P 10) 5 o) 5 dq_69)) 13 (ups (N) (((P 10 1) * 4) + i) dv_70)) = (upr (upr (upr P 10 (ups (ups (P 10) 5 x9) 1 (P 10 1 + 1))) 12 (ups (P 12) (P 10 1) k9)) 13 (zN))))⟩, by rw [ht]; exact hP, hD⟩, hS.F ht⟩) hS.2.2 dX5_readCommand_104 hlocks
                        · skip
                          have c_68 : ((o < (skp (P 11) ((P 10 0)) (o)) ∧ (skp (P 11) ((P 10 0)) (o)) < dq_71 ∧ dq_71 ≤ (P 10 0)) ∧ (dgF (P 11) ((P 10 0)) (skp (P 11) ((P 10 0)) (o))) = (dq_71, dv_72)) ∧ ¬ (dq_71 < (P 10 0) ∧ 48 ≤ (P 11) dq_71 ∧ (P 11) dq_71 ≤ 57) := c_68
                          subst hr_66
                          subst hR_67
                          have hDn : va_D (va_A (scW cy a P) sz) (scW cy a (upr (upr P 10 (ups (ups (P 10) 5 o) 5 dq_71)) 13 (ups (N) (((P 10 1) * 4) + i) dv_72))) := k_addr hD rfl
                          have hPn : va_P D vwCl (scW cy a (upr (upr P 10 (ups (ups (P 10) 5 o) 5 dq_71)) 13 (ups (N) (((P 10 1) * 4) + i) dv_72))) H1 := hP1
                          clear hP hD hS hP1 hD1 hk1
                          have hP := hPn
                          have hD := hDn
                          have hS := hS1
                          clear hPn hDn hS1
                          generalize H1 = H at hP hS ⊢
                          generalize locs1 = locs at hS ⊢
                          have hdd := c_68.1.2
                          have hdv := hdl.2
                          rw [c_68.1.2] at hdv
                          have hps := prsN_c (T := P 11) (n := P 10 0) (m := manyF K9) (k := i) (q := o) (A := nmC N (P 10 1)) (by omega) (by omega) c_68.1.2 (by omega)
                          refine k_if_ne (tgt := 105) hx hb dX5_readCommand_97 (by decide) (by omega) (fun c_76 => ?_) (fun c_76 => ?_)
                          · skip
                            refine lv_iinc (v := iI (i + 1)) (lv' := [(3, .int (iI (i + 1))), (2, .int (iI K9)), (1, .int (iI (P 10 5))), (0, .ref (a 10))]) hx hb dX5_readCommand_105 hl (k := 0) rfl (iI_add _ _) (by decide) rfl (fun ls hl => ?_)
                            refine lv_goto (tgt := 76) hx hb dX5_readCommand_108 (by decide) ?_
                            exact ih76 K9 W9 (i + 1) dq_71 (ups (N) (((P 10 1) * 4) + i) dv_72)  (by omega) (by omega) (by omega) (by rw [nmC_ups]; exact hps.symm.trans hi3) (hi4) (nOK_ups hi5 hdv) (fun i9 a9 b9 => by rw [ups_ne _ _ (by omega)]; exact hi6 i9 a9 b9) (by omega) H locs (by rw [show (ups (P 10) 5 dq_71) = (ups (ups (P 10) 5 o) 5 dq_71) from (ups_ups _ _ _ _).symm]; exact hP) (k_addr hD rfl) hS ls (lv_sub hl [0, 1, 2, 3] rfl)
                          · exfalso; omega
                  exact loop76 ((manyF (kindW ((P 11)) (P 10 5) q) - 0 : Int) + 1).toNat (kindW ((P 11)) (P 10 5) q) q 0 q (P 13)  (by omega) ((manyF_rg _).1) (by omega) (by rw [Int.sub_zero]) (⟨by rw [← hwq], hwq.symm, by omega⟩) (hnn) (fun _ _ _ => rfl) (by omega) H locs (hP) (k_addr hD rfl) hS ls (lv_sub hl [0, 1, 2, 3] rfl)
                · exfalso; omega
            · skip
              refine lv_aload_n hx hb dX5_readCommand_44 rfl (lv_at hl 1 rfl) ?_
              refine lv_dup hx hb dX5_readCommand_45 rfl ?_
              refine va_get (D := D) (ci := 4) (v := .int (iI q)) (C := RX5) (T := TX5) (N := 6) hx hb hts hinX5 hown hK hP 0 rfl rfl 5 (by decide) hmw0 (fun _ h9 => h9) rfl dX5_readCommand_46 ?_
              refine k_iconst hx hb dX5_readCommand_49 ?_
              refine k_iadd hx hb dX5_readCommand_50 ?_
              refine va_put (D := D) (ci := 4) (v := .int (iI (q + 1))) (ty := .int) (C := RX5) (T := TX5) (N := 6) hx hb hts hinX5 tyX5 tyX5_ok nmX5 hown hK hP hD hS 0 rfl rfl 5 (by decide) hmw0 (fun _ h9 => h9) rfl (by decide +kernel) rfl rfl (Nat.le_of_ble_eq_true rfl) dX5_readCommand_51 (fun H locs hP hD hS => ?_)
              have hP : va_P D vwCl (scW cy a (upr P 10 (ups (ups (P 10) 5 q) 5 (q + 1)))) H := hP
              have hD : va_D (va_A (scW cy a P) sz) (scW cy a (upr P 10 (ups (ups (P 10) 5 q) 5 (q + 1)))) := hD
              refine lv_goto (tgt := 5) hx hb dX5_readCommand_54 (by decide) ?_
              exact ih5 (q + 1)  (by omega) (by omega) ((wre_y (by omega) (by omega)).symm.trans hi2) (by omega) H locs (by rw [show (ups (P 10) 5 (q + 1)) = (ups (ups (P 10) 5 q) 5 (q + 1)) from (ups_ups _ _ _ _).symm]; exact hP) (k_addr hD rfl) hS ls (lv_sub hl [0, 1] rfl)
    exact loop5 ((P 10 0 - (P 10 5) : Int) + 1).toNat (P 10 5)  (by omega) (by omega) (rfl) (by omega) H locs (by rw [show (ups (P 10) 5 (P 10 5)) = (P 10) from ups_self _ _]; exact hP) (k_addr hD rfl) hS ls (lv_sub hl [0, 1] rfl)
  exact hbody s.heap [] hP hS ls hl
set_option maxHeartbeats 4000000 in
set_option maxRecDepth 100000 in
theorem c_X5_read (l : Launch) (D : va_G) (cy : Nat → ClassId) (sz : Nat) (a : Nat → Nat) (P : Nat → Int → Int)  (hn0 : 0 ≤ P 10 0) (htn : P 10 0 ≤ 150) (hT : ∀ k : Int, 0 ≤ k → k < 150 → 0 ≤ P 11 k ∧ P 11 k ≤ 127) (hnn : nOK (P 13)) : Met l yX5_read wsX5_read { frames := 7, cells := 0, slots := 0, locals := 156 } (mPre (GS D cy) D (scW cy a P) sz ([.ref (a 10)] : List Value)) (kQi D (scW cy a P) sz (fun u9 : Nat → Int → Int => scW cy a u9) (fun r9 u9 => (∃ (x9 : Int) (zq : Int) (zc : Int) (zK : Int → Int) (zN : Int → Int), ((prsF (P 11) (P 10 0) (skp (P 11) (P 10 0) 0) = (0, x9) ∧ 0 ≤ x9) ∧ nOK zN) ∧ r9 = x9 ∧ u9 = (upr (upr (upr P 10 (ups (ups (P 10) 5 zq) 1 zc)) 12 (zK)) 13 (zN))) ∨ (∃ (zq : Int) (zc : Int) (zK : Int → Int) (zN : Int → Int), (((∃ x9 : Int, prsF (P 11) (P 10 0) (skp (P 11) (P 10 0) 0) = (1, x9)) ∧ cmAll (P 11) (P 10 0) zK zN zc) ∧ nOK zN ∧ 0 ≤ zc ∧ zc ≤ 150) ∧ r9 = -1 ∧ u9 = (upr (upr (upr P 10 (ups (ups (P 10) 5 zq) 1 zc)) 12 (zK)) 13 (zN))))) 0 0 (va_A (scW cy a P) sz) := by
  refine kM_start (cc := cX5_read) (maxL := 3) (ret := (some .int)) (by decide) rfl (Nat.le_of_ble_eq_true rfl) ?_
  intro p e s m below meth c hx hb hr hlocks hml hts hown hsz hA hG hP hD hS hin ls hl
  have hGs := hG
  have hJd := hG.2.1
  have hG := hG.1
  have hK := hG.1
  have hl : lv_has ls 3 [(0, .ref (a 10))] := hl
  have hinX5 : ∀ w ∈ u_ws RX5 TX5 6, w ∈ wsX5_read := by decide +kernel
  have hmw0 := hts (.fieldLink RX5 15 "ArcPlate$Script" "commands" "I") (by decide +kernel)
  have hmw1 := hts (.fieldLink RX5 29 "ArcPlate$Script" "at" "I") (by decide +kernel)
  have hmw2 := hts (.fieldLink RX5 9 "ArcPlate$Script" "length" "I") (by decide +kernel)
  have hs0 := skp_le (T := P 11) hn0
  have hbody : ∀ (H : Heap) (locs : List Loc) (hP : va_P D vwCl (scW cy a P) H) (hS : va_S (va_A (scW cy a P) sz) s.heap H locs) (ls : Array Slot) (hl : lv_has ls 3 [(0, .ref (a 10))]), W p l e { frames := 7, cells := 0, slots := 0, locals := 156 } s m ([.ref (a 10)] : List Value).toArray below meth c H locs 0 0 (MQ below (kQi D (scW cy a P) sz (fun u9 : Nat → Int → Int => scW cy a u9) (fun r9 u9 => (∃ (x9 : Int) (zq : Int) (zc : Int) (zK : Int → Int) (zN : Int → Int), ((prsF (P 11) (P 10 0) (skp (P 11) (P 10 0) 0) = (0, x9) ∧ 0 ≤ x9) ∧ nOK zN) ∧ r9 = x9 ∧ u9 = (upr (upr (upr P 10 (ups (ups (P 10) 5 zq) 1 zc)) 12 (zK)) 13 (zN))) ∨ (∃ (zq : Int) (zc : Int) (zK : Int → Int) (zN : Int → Int), (((∃ x9 : Int, prsF (P 11) (P 10 0) (skp (P 11) (P 10 0) 0) = (1, x9)) ∧ cmAll (P 11) (P 10 0) zK zN zc) ∧ nOK zN ∧ 0 ≤ zc ∧ zc ≤ 150) ∧ r9 = -1 ∧ u9 = (upr (upr (upr P 10 (ups (ups (P 10) 5 zq) 1 zc)) 12 (zK)) 13 (zN))))) ([.ref (a 10)] : List Value).toArray s 0 0 (va_A (scW cy a P) sz)) (F0 m 0 ls []) := by
    intro H locs hP hS ls hl
    refine lv_aload_n hx hb dX5_read_0 rfl (lv_at hl 0 rfl) ?_
    refine k_iconst hx hb dX5_read_1 ?_
    refine va_put (D := D) (ci := 4) (v := .int (iI 0)) (ty := .int) (C := RX5) (T := TX5) (N := 6) hx hb hts hinX5 tyX5 tyX5_ok nmX5 hown hK hP hD hS 0 rfl rfl 1 (by decide) hmw0 (fun _ h9 => h9) rfl (by decide +kernel) rfl rfl (Nat.le_of_ble_eq_true rfl) dX5_read_2 (fun H locs hP hD hS => ?_)
    have hP : va_P D vwCl (scW cy a (upr P 10 (ups (P 10) 1 0))) H := hP
    have hD : va_D (va_A (scW cy a P) sz) (scW cy a (upr P 10 (ups (P 10) 1 0))) := hD
    refine lv_aload_n hx hb dX5_read_5 rfl (lv_at hl 0 rfl) ?_
    refine k_iconst hx hb dX5_read_6 ?_
    refine va_put (D := D) (ci := 4) (v := .int (iI 0)) (ty := .int) (C := RX5) (T := TX5) (N := 6) hx hb hts hinX5 tyX5 tyX5_ok nmX5 hown hK hP hD hS 0 rfl rfl 5 (by decide) hmw1 (fun _ h9 => h9) rfl (by decide +kernel) rfl rfl (Nat.le_of_ble_eq_true rfl) dX5_read_7 (fun H locs hP hD hS => ?_)
    have hP : va_P D vwCl (scW cy a (upr P 10 (ups (ups (P 10) 1 0) 5 0))) H := hP
    have hD : va_D (va_A (scW cy a P) sz) (scW cy a (upr P 10 (ups (ups (P 10) 1 0) 5 0))) := hD
    refine lv_aload_n hx hb dX5_read_10 rfl (lv_at hl 0 rfl) ?_
    refine k_muv (k_runV (As := []) (rest := []) ⟨hx, hb, hml, hown, hts⟩ (c_X5_skipSpaces l D cy H.size a (upr P 10 (ups (ups (P 10) 1 0) 5 0)) (show 0 ≤ 0 ∧ 0 ≤ ((P 10 0)) by omega) (show ((P 10 0)) ≤ 150 by omega) (show ∀ k : Int, 0 ≤ k → k < 150 → 0 ≤ (P 11) k ∧ (P 11) k ≤ 127 by omega)) gX5_read_X5_skipSpaces rfl ⟨rfl, rfl⟩ 0 rfl (by decide +kernel) ⟨Nat.le_of_ble_eq_true rfl, Nat.le_of_ble_eq_true rfl⟩ (GG_ok D cy) hG hS (k_free hD hS hA) hP hD (va_recv hK hP (ci := 4) (q0 := 0) rfl rfl) hl.1 rfl (Nat.le_of_ble_eq_true rfl) ⟨Nat.le_of_ble_eq_true rfl, Nat.le_of_ble_eq_true rfl⟩ dX5_read_11) (k_free hD hS hA) hS (fun R_2 H1 locs1 hR_2 hP1 hD1 hS1 hk1 => ?_)
    have hR_2 : R_2 = (upr (upr P 10 (ups (ups (P 10) 1 0) 5 0)) 10 (ups (ups (ups (P 10) 1 0) 5 0) 5 (skp (P 11) (((P 10 0))) (0)))) := hR_2
    subst hR_2
    have hDn : va_D (va_A (scW cy a P) sz) (scW cy a (upr P 10 (ups (ups (ups (P 10) 1 0) 5 0) 5 (skp (P 11) (((P 10 0))) (0))))) := k_addr hD rfl
    have hPn : va_P D vwCl (scW cy a (upr P 10 (ups (ups (ups (P 10) 1 0) 5 0) 5 (skp (P 11) (((P 10 0))) (0))))) H1 := hP1
    clear hP hD hS hP1 hD1 hk1
    have hP := hPn
    have hD := hDn
    have hS := hS1
    clear hPn hDn hS1
    generalize H1 = H at hP hS ⊢
    generalize locs1 = locs at hS ⊢
    refine k_iconst hx hb dX5_read_14 ?_
    refine lv_istore_n (lv' := [(1, .int (iI 0)), (0, .ref (a 10))]) hx hb dX5_read_15 rfl hl (by decide) rfl (fun ls hl => ?_)
    have loop16 : ∀ (n_3 : Nat) (q : Int) (c9 : Int) (K : Int → Int) (N : Int → Int) (hi0 : 0 ≤ q ∧ q ≤ P 10 0) (hi1 : 0 ≤ c9 ∧ c9 ≤ q) (hi2 : nOK N) (hi3 : prsF (P 11) (P 10 0) q = prsF (P 11) (P 10 0) (skp (P 11) (P 10 0) 0)) (hi4 : ∃ Pl : Int → Int, Pl 0 = skp (P 11) (P 10 0) 0 ∧ cmOK (P 11) (P 10 0) Pl K N c9 ∧ Pl c9 = q) (hn : P 10 0 - q < (n_3 : Int)) (H : Heap) (locs : List Loc) (hP : va_P D vwCl (scW cy a (upr (upr (upr P 10 (ups (ups (P 10) 5 q) 1 c9)) 12 (K)) 13 (N))) H) (hD : va_D (va_A (scW cy a P) sz) (scW cy a (upr (upr (upr P 10 (ups (ups (P 10) 5 q) 1 c9)) 12 (K)) 13 (N)))) (hS : va_S (va_A (scW cy a P) sz) s.heap H locs) (ls : Array Slot) (hl : lv_has ls 3 [(1, .int (iI c9)), (0, .ref (a 10))]), W p l e { frames := 7, cells := 0, slots := 0, locals := 156 } s m ([.ref (a 10)] : List Value).toArray below meth c H locs 0 0 (MQ below (kQi D (scW cy a P) sz (fun u9 : Nat → Int → Int => scW cy a u9) (fun r9 u9 => (∃ (x9 : Int) (zq : Int) (zc : Int) (zK : Int → Int) (zN : Int → Int), ((prsF (P 11) (P 10 0) (skp (P 11) (P 10 0) 0) = (0, x9) ∧ 0 ≤ x9) ∧ nOK zN) ∧ r9 = x9 ∧ u9 = (upr (upr (upr P 10 (ups (ups (P 10) 5 zq) 1 zc)) 12 (zK)) 13 (zN))) ∨ (∃ (zq : Int) (zc : Int) (zK : Int → Int) (zN : Int → Int), (((∃ x9 : Int, prsF (P 11) (P 10 0) (skp (P 11) (P 10 0) 0) = (1, x9)) ∧ cmAll (P 11) (P 10 0) zK zN zc) ∧ nOK zN ∧ 0 ≤ zc ∧ zc ≤ 150) ∧ r9 = -1 ∧ u9 = (upr (upr (upr P 10 (ups (ups (P 10) 5 zq) 1 zc)) 12 (zK)) 13 (zN))))) ([.ref (a 10)] : List Value).toArray s 0 0 (va_A (scW cy a P) sz)) (F0 m 16 ls []) := by
      intro n_3
      induction n_3 with
      | zero => intro q c9 K N hi0 hi1 hi2 hi3 hi4 hn H locs hP hD hS ls hl; exfalso; omega
      | succ n_3 ih16 =>
        intro q c9 K N hi0 hi1 hi2 hi3 hi4 hn H locs hP hD hS ls hl
        refine lv_iload_n hx hb dX5_read_16 rfl (lv_at hl 0 rfl) ?_
        refine k_sipush hx hb dX5_read_17 (by decide +kernel) ?_
        refine k_icmp_ge (tgt := 56) hx hb dX5_read_20 (by decide) (by omega) (by omega) (fun c_4 => ?_) (fun c_4 => ?_)
        · skip
          have hend : ¬ q < P 10 0 := by omega
          refine k_iconst hx hb dX5_read_56 ?_
          exact W.iret (v := iI (-1)) hx hb hr (fun t9 ht _ => ⟨⟨iI (-1), (upr (upr (upr P 10 (ups (ups (P 10) 5 q) 1 c9)) 12 (K)) 13 (N)), rfl, ⟨(-1), rfl, (by first | exact Or.inr (⟨(q), (c9), (K), (N), (⟨⟨⟨q, by rw [← hi3]; exact prsF_end hend⟩, by obtain ⟨Pl, g1, g2, g3⟩ := hi4; exact ⟨Pl, g1, g2, by rw [g3]; omega⟩⟩, hi2, by omega⟩), (by first | rfl | omega), rfl⟩) : (∃ (x9 : Int) (zq : Int) (zc : Int) (zK : Int → Int) (zN : Int → Int), ((prsF (P 11) (P 10 0) (skp (P 11) (P 10 0) 0) = (0, x9) ∧ 0 ≤ x9) ∧ nOK zN) ∧ ((-1) : Int) = x9 ∧ (upr (upr (upr P 10 (ups (ups (P 10) 5 q) 1 c9)) 12 (K)) 13 (N)) = (upr (upr (upr P 10 (ups (ups (P 10) 5 zq) 1 zc)) 12 (zK)) 13 (zN))) ∨ (∃ (zq : Int) (zc : Int) (zK : Int → Int) (zN : Int → Int), (((∃ x9 : Int, prsF (P 11) (P 10 0) (skp (P 11) (P 10 0) 0) = (1, x9)) ∧ cmAll (P 11) (P 10 0) zK zN zc) ∧ nOK zN ∧ 0 ≤ zc ∧ zc ≤ 150) ∧ ((-1) : Int) = -1 ∧ (upr (upr (upr P 10 (ups (ups (P 10) 5 q) 1 c9)) 12 (K)) 13 (N)) = (upr (upr (upr P 10 (ups (ups (P 10) 5 zq) 1 zc)) 12 (zK)) 13 (zN))))⟩, by rw [ht]; exact hP, hD⟩, hS.F ht⟩) hS.2.2 dX5_read_57 hlocks
        · skip
          refine lv_aload_n hx hb dX5_read_23 rfl (lv_at hl 1 rfl) ?_
          refine va_get (D := D) (ci := 4) (v := .int (iI q)) (C := RX5) (T := TX5) (N := 6) hx hb hts hinX5 hown hK hP 0 rfl rfl 5 (by decide) hmw1 (fun _ h9 => h9) rfl dX5_read_24 ?_
          refine lv_aload_n hx hb dX5_read_27 rfl (lv_at hl 1 rfl) ?_
          refine va_get (D := D) (ci := 4) (v := .int (iI (P 10 0))) (C := RX5) (T := TX5) (N := 6) hx hb hts hinX5 hown hK hP 0 rfl rfl 0 (by decide) hmw2 (fun _ h9 => h9) rfl dX5_read_28 ?_
          refine k_icmp_ge (tgt := 56) hx hb dX5_read_31 (by decide) (by omega) (by omega) (fun c_5 => ?_) (fun c_5 => ?_)
          · skip
            have hend : ¬ q < P 10 0 := by omega
            refine k_iconst hx hb dX5_read_56 ?_
            exact W.iret (v := iI (-1)) hx hb hr (fun t9 ht _ => ⟨⟨iI (-1), (upr (upr (upr P 10 (ups (ups (P 10) 5 q) 1 c9)) 12 (K)) 13 (N)), rfl, ⟨(-1), rfl, (by first | exact Or.inr (⟨(q), (c9), (K), (N), (⟨⟨⟨q, by rw [← hi3]; exact prsF_end hend⟩, by obtain ⟨Pl, g1, g2, g3⟩ := hi4; exact ⟨Pl, g1, g2, by rw [g3]; omega⟩⟩, hi2, by omega⟩), (by first | rfl | omega), rfl⟩) : (∃ (x9 : Int) (zq : Int) (zc : Int) (zK : Int → Int) (zN : Int → Int), ((prsF (P 11) (P 10 0) (skp (P 11) (P 10 0) 0) = (0, x9) ∧ 0 ≤ x9) ∧ nOK zN) ∧ ((-1) : Int) = x9 ∧ (upr (upr (upr P 10 (ups (ups (P 10) 5 q) 1 c9)) 12 (K)) 13 (N)) = (upr (upr (upr P 10 (ups (ups (P 10) 5 zq) 1 zc)) 12 (zK)) 13 (zN))) ∨ (∃ (zq : Int) (zc : Int) (zK : Int → Int) (zN : Int → Int), (((∃ x9 : Int, prsF (P 11) (P 10 0) (skp (P 11) (P 10 0) 0) = (1, x9)) ∧ cmAll (P 11) (P 10 0) zK zN zc) ∧ nOK zN ∧ 0 ≤ zc ∧ zc ≤ 150) ∧ ((-1) : Int) = -1 ∧ (upr (upr (upr P 10 (ups (ups (P 10) 5 q) 1 c9)) 12 (K)) 13 (N)) = (upr (upr (upr P 10 (ups (ups (P 10) 5 zq) 1 zc)) 12 (zK)) 13 (zN))))⟩, by rw [ht]; exact hP, hD⟩, hS.F ht⟩) hS.2.2 dX5_read_57 hlocks
          · skip
            refine lv_aload_n hx hb dX5_read_34 rfl (lv_at hl 1 rfl) ?_
            refine k_mui (k_runV (As := []) (rest := []) ⟨hx, hb, hml, hown, hts⟩ (c_X5_readCommand l D cy H.size a (upr (upr (upr P 10 (ups (ups (P 10) 5 q) 1 c9)) 12 (K)) 13 (N)) (show 0 ≤ (q) ∧ (q) ≤ ((P 10 0)) by omega) (show ((P 10 0)) ≤ 150 by omega) (show ∀ k : Int, 0 ≤ k → k < 150 → 0 ≤ (P 11) k ∧ (P 11) k ≤ 127 by omega) (show 0 ≤ c9 ∧ c9 < 150 by omega) (show nOK (N) by omega)) gX5_read_X5_readCommand rfl ⟨rfl, rfl⟩ 0 rfl (by decide +kernel) ⟨Nat.le_of_ble_eq_true rfl, Nat.le_of_ble_eq_true rfl⟩ (GS_ok D cy) hGs hS (k_free hD hS hA) hP hD (va_recv hK hP (ci := 4) (q0 := 0) rfl rfl) hl.1 rfl (Nat.le_of_ble_eq_true rfl) ⟨Nat.le_of_ble_eq_true rfl, Nat.le_of_ble_eq_true rfl⟩ dX5_read_35) (k_free hD hS hA) hS (fun r_6 R_7 H1 locs1 hR_7 hP1 hD1 hS1 hk1 => ?_)
            rcases hR_7 with ⟨x9_9, zq_10, zN_11, c_8, hr_6, hR_7⟩ | ⟨x9_12, k9_13, zN_14, c_8, hr_6, hR_7⟩
            · skip
              have c_8 : ((∃ (k9 : Int) (B9 : Int → Int), (prsC (P 11) (((P 10 0))) ((q)) (nmC (N) (c9))) = (0, x9_9, k9, B9)) ∧ (0 ≤ x9_9 ∧ x9_9 ≤ ((P 10 0)))) ∧ nOK zN_11 ∧ ∀ i9 : Int, 0 ≤ i9 → i9 < c9 * 4 → zN_11 i9 = N i9 := c_8
              have hr_6 := hr_6.symm
              subst hr_6
              subst hR_7
              have hDn : va_D (va_A (scW cy a P) sz) (scW cy a (upr (upr (upr P 10 (ups (ups (ups (P 10) 5 q) 1 c9) 5 zq_10)) 12 (K)) 13 (zN_11))) := k_addr hD rfl
              have hPn : va_P D vwCl (scW cy a (upr (upr (upr P 10 (ups (ups (ups (P 10) 5 q) 1 c9) 5 zq_10)) 12 (K)) 13 (zN_11))) H1 := hP1
              clear hP hD hS hP1 hD1 hk1
              have hP := hPn
              have hD := hDn
              have hS := hS1
              clear hPn hDn hS1
              generalize H1 = H at hP hS ⊢
              generalize locs1 = locs at hS ⊢
              have hpe := prsF_n0 (show q < P 10 0 by omega) (c_8.1.1.choose_spec.choose_spec)
              have hx9 := c_8.1.2
              have hnz := c_8.2.1
              refine lv_istore_n (lv' := [(2, .int (iI x9_9)), (1, .int (iI c9)), (0, .ref (a 10))]) hx hb dX5_read_38 rfl hl (by decide) rfl (fun ls hl => ?_)
              refine lv_iload_n hx hb dX5_read_39 rfl (lv_at hl 0 rfl) ?_
              refine k_iconst hx hb dX5_read_40 ?_
              refine k_icmp_eq (tgt := 46) hx hb dX5_read_41 (by decide) (by omega) (by omega) (fun c_15 => ?_) (fun c_15 => ?_)
              · exfalso; omega
              · skip
                refine lv_iload_n hx hb dX5_read_44 rfl (lv_at hl 0 rfl) ?_
                exact W.iret (v := iI x9_9) hx hb hr (fun t9 ht _ => ⟨⟨iI x9_9, (upr (upr (upr P 10 (ups (ups (ups (P 10) 5 q) 1 c9) 5 zq_10)) 12 (K)) 13 (zN_11)), rfl, ⟨x9_9, rfl, (by first | exact Or.inl ⟨(x9_9), (zq_10), (c9), (K), (zN_11), (⟨⟨hi3.symm.trans hpe, by omega⟩, hnz⟩), (by first | rfl | omega), (by rw [show (ups (ups (ups (P 10) 5 q) 1 c9) 5 zq_10) = (ups (ups (P 10) 5 zq_10) 1 c9) from by first | rfl | (funext k9; unfold ups; (repeat' split) <;> first | rfl | omega | (exfalso; omega))])⟩ : (∃ (x9 : Int) (zq : Int) (zc : Int) (zK : Int → Int) (zN : Int → Int), ((prsF (P 11) (P 10 0) (skp (P 11) (P 10 0) 0) = (0, x9) ∧ 0 ≤ x9) ∧ nOK zN) ∧ (x9_9 : Int) = x9 ∧ (upr (upr (upr P 10 (ups (ups (ups (P 10) 5 q) 1 c9) 5 zq_10)) 12 (K)) 13 (zN_11)) = (upr (upr (upr P 10 (ups (ups (P 10) 5 zq) 1 zc)) 12 (zK)) 13 (zN))) ∨ (∃ (zq : Int) (zc : Int) (zK : Int → Int) (zN : Int → Int), (((∃ x9 : Int, prsF (P 11) (P 10 0) (skp (P 11) (P 10 0) 0) = (1, x9)) ∧ cmAll (P 11) (P 10 0) zK zN zc) ∧ nOK zN ∧ 0 ≤ zc ∧ zc ≤ 150) ∧ (x9_9 : Int) = -1 ∧ (upr (upr (upr P 10 (ups (ups (ups (P 10) 5 q) 1 c9) 5 zq_10)) 12 (K)) 13 (zN_11)) = (upr (upr (upr P 10 (ups (ups (P 10) 5 zq) 1 zc)) 12 (zK)) 13 (zN))))⟩, by rw [ht]; exact hP, hD⟩, hS.F ht⟩) hS.2.2 dX5_read_45 hlocks
            · skip
              have c_8 : ((prsC (P 11) (((P 10 0))) ((q)) (nmC (N) (c9))) = (1, x9_12, k9_13, nmC zN_14 (c9)) ∧ 0 ≤ k9_13 ∧ k9_13 ≤ 6) ∧ nOK zN_14 ∧ ∀ i9 : Int, 0 ≤ i9 → i9 < c9 * 4 → zN_14 i9 = N i9 := c_8
              subst hr_6
              subst hR_7
              have hDn : va_D (va_A (scW cy a P) sz) (scW cy a (upr (upr (upr P 10 (ups (ups (ups (ups (P 10) 5 q) 1 c9) 5 x9_12) 1 (c9 + 1))) 12 (ups (K) (c9) k9_13)) 13 (zN_14))) := k_addr hD rfl
              have hPn : va_P D vwCl (scW cy a (upr (upr (upr P 10 (ups (ups (ups (ups (P 10) 5 q) 1 c9) 5 x9_12) 1 (c9 + 1))) 12 (ups (K) (c9) k9_13)) 13 (zN_14))) H1 := hP1
              clear hP hD hS hP1 hD1 hk1
              have hP := hPn
              have hD := hDn
              have hS := hS1
              clear hPn hDn hS1
              generalize H1 = H at hP hS ⊢
              generalize locs1 = locs at hS ⊢
              have hpc := c_8.1.1
              have hnz := c_8.2.1
              have hfr := c_8.2.2
              have hcb := prsC_b1 hi0.2 hpc
              have hpy := prsF_y1 hi0.1 htn (show q < P 10 0 by omega) hpc
              have hsk2 := skp_le (T := P 11) (n := P 10 0) (q := x9_12) (by omega)
              have hpl2 : ∃ Pl : Int → Int, Pl 0 = skp (P 11) (P 10 0) 0 ∧ cmOK (P 11) (P 10 0) Pl (ups (K) (c9) k9_13) zN_14 (c9 + 1) ∧ Pl (c9 + 1) = skp (P 11) (P 10 0) x9_12 := by obtain ⟨Pl, g1, g2, g3⟩ := hi4; exact ⟨ups Pl (c9 + 1) (skp (P 11) (P 10 0) x9_12), by rw [ups_ne _ _ (by omega)]; exact g1, cmOK_s g2 hi1.1 g3 (by omega) hpc hfr, ups_eq _ _ _⟩
              refine lv_istore_n (lv' := [(2, .int (iI (-1))), (1, .int (iI c9)), (0, .ref (a 10))]) hx hb dX5_read_38 rfl hl (by decide) rfl (fun ls hl => ?_)
              refine lv_iload_n hx hb dX5_read_39 rfl (lv_at hl 0 rfl) ?_
              refine k_iconst hx hb dX5_read_40 ?_
              refine k_icmp_eq (tgt := 46) hx hb dX5_read_41 (by decide) (by omega) (by omega) (fun c_16 => ?_) (fun c_16 => ?_)
              · skip
                refine lv_aload_n hx hb dX5_read_46 rfl (lv_at hl 2 rfl) ?_
                refine k_muv (k_runV (As := []) (rest := []) ⟨hx, hb, hml, hown, hts⟩ (c_X5_skipSpaces l D cy H.size a (upr (upr (upr P 10 (ups (ups (ups (ups (P 10) 5 q) 1 c9) 5 x9_12) 1 (c9 + 1))) 12 (ups (K) (c9) k9_13)) 13 (zN_14)) (show 0 ≤ (x9_12) ∧ (x9_12) ≤ ((((P 10 0)))) by omega) (show ((((P 10 0)))) ≤ 150 by omega) (show ∀ k : Int, 0 ≤ k → k < 150 → 0 ≤ (P 11) k ∧ (P 11) k ≤ 127 by omega)) gX5_read_X5_skipSpaces rfl ⟨rfl, rfl⟩ 0 rfl (by decide +kernel) ⟨Nat.le_of_ble_eq_true rfl, Nat.le_of_ble_eq_true rfl⟩ (GG_ok D cy) hG hS (k_free hD hS hA) hP hD (va_recv hK hP (ci := 4) (q0 := 0) rfl rfl) hl.1 rfl (Nat.le_of_ble_eq_true rfl) ⟨Nat.le_of_ble_eq_true rfl, Nat.le_of_ble_eq_true rfl⟩ dX5_read_47) (k_free hD hS hA) hS (fun R_18 H1 locs1 hR_18 hP1 hD1 hS1 hk1 => ?_)
                have hR_18 : R_18 = (upr (upr (upr (upr P 10 (ups (ups (ups (ups (P 10) 5 q) 1 c9) 5 x9_12) 1 (c9 + 1))) 12 (ups (K) (c9) k9_13)) 13 (zN_14)) 10 (ups (ups (ups (ups (ups (P 10) 5 q) 1 c9) 5 x9_12) 1 (c9 + 1)) 5 (skp (P 11) (((((P 10 0))))) ((x9_12))))) := hR_18
                subst hR_18
                have hDn : va_D (va_A (scW cy a P) sz) (scW cy a (upr (upr (upr P 10 (ups (ups (ups (ups (ups (P 10) 5 q) 1 c9) 5 x9_12) 1 (c9 + 1)) 5 (skp (P 11) (((((P 10 0))))) ((x9_12))))) 12 (ups (K) (c9) k9_13)) 13 (zN_14))) := k_addr hD rfl
                have hPn : va_P D vwCl (scW cy a (upr (upr (upr P 10 (ups (ups (ups (ups (ups (P 10) 5 q) 1 c9) 5 x9_12) 1 (c9 + 1)) 5 (skp (P 11) (((((P 10 0))))) ((x9_12))))) 12 (ups (K) (c9) k9_13)) 13 (zN_14))) H1 := hP1
                clear hP hD hS hP1 hD1 hk1
                have hP := hPn
                have hD := hDn
                have hS := hS1
                clear hPn hDn hS1
                generalize H1 = H at hP hS ⊢
                generalize locs1 = locs at hS ⊢
                refine lv_iinc (v := iI (c9 + 1)) (lv' := [(1, .int (iI (c9 + 1))), (2, .int (iI (-1))), (0, .ref (a 10))]) hx hb dX5_read_50 hl (k := 1) rfl (iI_add _ _) (by decide) rfl (fun ls hl => ?_)
                refine lv_goto (tgt := 16) hx hb dX5_read_53 (by decide) ?_
                exact ih16 (skp (P 11) (((((P 10 0))))) ((x9_12))) (c9 + 1) (ups (K) (c9) k9_13) zN_14  (by omega) (by omega) (hnz) (hpy.symm.trans hi3) (hpl2) (by omega) H locs (by rw [show (ups (ups (P 10) 5 (skp (P 11) (((((P 10 0))))) ((x9_12)))) 1 (c9 + 1)) = (ups (ups (ups (ups (ups (P 10) 5 q) 1 c9) 5 x9_12) 1 (c9 + 1)) 5 (skp (P 11) (((((P 10 0))))) ((x9_12)))) from by first | rfl | (funext k9; unfold ups; (repeat' split) <;> first | rfl | omega | (exfalso; omega))]; exact hP) (k_addr hD rfl) hS ls (lv_sub hl [0, 2] rfl)
              · exfalso; omega
    exact loop16 ((P 10 0 - (skp (P 11) (((P 10 0))) (0)) : Int) + 1).toNat (skp (P 11) (((P 10 0))) (0)) 0 (P 12) (P 13)  (by omega) (by omega) (hnn) (rfl) (⟨fun _ => skp (P 11) (P 10 0) 0, rfl, cmOK_0 _ _ _ _ _, rfl⟩) (by omega) H locs (by rw [show (ups (ups (P 10) 5 (skp (P 11) (((P 10 0))) (0))) 1 0) = (ups (ups (ups (P 10) 1 0) 5 0) 5 (skp (P 11) (((P 10 0))) (0))) from by (funext k9; unfold ups; (repeat' split) <;> first | rfl | omega | (exfalso; omega))]; exact hP) (k_addr hD rfl) hS ls (lv_sub hl [0, 1] rfl)
  exact hbody s.heap [] hP hS ls hl
set_option maxHeartbeats 4000000 in
set_option maxRecDepth 100000 in
theorem c_X5_faultOf (l : Launch) (D : va_G) (cy : Nat → ClassId) (a : Nat → Nat) (P : Nat → Int → Int) (ci : Int) (hI : Inv (mO P)) (hc : 0 ≤ ci ∧ ci < 150) (hk : 0 ≤ P 12 ci ∧ P 12 ci ≤ 6) (hnc : nmOK (nmC (P 13) ci)) : Met l yX5_faultOf wsX5_faultOf { frames := 3, cells := 0, slots := 0, locals := 68 } (kPre (GG D cy) D (scplW cy a P) ([.ref (a 10), .int (iI ci), .ref (a 0)] : List Value)) (kRO (fun r => r = ftV (mO P) (P 12 ci) (nmC (P 13) ci))) 0 0 (fun _ => False) := by
  refine kRO_start (cc := cX5_faultOf) (maxL := 4) (ret := (some .int)) (by decide) rfl (Nat.le_of_ble_eq_true rfl) ?_
  intro p e s m below meth c hx hb hr hlocks hml hts hown hG hP ls hl
  have hK := hG.1
  have hl : lv_has ls 4 [(0, .ref (a 10)), (1, .int (iI ci)), (2, .ref (a 0))] := hl
  have hinX5 : ∀ w ∈ u_ws RX5 TX5 6, w ∈ wsX5_faultOf := by decide +kernel
  have hmw0 := hts (.fieldLink RX5 22 "ArcPlate$Script" "kinds" "[I") (by decide +kernel)
  have hmw1 := hts (.fieldLink RX5 26 "ArcPlate$Script" "numbers" "[I") (by decide +kernel)
  have hn4 := nmC_k (P 13) ci
  have hA0 := hnc 0 (by decide) (by decide)
  have hA1 := hnc 1 (by decide) (by decide)
  have hA2 := hnc 2 (by decide) (by decide)
  have hA3 := hnc 3 (by decide) (by decide)
  rw [hn4.1] at hA0
  rw [hn4.2.1] at hA1
  rw [hn4.2.2.1] at hA2
  rw [hn4.2.2.2] at hA3
  have hS0 := po_S hI
  refine lv_iload_n hx hb dX5_faultOf_0 rfl (lv_at hl 1 rfl) ?_
  refine k_iconst hx hb dX5_faultOf_1 ?_
  refine k_imul hx hb dX5_faultOf_2 ?_
  refine lv_istore_n (lv' := [(3, .int (iI (ci * 4))), (0, .ref (a 10)), (1, .int (iI ci)), (2, .ref (a 0))]) hx hb dX5_faultOf_3 rfl hl (by decide) rfl (fun ls hl => ?_)
  refine lv_aload_n hx hb dX5_faultOf_4 rfl (lv_at hl 1 rfl) ?_
  refine va_get (D := D) (ci := 4) (v := .ref (a 12)) (C := RX5) (T := TX5) (N := 6) hx hb hts hinX5 hown hK hP 0 rfl rfl 3 (by decide) hmw0 (fun _ h9 => h9) rfl dX5_faultOf_5 ?_
  refine lv_iload_n hx hb dX5_faultOf_8 rfl (lv_at hl 2 rfl) ?_
  refine k_iald hx hb hK hP 2 0 (f := P 12) rfl rfl (i := ci) (by omega) dX5_faultOf_9 ?_
  rcases (show (P 12 ci) = 0 ∨ (P 12 ci) = 1 ∨ (P 12 ci) = 2 ∨ (P 12 ci) = 3 ∨ (P 12 ci) = 4 ∨ (P 12 ci) = 5 ∨ ((P 12 ci) < 0 ∨ 5 < (P 12 ci)) by omega) with c_1 | c_1 | c_1 | c_1 | c_1 | c_1 | c_1
  · skip
    refine k_tin (tgt := 48) hx hb 0 c_1 (by decide) dX5_faultOf_10 (by decide) (by decide) rfl (by decide) ?_
    refine lv_aload_n hx hb dX5_faultOf_48 rfl (lv_at hl 3 rfl) ?_
    refine k_roV (As := []) (rest := []) ⟨hx, hb, hml, hown, hts⟩ (c_X4_faultOfNewTrail l D cy a P hI) gX5_faultOf_X4_faultOfNewTrail rfl ⟨rfl, rfl⟩ 0 rfl (by decide +kernel) ⟨Nat.le_of_ble_eq_true rfl, Nat.le_of_ble_eq_true rfl⟩ (GG_ok D cy) hG (hP.sub (ws' := (plW cy a P)) [4, 5, 6, 7, 8, 9, 10, 11, 12] rfl) (va_recv hK hP (ci := 3) (q0 := 4) rfl rfl) hl.1 rfl (Nat.le_of_ble_eq_true rfl) ⟨Nat.le_of_ble_eq_true rfl, Nat.le_of_ble_eq_true rfl⟩ dX5_faultOf_49 (fun r_2 hr_2 => ?_)
    have hr_2 : ((P 0 0 < 12) ∧ r_2 = 0) ∨ ((P 0 0 = 12) ∧ r_2 = 3) := hr_2
    rcases hr_2 with ⟨c_3, hr_2⟩ | ⟨c_3, hr_2⟩ <;> subst hr_2
    · skip
      exact W.iret (v := iI 0) hx hb hr (fun t9 ht _ => ⟨0, rfl, (by rw [(fv_0 (by omega)).1, mO_12]; first | (rw [if_pos (by omega)]; done) | (rw [if_neg (by omega)]; done) : (0 : Int) = ftV (mO P) (P 12 ci) (nmC (P 13) ci)), ht⟩) (fun _ h => nomatch h) dX5_faultOf_52 hlocks
    · skip
      exact W.iret (v := iI 3) hx hb hr (fun t9 ht _ => ⟨3, rfl, (by rw [(fv_0 (by omega)).1, mO_12]; first | (rw [if_pos (by omega)]; done) | (rw [if_neg (by omega)]; done) : (3 : Int) = ftV (mO P) (P 12 ci) (nmC (P 13) ci)), ht⟩) (fun _ h => nomatch h) dX5_faultOf_52 hlocks
  · skip
    refine k_tin (tgt := 53) hx hb 1 c_1 (by decide) dX5_faultOf_10 (by decide) (by decide) rfl (by decide) ?_
    refine lv_aload_n hx hb dX5_faultOf_53 rfl (lv_at hl 3 rfl) ?_
    refine lv_aload_n hx hb dX5_faultOf_54 rfl (lv_at hl 1 rfl) ?_
    refine va_get (D := D) (ci := 4) (v := .ref (a 13)) (C := RX5) (T := TX5) (N := 6) hx hb hts hinX5 hown hK hP 0 rfl rfl 4 (by decide) hmw1 (fun _ h9 => h9) rfl dX5_faultOf_55 ?_
    refine lv_iload_n hx hb dX5_faultOf_58 rfl (lv_at hl 0 rfl) ?_
    refine k_iald hx hb hK hP 3 0 (f := P 13) rfl rfl (i := ci * 4) (by omega) dX5_faultOf_59 ?_
    refine lv_aload_n hx hb dX5_faultOf_60 rfl (lv_at hl 1 rfl) ?_
    refine va_get (D := D) (ci := 4) (v := .ref (a 13)) (C := RX5) (T := TX5) (N := 6) hx hb hts hinX5 hown hK hP 0 rfl rfl 4 (by decide) hmw1 (fun _ h9 => h9) rfl dX5_faultOf_61 ?_
    refine lv_iload_n hx hb dX5_faultOf_64 rfl (lv_at hl 0 rfl) ?_
    refine k_iconst hx hb dX5_faultOf_65 ?_
    refine k_iadd hx hb dX5_faultOf_66 ?_
    refine k_iald hx hb hK hP 3 0 (f := P 13) rfl rfl (i := (ci * 4) + 1) (by omega) dX5_faultOf_67 ?_
    refine lv_aload_n hx hb dX5_faultOf_68 rfl (lv_at hl 1 rfl) ?_
    refine va_get (D := D) (ci := 4) (v := .ref (a 13)) (C := RX5) (T := TX5) (N := 6) hx hb hts hinX5 hown hK hP 0 rfl rfl 4 (by decide) hmw1 (fun _ h9 => h9) rfl dX5_faultOf_69 ?_
    refine lv_iload_n hx hb dX5_faultOf_72 rfl (lv_at hl 0 rfl) ?_
    refine k_iconst hx hb dX5_faultOf_73 ?_
    refine k_iadd hx hb dX5_faultOf_74 ?_
    refine k_iald hx hb hK hP 3 0 (f := P 13) rfl rfl (i := (ci * 4) + 2) (by omega) dX5_faultOf_75 ?_
    refine lv_aload_n hx hb dX5_faultOf_76 rfl (lv_at hl 1 rfl) ?_
    refine va_get (D := D) (ci := 4) (v := .ref (a 13)) (C := RX5) (T := TX5) (N := 6) hx hb hts hinX5 hown hK hP 0 rfl rfl 4 (by decide) hmw1 (fun _ h9 => h9) rfl dX5_faultOf_77 ?_
    refine lv_iload_n hx hb dX5_faultOf_80 rfl (lv_at hl 0 rfl) ?_
    refine k_iconst hx hb dX5_faultOf_81 ?_
    refine k_iadd hx hb dX5_faultOf_82 ?_
    refine k_iald hx hb hK hP 3 0 (f := P 13) rfl rfl (i := (ci * 4) + 3) (by omega) dX5_faultOf_83 ?_
    refine k_roV (As := [.int (iI (P 13 (ci * 4))), .int (iI (P 13 ((ci * 4) + 1))), .int (iI (P 13 ((ci * 4) + 2))), .int (iI (P 13 ((ci * 4) + 3)))]) (rest := []) ⟨hx, hb, hml, hown, hts⟩ (c_X4_faultOfNewPoint l D cy a P (P 13 (ci * 4)) (P 13 ((ci * 4) + 1)) (P 13 ((ci * 4) + 2)) (P 13 ((ci * 4) + 3)) hI (show -2147483648 ≤ (P 13 (ci * 4)) ∧ (P 13 (ci * 4)) ≤ 2147483647 by omega) (show -2147483648 ≤ (P 13 ((ci * 4) + 1)) ∧ (P 13 ((ci * 4) + 1)) ≤ 2147483647 by omega) (show -2147483648 ≤ (P 13 ((ci * 4) + 2)) ∧ (P 13 ((ci * 4) + 2)) ≤ 2147483647 by omega) (show -2147483648 ≤ (P 13 ((ci * 4) + 3)) ∧ (P 13 ((ci * 4) + 3)) ≤ 2147483647 by omega)) gX5_faultOf_X4_faultOfNewPoint rfl ⟨rfl, rfl⟩ 4 rfl (by decide +kernel) ⟨Nat.le_of_ble_eq_true rfl, Nat.le_of_ble_eq_true rfl⟩ (GG_ok D cy) hG (hP.sub (ws' := (plW cy a P)) [4, 5, 6, 7, 8, 9, 10, 11, 12] rfl) (va_recv hK hP (ci := 3) (q0 := 4) rfl rfl) hl.1 rfl (Nat.le_of_ble_eq_true rfl) ⟨Nat.le_of_ble_eq_true rfl, Nat.le_of_ble_eq_true rfl⟩ dX5_faultOf_84 (fun r_4 hr_4 => ?_)
    have hr_4 : ((¬ (0 ≤ (P 13 (ci * 4)) ∧ (P 13 (ci * 4)) < P 0 0)) ∧ r_4 = 1) ∨ (((0 ≤ (P 13 (ci * 4)) ∧ (P 13 (ci * 4)) < P 0 0) ∧ ¬ pointOK (P 13 ((ci * 4) + 1)) (P 13 ((ci * 4) + 2)) (P 13 ((ci * 4) + 3))) ∧ r_4 = 2) ∨ ((((0 ≤ (P 13 (ci * 4)) ∧ (P 13 (ci * 4)) < P 0 0) ∧ pointOK (P 13 ((ci * 4) + 1)) (P 13 ((ci * 4) + 2)) (P 13 ((ci * 4) + 3))) ∧ (P 1 (P 13 (ci * 4)) = 12 ∨ hasF (mO P) (P 13 (ci * 4)) (P 13 ((ci * 4) + 1)))) ∧ r_4 = 3) ∨ ((((0 ≤ (P 13 (ci * 4)) ∧ (P 13 (ci * 4)) < P 0 0) ∧ pointOK (P 13 ((ci * 4) + 1)) (P 13 ((ci * 4) + 2)) (P 13 ((ci * 4) + 3))) ∧ (P 1 (P 13 (ci * 4)) < 12 ∧ ¬ hasF (mO P) (P 13 (ci * 4)) (P 13 ((ci * 4) + 1)))) ∧ r_4 = 0) := hr_4
    rcases hr_4 with ⟨c_5, hr_4⟩ | ⟨c_5, hr_4⟩ | ⟨c_5, hr_4⟩ | ⟨c_5, hr_4⟩ <;> subst hr_4
    · skip
      exact W.iret (v := iI 1) hx hb hr (fun t9 ht _ => ⟨1, rfl, (by rw [(fv_1 (by omega)).1, hn4.1, hn4.2.1, hn4.2.2.1, hn4.2.2.2]; first | exact (fc_1 (by assumption)).symm | exact (fc_2 (by assumption)).symm | exact (fc_3 hI (by assumption)).symm | exact (fc_0 hI (by assumption)).symm : (1 : Int) = ftV (mO P) (P 12 ci) (nmC (P 13) ci)), ht⟩) (fun _ h => nomatch h) dX5_faultOf_87 hlocks
    · skip
      exact W.iret (v := iI 2) hx hb hr (fun t9 ht _ => ⟨2, rfl, (by rw [(fv_1 (by omega)).1, hn4.1, hn4.2.1, hn4.2.2.1, hn4.2.2.2]; first | exact (fc_1 (by assumption)).symm | exact (fc_2 (by assumption)).symm | exact (fc_3 hI (by assumption)).symm | exact (fc_0 hI (by assumption)).symm : (2 : Int) = ftV (mO P) (P 12 ci) (nmC (P 13) ci)), ht⟩) (fun _ h => nomatch h) dX5_faultOf_87 hlocks
    · skip
      exact W.iret (v := iI 3) hx hb hr (fun t9 ht _ => ⟨3, rfl, (by rw [(fv_1 (by omega)).1, hn4.1, hn4.2.1, hn4.2.2.1, hn4.2.2.2]; first | exact (fc_1 (by assumption)).symm | exact (fc_2 (by assumption)).symm | exact (fc_3 hI (by assumption)).symm | exact (fc_0 hI (by assumption)).symm : (3 : Int) = ftV (mO P) (P 12 ci) (nmC (P 13) ci)), ht⟩) (fun _ h => nomatch h) dX5_faultOf_87 hlocks
    · skip
      exact W.iret (v := iI 0) hx hb hr (fun t9 ht _ => ⟨0, rfl, (by rw [(fv_1 (by omega)).1, hn4.1, hn4.2.1, hn4.2.2.1, hn4.2.2.2]; first | exact (fc_1 (by assumption)).symm | exact (fc_2 (by assumption)).symm | exact (fc_3 hI (by assumption)).symm | exact (fc_0 hI (by assumption)).symm : (0 : Int) = ftV (mO P) (P 12 ci) (nmC (P 13) ci)), ht⟩) (fun _ h => nomatch h) dX5_faultOf_87 hlocks
  · skip
    refine k_tin (tgt := 88) hx hb 2 c_1 (by decide) dX5_faultOf_10 (by decide) (by decide) rfl (by decide) ?_
    refine lv_aload_n hx hb dX5_faultOf_88 rfl (lv_at hl 3 rfl) ?_
    refine lv_aload_n hx hb dX5_faultOf_89 rfl (lv_at hl 1 rfl) ?_
    refine va_get (D := D) (ci := 4) (v := .ref (a 13)) (C := RX5) (T := TX5) (N := 6) hx hb hts hinX5 hown hK hP 0 rfl rfl 4 (by decide) hmw1 (fun _ h9 => h9) rfl dX5_faultOf_90 ?_
    refine lv_iload_n hx hb dX5_faultOf_93 rfl (lv_at hl 0 rfl) ?_
    refine k_iald hx hb hK hP 3 0 (f := P 13) rfl rfl (i := ci * 4) (by omega) dX5_faultOf_94 ?_
    refine lv_aload_n hx hb dX5_faultOf_95 rfl (lv_at hl 1 rfl) ?_
    refine va_get (D := D) (ci := 4) (v := .ref (a 13)) (C := RX5) (T := TX5) (N := 6) hx hb hts hinX5 hown hK hP 0 rfl rfl 4 (by decide) hmw1 (fun _ h9 => h9) rfl dX5_faultOf_96 ?_
    refine lv_iload_n hx hb dX5_faultOf_99 rfl (lv_at hl 0 rfl) ?_
    refine k_iconst hx hb dX5_faultOf_100 ?_
    refine k_iadd hx hb dX5_faultOf_101 ?_
    refine k_iald hx hb hK hP 3 0 (f := P 13) rfl rfl (i := (ci * 4) + 1) (by omega) dX5_faultOf_102 ?_
    refine lv_aload_n hx hb dX5_faultOf_103 rfl (lv_at hl 1 rfl) ?_
    refine va_get (D := D) (ci := 4) (v := .ref (a 13)) (C := RX5) (T := TX5) (N := 6) hx hb hts hinX5 hown hK hP 0 rfl rfl 4 (by decide) hmw1 (fun _ h9 => h9) rfl dX5_faultOf_104 ?_
    refine lv_iload_n hx hb dX5_faultOf_107 rfl (lv_at hl 0 rfl) ?_
    refine k_iconst hx hb dX5_faultOf_108 ?_
    refine k_iadd hx hb dX5_faultOf_109 ?_
    refine k_iald hx hb hK hP 3 0 (f := P 13) rfl rfl (i := (ci * 4) + 2) (by omega) dX5_faultOf_110 ?_
    refine k_roV (As := [.int (iI (P 13 (ci * 4))), .int (iI (P 13 ((ci * 4) + 1))), .int (iI (P 13 ((ci * 4) + 2)))]) (rest := []) ⟨hx, hb, hml, hown, hts⟩ (c_X4_faultOfNewStar l D cy a P (P 13 (ci * 4)) (P 13 ((ci * 4) + 1)) (P 13 ((ci * 4) + 2)) hI (show -2147483648 ≤ (P 13 (ci * 4)) ∧ (P 13 (ci * 4)) ≤ 2147483647 by omega) (show -2147483648 ≤ (P 13 ((ci * 4) + 1)) ∧ (P 13 ((ci * 4) + 1)) ≤ 2147483647 by omega) (show -2147483648 ≤ (P 13 ((ci * 4) + 2)) ∧ (P 13 ((ci * 4) + 2)) ≤ 2147483647 by omega)) gX5_faultOf_X4_faultOfNewStar rfl ⟨rfl, rfl⟩ 3 rfl (by decide +kernel) ⟨Nat.le_of_ble_eq_true rfl, Nat.le_of_ble_eq_true rfl⟩ (GG_ok D cy) hG (hP.sub (ws' := (plW cy a P)) [4, 5, 6, 7, 8, 9, 10, 11, 12] rfl) (va_recv hK hP (ci := 3) (q0 := 4) rfl rfl) hl.1 rfl (Nat.le_of_ble_eq_true rfl) ⟨Nat.le_of_ble_eq_true rfl, Nat.le_of_ble_eq_true rfl⟩ dX5_faultOf_111 (fun r_6 hr_6 => ?_)
    have hr_6 : ((starOK (P 13 (ci * 4)) (P 13 ((ci * 4) + 1)) (P 13 ((ci * 4) + 2)) ∧ P 0 1 < 12) ∧ r_6 = 0) ∨ ((¬ starOK (P 13 (ci * 4)) (P 13 ((ci * 4) + 1)) (P 13 ((ci * 4) + 2))) ∧ r_6 = 2) ∨ ((starOK (P 13 (ci * 4)) (P 13 ((ci * 4) + 1)) (P 13 ((ci * 4) + 2)) ∧ P 0 1 = 12) ∧ r_6 = 3) := hr_6
    rcases hr_6 with ⟨c_7, hr_6⟩ | ⟨c_7, hr_6⟩ | ⟨c_7, hr_6⟩ <;> subst hr_6
    · skip
      exact W.iret (v := iI 0) hx hb hr (fun t9 ht _ => ⟨0, rfl, (by rw [(fv_2 (by omega)).1, hn4.1, hn4.2.1, hn4.2.2.1]; first | exact (gc_0 (by assumption)).symm | exact (ftS_2 (by assumption)).symm | exact (gc_3 (by assumption)).symm : (0 : Int) = ftV (mO P) (P 12 ci) (nmC (P 13) ci)), ht⟩) (fun _ h => nomatch h) dX5_faultOf_114 hlocks
    · skip
      exact W.iret (v := iI 2) hx hb hr (fun t9 ht _ => ⟨2, rfl, (by rw [(fv_2 (by omega)).1, hn4.1, hn4.2.1, hn4.2.2.1]; first | exact (gc_0 (by assumption)).symm | exact (ftS_2 (by assumption)).symm | exact (gc_3 (by assumption)).symm : (2 : Int) = ftV (mO P) (P 12 ci) (nmC (P 13) ci)), ht⟩) (fun _ h => nomatch h) dX5_faultOf_114 hlocks
    · skip
      exact W.iret (v := iI 3) hx hb hr (fun t9 ht _ => ⟨3, rfl, (by rw [(fv_2 (by omega)).1, hn4.1, hn4.2.1, hn4.2.2.1]; first | exact (gc_0 (by assumption)).symm | exact (ftS_2 (by assumption)).symm | exact (gc_3 (by assumption)).symm : (3 : Int) = ftV (mO P) (P 12 ci) (nmC (P 13) ci)), ht⟩) (fun _ h => nomatch h) dX5_faultOf_114 hlocks
  · skip
    refine k_tin (tgt := 115) hx hb 3 c_1 (by decide) dX5_faultOf_10 (by decide) (by decide) rfl (by decide) ?_
    refine lv_aload_n hx hb dX5_faultOf_115 rfl (lv_at hl 1 rfl) ?_
    refine va_get (D := D) (ci := 4) (v := .ref (a 13)) (C := RX5) (T := TX5) (N := 6) hx hb hts hinX5 hown hK hP 0 rfl rfl 4 (by decide) hmw1 (fun _ h9 => h9) rfl dX5_faultOf_116 ?_
    refine lv_iload_n hx hb dX5_faultOf_119 rfl (lv_at hl 0 rfl) ?_
    refine k_iald hx hb hK hP 3 0 (f := P 13) rfl rfl (i := ci * 4) (by omega) dX5_faultOf_120 ?_
    refine lv_aload_n hx hb dX5_faultOf_121 rfl (lv_at hl 1 rfl) ?_
    refine va_get (D := D) (ci := 4) (v := .ref (a 13)) (C := RX5) (T := TX5) (N := 6) hx hb hts hinX5 hown hK hP 0 rfl rfl 4 (by decide) hmw1 (fun _ h9 => h9) rfl dX5_faultOf_122 ?_
    refine lv_iload_n hx hb dX5_faultOf_125 rfl (lv_at hl 0 rfl) ?_
    refine k_iconst hx hb dX5_faultOf_126 ?_
    refine k_iadd hx hb dX5_faultOf_127 ?_
    refine k_iald hx hb hK hP 3 0 (f := P 13) rfl rfl (i := (ci * 4) + 1) (by omega) dX5_faultOf_128 ?_
    refine k_roS (As := [.int (iI (P 13 (ci * 4))), .int (iI (P 13 ((ci * 4) + 1)))]) (rest := []) ⟨hx, hb, hml, hown, hts⟩ (c_X4_faultOfPole l D cy (P 13 (ci * 4)) (P 13 ((ci * 4) + 1)) (show -2147483648 ≤ (P 13 (ci * 4)) ∧ (P 13 (ci * 4)) ≤ 2147483647 by omega) (show -2147483648 ≤ (P 13 ((ci * 4) + 1)) ∧ (P 13 ((ci * 4) + 1)) ≤ 2147483647 by omega)) gX5_faultOf_X4_faultOfPole rfl ⟨rfl, rfl⟩ 2 rfl (by decide +kernel) ⟨Nat.le_of_ble_eq_true rfl, Nat.le_of_ble_eq_true rfl⟩ (GG_ok D cy) hG (fun k q h => by simp at h) hl.1 rfl (Nat.le_of_ble_eq_true rfl) ⟨Nat.le_of_ble_eq_true rfl, Nat.le_of_ble_eq_true rfl⟩ dX5_faultOf_129 (fun r_8 hr_8 => ?_)
    have hr_8 : ((poleOK (P 13 (ci * 4)) (P 13 ((ci * 4) + 1))) ∧ r_8 = 0) ∨ ((¬ poleOK (P 13 (ci * 4)) (P 13 ((ci * 4) + 1))) ∧ r_8 = 2) := hr_8
    rcases hr_8 with ⟨c_9, hr_8⟩ | ⟨c_9, hr_8⟩ <;> subst hr_8
    · skip
      exact W.iret (v := iI 0) hx hb hr (fun t9 ht _ => ⟨0, rfl, (by rw [(fv_3 (by omega)).1, hn4.1, hn4.2.1]; first | exact (okV_y (by assumption)).symm | exact (okV_n (by assumption)).symm : (0 : Int) = ftV (mO P) (P 12 ci) (nmC (P 13) ci)), ht⟩) (fun _ h => nomatch h) dX5_faultOf_132 hlocks
    · skip
      exact W.iret (v := iI 2) hx hb hr (fun t9 ht _ => ⟨2, rfl, (by rw [(fv_3 (by omega)).1, hn4.1, hn4.2.1]; first | exact (okV_y (by assumption)).symm | exact (okV_n (by assumption)).symm : (2 : Int) = ftV (mO P) (P 12 ci) (nmC (P 13) ci)), ht⟩) (fun _ h => nomatch h) dX5_faultOf_132 hlocks
  · skip
    refine k_tin (tgt := 133) hx hb 4 c_1 (by decide) dX5_faultOf_10 (by decide) (by decide) rfl (by decide) ?_
    refine lv_aload_n hx hb dX5_faultOf_133 rfl (lv_at hl 1 rfl) ?_
    refine va_get (D := D) (ci := 4) (v := .ref (a 13)) (C := RX5) (T := TX5) (N := 6) hx hb hts hinX5 hown hK hP 0 rfl rfl 4 (by decide) hmw1 (fun _ h9 => h9) rfl dX5_faultOf_134 ?_
    refine lv_iload_n hx hb dX5_faultOf_137 rfl (lv_at hl 0 rfl) ?_
    refine k_iald hx hb hK hP 3 0 (f := P 13) rfl rfl (i := ci * 4) (by omega) dX5_faultOf_138 ?_
    refine lv_aload_n hx hb dX5_faultOf_139 rfl (lv_at hl 1 rfl) ?_
    refine va_get (D := D) (ci := 4) (v := .ref (a 13)) (C := RX5) (T := TX5) (N := 6) hx hb hts hinX5 hown hK hP 0 rfl rfl 4 (by decide) hmw1 (fun _ h9 => h9) rfl dX5_faultOf_140 ?_
    refine lv_iload_n hx hb dX5_faultOf_143 rfl (lv_at hl 0 rfl) ?_
    refine k_iconst hx hb dX5_faultOf_144 ?_
    refine k_iadd hx hb dX5_faultOf_145 ?_
    refine k_iald hx hb hK hP 3 0 (f := P 13) rfl rfl (i := (ci * 4) + 1) (by omega) dX5_faultOf_146 ?_
    refine k_roS (As := [.int (iI (P 13 (ci * 4))), .int (iI (P 13 ((ci * 4) + 1)))]) (rest := []) ⟨hx, hb, hml, hown, hts⟩ (c_X4_faultOfSetting l D cy (P 13 (ci * 4)) (P 13 ((ci * 4) + 1)) (show -2147483648 ≤ (P 13 (ci * 4)) ∧ (P 13 (ci * 4)) ≤ 2147483647 by omega) (show -2147483648 ≤ (P 13 ((ci * 4) + 1)) ∧ (P 13 ((ci * 4) + 1)) ≤ 2147483647 by omega)) gX5_faultOf_X4_faultOfSetting rfl ⟨rfl, rfl⟩ 2 rfl (by decide +kernel) ⟨Nat.le_of_ble_eq_true rfl, Nat.le_of_ble_eq_true rfl⟩ (GG_ok D cy) hG (fun k q h => by simp at h) hl.1 rfl (Nat.le_of_ble_eq_true rfl) ⟨Nat.le_of_ble_eq_true rfl, Nat.le_of_ble_eq_true rfl⟩ dX5_faultOf_147 (fun r_10 hr_10 => ?_)
    have hr_10 : ((setOK (P 13 (ci * 4)) (P 13 ((ci * 4) + 1))) ∧ r_10 = 0) ∨ ((¬ setOK (P 13 (ci * 4)) (P 13 ((ci * 4) + 1))) ∧ r_10 = 2) := hr_10
    rcases hr_10 with ⟨c_11, hr_10⟩ | ⟨c_11, hr_10⟩ <;> subst hr_10
    · skip
      exact W.iret (v := iI 0) hx hb hr (fun t9 ht _ => ⟨0, rfl, (by rw [(fv_4 (by omega)).1, hn4.1, hn4.2.1]; first | exact (okV_y (by assumption)).symm | exact (okV_n (by assumption)).symm : (0 : Int) = ftV (mO P) (P 12 ci) (nmC (P 13) ci)), ht⟩) (fun _ h => nomatch h) dX5_faultOf_150 hlocks
    · skip
      exact W.iret (v := iI 2) hx hb hr (fun t9 ht _ => ⟨2, rfl, (by rw [(fv_4 (by omega)).1, hn4.1, hn4.2.1]; first | exact (okV_y (by assumption)).symm | exact (okV_n (by assumption)).symm : (2 : Int) = ftV (mO P) (P 12 ci) (nmC (P 13) ci)), ht⟩) (fun _ h => nomatch h) dX5_faultOf_150 hlocks
  · skip
    refine k_tin (tgt := 151) hx hb 5 c_1 (by decide) dX5_faultOf_10 (by decide) (by decide) rfl (by decide) ?_
    refine k_iconst hx hb dX5_faultOf_151 ?_
    refine lv_aload_n hx hb dX5_faultOf_152 rfl (lv_at hl 1 rfl) ?_
    refine va_get (D := D) (ci := 4) (v := .ref (a 13)) (C := RX5) (T := TX5) (N := 6) hx hb hts hinX5 hown hK hP 0 rfl rfl 4 (by decide) hmw1 (fun _ h9 => h9) rfl dX5_faultOf_153 ?_
    refine lv_iload_n hx hb dX5_faultOf_156 rfl (lv_at hl 0 rfl) ?_
    refine k_iald hx hb hK hP 3 0 (f := P 13) rfl rfl (i := ci * 4) (by omega) dX5_faultOf_157 ?_
    refine k_ineg hx hb dX5_faultOf_158 ?_
    refine k_roS (As := [.int (iI 0), .int (iI (-(P 13 (ci * 4))))]) (rest := []) ⟨hx, hb, hml, hown, hts⟩ (c_X4_faultOfSetting l D cy 0 (-(P 13 (ci * 4))) (show -2147483648 ≤ 0 ∧ 0 ≤ 2147483647 by omega) (show -2147483648 ≤ (-(P 13 (ci * 4))) ∧ (-(P 13 (ci * 4))) ≤ 2147483647 by omega)) gX5_faultOf_X4_faultOfSetting rfl ⟨rfl, rfl⟩ 2 rfl (by decide +kernel) ⟨Nat.le_of_ble_eq_true rfl, Nat.le_of_ble_eq_true rfl⟩ (GG_ok D cy) hG (fun k q h => by simp at h) hl.1 rfl (Nat.le_of_ble_eq_true rfl) ⟨Nat.le_of_ble_eq_true rfl, Nat.le_of_ble_eq_true rfl⟩ dX5_faultOf_159 (fun r_12 hr_12 => ?_)
    have hr_12 : ((setOK 0 (-(P 13 (ci * 4)))) ∧ r_12 = 0) ∨ ((¬ setOK 0 (-(P 13 (ci * 4)))) ∧ r_12 = 2) := hr_12
    rcases hr_12 with ⟨c_13, hr_12⟩ | ⟨c_13, hr_12⟩ <;> subst hr_12
    · skip
      exact W.iret (v := iI 0) hx hb hr (fun t9 ht _ => ⟨0, rfl, (by rw [(fv_5 (by omega)).1, hn4.1]; first | exact (okV_y (by assumption)).symm | exact (okV_n (by assumption)).symm : (0 : Int) = ftV (mO P) (P 12 ci) (nmC (P 13) ci)), ht⟩) (fun _ h => nomatch h) dX5_faultOf_162 hlocks
    · skip
      exact W.iret (v := iI 2) hx hb hr (fun t9 ht _ => ⟨2, rfl, (by rw [(fv_5 (by omega)).1, hn4.1]; first | exact (okV_y (by assumption)).symm | exact (okV_n (by assumption)).symm : (2 : Int) = ftV (mO P) (P 12 ci) (nmC (P 13) ci)), ht⟩) (fun _ h => nomatch h) dX5_faultOf_162 hlocks
  · skip
    refine k_tout (tgt := 163) hx hb (by omega) dX5_faultOf_10 c_1 (by decide) ?_
    refine lv_aload_n hx hb dX5_faultOf_163 rfl (lv_at hl 1 rfl) ?_
    refine va_get (D := D) (ci := 4) (v := .ref (a 13)) (C := RX5) (T := TX5) (N := 6) hx hb hts hinX5 hown hK hP 0 rfl rfl 4 (by decide) hmw1 (fun _ h9 => h9) rfl dX5_faultOf_164 ?_
    refine lv_iload_n hx hb dX5_faultOf_167 rfl (lv_at hl 0 rfl) ?_
    refine k_iald hx hb hK hP 3 0 (f := P 13) rfl rfl (i := ci * 4) (by omega) dX5_faultOf_168 ?_
    refine k_roS (As := [.int (iI (P 13 (ci * 4)))]) (rest := []) ⟨hx, hb, hml, hown, hts⟩ (c_X4_faultOfStep l D cy (P 13 (ci * 4)) (show -2147483648 ≤ (P 13 (ci * 4)) ∧ (P 13 (ci * 4)) ≤ 2147483647 by omega)) gX5_faultOf_X4_faultOfStep rfl ⟨rfl, rfl⟩ 1 rfl (by decide +kernel) ⟨Nat.le_of_ble_eq_true rfl, Nat.le_of_ble_eq_true rfl⟩ (GG_ok D cy) hG (fun k q h => by simp at h) hl.1 rfl (Nat.le_of_ble_eq_true rfl) ⟨Nat.le_of_ble_eq_true rfl, Nat.le_of_ble_eq_true rfl⟩ dX5_faultOf_169 (fun r_14 hr_14 => ?_)
    have hr_14 : ((1 ≤ (P 13 (ci * 4)) ∧ (P 13 (ci * 4)) ≤ 512) ∧ r_14 = 0) ∨ ((¬ (1 ≤ (P 13 (ci * 4)) ∧ (P 13 (ci * 4)) ≤ 512)) ∧ r_14 = 2) := hr_14
    rcases hr_14 with ⟨c_15, hr_14⟩ | ⟨c_15, hr_14⟩ <;> subst hr_14
    · skip
      exact W.iret (v := iI 0) hx hb hr (fun t9 ht _ => ⟨0, rfl, (by rw [(fv_6 (by omega)).1, hn4.1]; first | exact (okV_y (by assumption)).symm | exact (okV_n (by assumption)).symm : (0 : Int) = ftV (mO P) (P 12 ci) (nmC (P 13) ci)), ht⟩) (fun _ h => nomatch h) dX5_faultOf_172 hlocks
    · skip
      exact W.iret (v := iI 2) hx hb hr (fun t9 ht _ => ⟨2, rfl, (by rw [(fv_6 (by omega)).1, hn4.1]; first | exact (okV_y (by assumption)).symm | exact (okV_n (by assumption)).symm : (2 : Int) = ftV (mO P) (P 12 ci) (nmC (P 13) ci)), ht⟩) (fun _ h => nomatch h) dX5_faultOf_172 hlocks
set_option maxHeartbeats 4000000 in
set_option maxRecDepth 100000 in
theorem c_X5_carryOut (l : Launch) (D : va_G) (cy : Nat → ClassId) (sz : Nat) (a : Nat → Nat) (P : Nat → Int → Int) (ci : Int) (M : Int → Int) (hI : Inv (mO P)) (hc : 0 ≤ ci ∧ ci < 150) (hk : 0 ≤ P 12 ci ∧ P 12 ci ≤ 6) (hnc : nmOK (nmC (P 13) ci)) (hIM : Inv M) (hag : ag M (mO P)) (hft : ftV M (P 12 ci) (nmC (P 13) ci) = 0) : Met l yX5_carryOut wsX5_carryOut { frames := 5, cells := 0, slots := 0, locals := 136 } (mPre (GG D cy) D (scplW cy a P) sz ([.ref (a 10), .int (iI ci), .ref (a 0)] : List Value)) (kQv D (scplW cy a P) sz (fun u9 : Nat → Int → Int => scplW cy a u9) (fun u9 => ∃ (zP : Nat → Int → Int), (ag (efM M (P 12 ci) (nmC (P 13) ci)) (mO zP)) ∧ (u9 = (upr (upr (upr (upr (upr (upr (upr (upr (upr P 0 (zP 0)) 1 (zP 1)) 2 (zP 2)) 3 (zP 3)) 4 (zP 4)) 5 (zP 5)) 6 (zP 6)) 7 (zP 7)) 8 (zP 8))))) 0 0 (va_A (scplW cy a P) sz) := by
  refine kM_start (cc := cX5_carryOut) (maxL := 4) (ret := none) (by decide) rfl (Nat.le_of_ble_eq_true rfl) ?_
  intro p e s m below meth c hx hb hr hlocks hml hts hown hsz hA hG hP hD hS hin ls hl
  have hK := hG.1
  have hl : lv_has ls 4 [(0, .ref (a 10)), (1, .int (iI ci)), (2, .ref (a 0))] := hl
  have hinX5 : ∀ w ∈ u_ws RX5 TX5 6, w ∈ wsX5_carryOut := by decide +kernel
  have hmw0 := hts (.fieldLink RX5 22 "ArcPlate$Script" "kinds" "[I") (by decide +kernel)
  have hmw1 := hts (.fieldLink RX5 26 "ArcPlate$Script" "numbers" "[I") (by decide +kernel)
  have hn4 := nmC_k (P 13) ci
  have hA0 := hnc 0 (by decide) (by decide)
  have hA1 := hnc 1 (by decide) (by decide)
  have hA2 := hnc 2 (by decide) (by decide)
  have hA3 := hnc 3 (by decide) (by decide)
  rw [hn4.1] at hA0
  rw [hn4.2.1] at hA1
  rw [hn4.2.2.1] at hA2
  rw [hn4.2.2.2] at hA3
  have hS0 := po_S hI
  have hft2 : ftV (mO P) (P 12 ci) (nmC (P 13) ci) = 0 := (ftA _ hag hk).symm.trans hft
  have hbody : ∀ (H : Heap) (locs : List Loc) (hP : va_P D vwCl (scplW cy a P) H) (hS : va_S (va_A (scplW cy a P) sz) s.heap H locs) (ls : Array Slot) (hl : lv_has ls 4 [(0, .ref (a 10)), (1, .int (iI ci)), (2, .ref (a 0))]), W p l e { frames := 5, cells := 0, slots := 0, locals := 136 } s m ([.ref (a 10), .int (iI ci), .ref (a 0)] : List Value).toArray below meth c H locs 0 0 (MQ below (kQv D (scplW cy a P) sz (fun u9 : Nat → Int → Int => scplW cy a u9) (fun u9 => ∃ (zP : Nat → Int → Int), (ag (efM M (P 12 ci) (nmC (P 13) ci)) (mO zP)) ∧ (u9 = (upr (upr (upr (upr (upr (upr (upr (upr (upr P 0 (zP 0)) 1 (zP 1)) 2 (zP 2)) 3 (zP 3)) 4 (zP 4)) 5 (zP 5)) 6 (zP 6)) 7 (zP 7)) 8 (zP 8))))) ([.ref (a 10), .int (iI ci), .ref (a 0)] : List Value).toArray s 0 0 (va_A (scplW cy a P) sz)) (F0 m 0 ls []) := by
    intro H locs hP hS ls hl
    refine lv_iload_n hx hb dX5_carryOut_0 rfl (lv_at hl 1 rfl) ?_
    refine k_iconst hx hb dX5_carryOut_1 ?_
    refine k_imul hx hb dX5_carryOut_2 ?_
    refine lv_istore_n (lv' := [(3, .int (iI (ci * 4))), (0, .ref (a 10)), (1, .int (iI ci)), (2, .ref (a 0))]) hx hb dX5_carryOut_3 rfl hl (by decide) rfl (fun ls hl => ?_)
    refine lv_aload_n hx hb dX5_carryOut_4 rfl (lv_at hl 1 rfl) ?_
    refine va_get (D := D) (ci := 4) (v := .ref (a 12)) (C := RX5) (T := TX5) (N := 6) hx hb hts hinX5 hown hK hP 0 rfl rfl 3 (by decide) hmw0 (fun _ h9 => h9) rfl dX5_carryOut_5 ?_
    refine lv_iload_n hx hb dX5_carryOut_8 rfl (lv_at hl 2 rfl) ?_
    refine k_iald hx hb hK hP 2 0 (f := P 12) rfl rfl (i := ci) (by omega) dX5_carryOut_9 ?_
    rcases (show (P 12 ci) = 0 ∨ (P 12 ci) = 1 ∨ (P 12 ci) = 2 ∨ (P 12 ci) = 3 ∨ (P 12 ci) = 4 ∨ (P 12 ci) = 5 ∨ ((P 12 ci) < 0 ∨ 5 < (P 12 ci)) by omega) with c_1 | c_1 | c_1 | c_1 | c_1 | c_1 | c_1
    · skip
      refine k_tin (tgt := 48) hx hb 0 c_1 (by decide) dX5_carryOut_10 (by decide) (by decide) rfl (by decide) ?_
      have hk0 : P 12 ci = 0 := by omega
      have hz := (fv_0 (M := mO P) (A := nmC (P 13) ci) hk0).1
      rw [hft2] at hz
      have hq := ft0_y hI hz.symm
      have hzM := (fv_0 (M := M) (A := nmC (P 13) ci) hk0).1
      rw [hft] at hzM
      have hqM := ft0_y hIM hzM.symm
      rw [mO_12] at hq
      refine lv_aload_n hx hb dX5_carryOut_48 rfl (lv_at hl 3 rfl) ?_
      have hPc := hP.sub (ws' := (plW cy a P)) [4, 5, 6, 7, 8, 9, 10, 11, 12] rfl
      have hDc := hD.sub (ws' := (plW cy a P)) [4, 5, 6, 7, 8, 9, 10, 11, 12] (by decide) rfl
      have hFc := va_free (wc := (plW cy a P)) hD hS hA [4, 5, 6, 7, 8, 9, 10, 11, 12] rfl
      refine k_mui (k_runV (As := []) (rest := []) ⟨hx, hb, hml, hown, hts⟩ (c_X4_putTrail l D cy H.size a P (show 0 ≤ P 0 0 ∧ P 0 0 < 12 by omega)) gX5_carryOut_X4_putTrail rfl ⟨rfl, rfl⟩ 0 rfl (by decide +kernel) ⟨Nat.le_of_ble_eq_true rfl, Nat.le_of_ble_eq_true rfl⟩ (GG_ok D cy) hG hS hFc hPc hDc (va_recv hK hP (ci := 3) (q0 := 4) rfl rfl) hl.1 rfl (Nat.le_of_ble_eq_true rfl) ⟨Nat.le_of_ble_eq_true rfl, Nat.le_of_ble_eq_true rfl⟩ dX5_carryOut_49) hFc hS (fun r_2 R_3 H1 locs1 hR_3 hP1 hD1 hS1 hk1 => ?_)
      have hR_3 : r_2 = P 0 0 ∧ R_3 = (upr (upr P 0 (ups (P 0) 0 (P 0 0 + 1))) 1 (ups (P 1) (P 0 0) 0)) := hR_3
      obtain ⟨hr_2, rfl⟩ := hR_3
      have hr_2 : r_2 = P 0 0 := hr_2
      subst hr_2
      have hDn : va_D (va_A (scplW cy a P) sz) (scplW cy a (upr (upr P 0 (ups (P 0) 0 (P 0 0 + 1))) 1 (ups (P 1) (P 0 0) 0))) := k_addr hD rfl
      have hPn := k_join (ws' := (scplW cy a (upr (upr P 0 (ups (P 0) 0 (P 0 0 + 1))) 1 (ups (P 1) (P 0 0) 0)))) hP hD [4, 5, 6, 7, 8, 9, 10, 11, 12] [none, none, none, none, some 0, some 1, some 2, some 3, some 4, some 5, some 6, some 7, some 8] rfl hk1 hP1 rfl rfl
      clear hP hD hS hP1 hD1 hk1
      have hP := hPn
      have hD := hDn
      have hS := hS1
      clear hPn hDn hS1
      generalize H1 = H at hP hS ⊢
      generalize locs1 = locs at hS ⊢
      have hfin : ag (efM M (P 12 ci) (nmC (P 13) ci)) (mO (((upr (upr P 0 (ups (P 0) 0 (P 0 0 + 1))) 1 (ups (P 1) (P 0 0) 0))))) := by rw [(fv_0 (M := M) (A := nmC (P 13) ci) hk0).2]; exact at_ag hIM hag hqM
      refine lv_pop hx hb dX5_carryOut_52 rfl ?_
      refine lv_goto (tgt := 194) hx hb dX5_carryOut_53 (by decide) ?_
      have hP : va_P D vwCl (scplW cy a (upr (upr (upr (upr (upr (upr (upr (upr (upr P 0 (ups (P 0) 0 (P 0 0 + 1))) 1 (ups (P 1) (P 0 0) 0)) 2 (P 2)) 3 (P 3)) 4 (P 4)) 5 (P 5)) 6 (P 6)) 7 (P 7)) 8 (P 8))) H := hP
      have hD : va_D (va_A (scplW cy a P) sz) (scplW cy a (upr (upr (upr (upr (upr (upr (upr (upr (upr P 0 (ups (P 0) 0 (P 0 0 + 1))) 1 (ups (P 1) (P 0 0) 0)) 2 (P 2)) 3 (P 3)) 4 (P 4)) 5 (P 5)) 6 (P 6)) 7 (P 7)) 8 (P 8))) := hD
      exact W.vret hx hb hr (fun t9 ht _ => ⟨⟨(upr (upr (upr (upr (upr (upr (upr (upr (upr P 0 (ups (P 0) 0 (P 0 0 + 1))) 1 (ups (P 1) (P 0 0) 0)) 2 (P 2)) 3 (P 3)) 4 (P 4)) 5 (P 5)) 6 (P 6)) 7 (P 7)) 8 (P 8)), rfl, (⟨((upr (upr (upr (upr (upr (upr (upr (upr (upr P 0 (ups (P 0) 0 (P 0 0 + 1))) 1 (ups (P 1) (P 0 0) 0)) 2 (P 2)) 3 (P 3)) 4 (P 4)) 5 (P 5)) 6 (P 6)) 7 (P 7)) 8 (P 8))), hfin, upr9 P _ (fun c9 h9 => by (repeat rw [upr_o _ _ (by omega)]))⟩ : ∃ (zP : Nat → Int → Int), (ag (efM M (P 12 ci) (nmC (P 13) ci)) (mO zP)) ∧ ((upr (upr (upr (upr (upr (upr (upr (upr (upr P 0 (ups (P 0) 0 (P 0 0 + 1))) 1 (ups (P 1) (P 0 0) 0)) 2 (P 2)) 3 (P 3)) 4 (P 4)) 5 (P 5)) 6 (P 6)) 7 (P 7)) 8 (P 8)) = (upr (upr (upr (upr (upr (upr (upr (upr (upr P 0 (zP 0)) 1 (zP 1)) 2 (zP 2)) 3 (zP 3)) 4 (zP 4)) 5 (zP 5)) 6 (zP 6)) 7 (zP 7)) 8 (zP 8)))), by rw [ht]; exact hP, hD⟩, hS.F ht⟩) hS.2.2 dX5_carryOut_194 hlocks
    · skip
      refine k_tin (tgt := 56) hx hb 1 c_1 (by decide) dX5_carryOut_10 (by decide) (by decide) rfl (by decide) ?_
      have hk1 : P 12 ci = 1 := by omega
      have hz := (fv_1 (M := mO P) (A := nmC (P 13) ci) hk1).1
      rw [hft2, hn4.1, hn4.2.1, hn4.2.2.1, hn4.2.2.2] at hz
      have hq := ftP_y2 hI hz.symm
      have hzM := (fv_1 (M := M) (A := nmC (P 13) ci) hk1).1
      rw [hft, hn4.1, hn4.2.1, hn4.2.2.1, hn4.2.2.2] at hzM
      have hqM := ftP_y2 hIM hzM.symm
      rw [mO_12] at hq
      have hqp := hq.2.1
      rw [mO_pts P hq.1.1.1 (by omega)] at hqp
      refine lv_aload_n hx hb dX5_carryOut_56 rfl (lv_at hl 3 rfl) ?_
      refine lv_aload_n hx hb dX5_carryOut_57 rfl (lv_at hl 1 rfl) ?_
      refine va_get (D := D) (ci := 4) (v := .ref (a 13)) (C := RX5) (T := TX5) (N := 6) hx hb hts hinX5 hown hK hP 0 rfl rfl 4 (by decide) hmw1 (fun _ h9 => h9) rfl dX5_carryOut_58 ?_
      refine lv_iload_n hx hb dX5_carryOut_61 rfl (lv_at hl 0 rfl) ?_
      refine k_iald hx hb hK hP 3 0 (f := P 13) rfl rfl (i := ci * 4) (by omega) dX5_carryOut_62 ?_
      refine lv_aload_n hx hb dX5_carryOut_63 rfl (lv_at hl 1 rfl) ?_
      refine va_get (D := D) (ci := 4) (v := .ref (a 13)) (C := RX5) (T := TX5) (N := 6) hx hb hts hinX5 hown hK hP 0 rfl rfl 4 (by decide) hmw1 (fun _ h9 => h9) rfl dX5_carryOut_64 ?_
      refine lv_iload_n hx hb dX5_carryOut_67 rfl (lv_at hl 0 rfl) ?_
      refine k_iconst hx hb dX5_carryOut_68 ?_
      refine k_iadd hx hb dX5_carryOut_69 ?_
      refine k_iald hx hb hK hP 3 0 (f := P 13) rfl rfl (i := (ci * 4) + 1) (by omega) dX5_carryOut_70 ?_
      refine lv_aload_n hx hb dX5_carryOut_71 rfl (lv_at hl 1 rfl) ?_
      refine va_get (D := D) (ci := 4) (v := .ref (a 13)) (C := RX5) (T := TX5) (N := 6) hx hb hts hinX5 hown hK hP 0 rfl rfl 4 (by decide) hmw1 (fun _ h9 => h9) rfl dX5_carryOut_72 ?_
      refine lv_iload_n hx hb dX5_carryOut_75 rfl (lv_at hl 0 rfl) ?_
      refine k_iconst hx hb dX5_carryOut_76 ?_
      refine k_iadd hx hb dX5_carryOut_77 ?_
      refine k_iald hx hb hK hP 3 0 (f := P 13) rfl rfl (i := (ci * 4) + 2) (by omega) dX5_carryOut_78 ?_
      refine lv_aload_n hx hb dX5_carryOut_79 rfl (lv_at hl 1 rfl) ?_
      refine va_get (D := D) (ci := 4) (v := .ref (a 13)) (C := RX5) (T := TX5) (N := 6) hx hb hts hinX5 hown hK hP 0 rfl rfl 4 (by decide) hmw1 (fun _ h9 => h9) rfl dX5_carryOut_80 ?_
      refine lv_iload_n hx hb dX5_carryOut_83 rfl (lv_at hl 0 rfl) ?_
      refine k_iconst hx hb dX5_carryOut_84 ?_
      refine k_iadd hx hb dX5_carryOut_85 ?_
      refine k_iald hx hb hK hP 3 0 (f := P 13) rfl rfl (i := (ci * 4) + 3) (by omega) dX5_carryOut_86 ?_
      have hPc := hP.sub (ws' := (plW cy a P)) [4, 5, 6, 7, 8, 9, 10, 11, 12] rfl
      have hDc := hD.sub (ws' := (plW cy a P)) [4, 5, 6, 7, 8, 9, 10, 11, 12] (by decide) rfl
      have hFc := va_free (wc := (plW cy a P)) hD hS hA [4, 5, 6, 7, 8, 9, 10, 11, 12] rfl
      refine k_mui (k_runV (As := [.int (iI (P 13 (ci * 4))), .int (iI (P 13 ((ci * 4) + 1))), .int (iI (P 13 ((ci * 4) + 2))), .int (iI (P 13 ((ci * 4) + 3)))]) (rest := []) ⟨hx, hb, hml, hown, hts⟩ (c_X4_putPoint l D cy H.size a P (P 13 (ci * 4)) (P 13 ((ci * 4) + 1)) (P 13 ((ci * 4) + 2)) (P 13 ((ci * 4) + 3)) hI (show 0 ≤ (P 13 (ci * 4)) by omega) (show (P 13 (ci * 4)) < P 0 0 by omega) (show -2147483648 ≤ (P 13 ((ci * 4) + 1)) ∧ (P 13 ((ci * 4) + 1)) ≤ 2147483647 by omega) (show P 1 (P 13 (ci * 4)) < 12 by omega) (show ¬ hasF (mO P) (P 13 (ci * 4)) (P 13 ((ci * 4) + 1)) from hq.2.2)) gX5_carryOut_X4_putPoint rfl ⟨rfl, rfl⟩ 4 rfl (by decide +kernel) ⟨Nat.le_of_ble_eq_true rfl, Nat.le_of_ble_eq_true rfl⟩ (GG_ok D cy) hG hS hFc hPc hDc (va_recv hK hP (ci := 3) (q0 := 4) rfl rfl) hl.1 rfl (Nat.le_of_ble_eq_true rfl) ⟨Nat.le_of_ble_eq_true rfl, Nat.le_of_ble_eq_true rfl⟩ dX5_carryOut_87) hFc hS (fun r_4 R_5 H1 locs1 hR_5 hP1 hD1 hS1 hk1 => ?_)
      have hR_5 : r_4 = posF (mO P) (P 13 (ci * 4)) (P 13 ((ci * 4) + 1)) ∧ R_5 = (upr (upr (upr (upr P 1 (ups (P 1) (P 13 (ci * 4)) (P 1 (P 13 (ci * 4)) + 1))) 2 (ups (shb (P 2) (12 * (P 13 (ci * 4)) + posF (mO P) (P 13 (ci * 4)) (P 13 ((ci * 4) + 1)) + 1) (12 * (P 13 (ci * 4)) + P 1 (P 13 (ci * 4)) + 1) 1) (12 * (P 13 (ci * 4)) + posF (mO P) (P 13 (ci * 4)) (P 13 ((ci * 4) + 1))) (P 13 ((ci * 4) + 1)))) 3 (ups (shb (P 3) (12 * (P 13 (ci * 4)) + posF (mO P) (P 13 (ci * 4)) (P 13 ((ci * 4) + 1)) + 1) (12 * (P 13 (ci * 4)) + P 1 (P 13 (ci * 4)) + 1) 1) (12 * (P 13 (ci * 4)) + posF (mO P) (P 13 (ci * 4)) (P 13 ((ci * 4) + 1))) (P 13 ((ci * 4) + 2)))) 4 (ups (shb (P 4) (12 * (P 13 (ci * 4)) + posF (mO P) (P 13 (ci * 4)) (P 13 ((ci * 4) + 1)) + 1) (12 * (P 13 (ci * 4)) + P 1 (P 13 (ci * 4)) + 1) 1) (12 * (P 13 (ci * 4)) + posF (mO P) (P 13 (ci * 4)) (P 13 ((ci * 4) + 1))) (P 13 ((ci * 4) + 3)))) := hR_5
      obtain ⟨hr_4, rfl⟩ := hR_5
      have hr_4 : r_4 = posF (mO P) (P 13 (ci * 4)) (P 13 ((ci * 4) + 1)) := hr_4
      subst hr_4
      have hDn : va_D (va_A (scplW cy a P) sz) (scplW cy a (upr (upr (upr (upr P 1 (ups (P 1) (P 13 (ci * 4)) (P 1 (P 13 (ci * 4)) + 1))) 2 (ups (shb (P 2) (12 * (P 13 (ci * 4)) + posF (mO P) (P 13 (ci * 4)) (P 13 ((ci * 4) + 1)) + 1) (12 * (P 13 (ci * 4)) + P 1 (P 13 (ci * 4)) + 1) 1) (12 * (P 13 (ci * 4)) + posF (mO P) (P 13 (ci * 4)) (P 13 ((ci * 4) + 1))) (P 13 ((ci * 4) + 1)))) 3 (ups (shb (P 3) (12 * (P 13 (ci * 4)) + posF (mO P) (P 13 (ci * 4)) (P 13 ((ci * 4) + 1)) + 1) (12 * (P 13 (ci * 4)) + P 1 (P 13 (ci * 4)) + 1) 1) (12 * (P 13 (ci * 4)) + posF (mO P) (P 13 (ci * 4)) (P 13 ((ci * 4) + 1))) (P 13 ((ci * 4) + 2)))) 4 (ups (shb (P 4) (12 * (P 13 (ci * 4)) + posF (mO P) (P 13 (ci * 4)) (P 13 ((ci * 4) + 1)) + 1) (12 * (P 13 (ci * 4)) + P 1 (P 13 (ci * 4)) + 1) 1) (12 * (P 13 (ci * 4)) + posF (mO P) (P 13 (ci * 4)) (P 13 ((ci * 4) + 1))) (P 13 ((ci * 4) + 3))))) := k_addr hD rfl
      have hPn := k_join (ws' := (scplW cy a (upr (upr (upr (upr P 1 (ups (P 1) (P 13 (ci * 4)) (P 1 (P 13 (ci * 4)) + 1))) 2 (ups (shb (P 2) (12 * (P 13 (ci * 4)) + posF (mO P) (P 13 (ci * 4)) (P 13 ((ci * 4) + 1)) + 1) (12 * (P 13 (ci * 4)) + P 1 (P 13 (ci * 4)) + 1) 1) (12 * (P 13 (ci * 4)) + posF (mO P) (P 13 (ci * 4)) (P 13 ((ci * 4) + 1))) (P 13 ((ci * 4) + 1)))) 3 (ups (shb (P 3) (12 * (P 13 (ci * 4)) + posF (mO P) (P 13 (ci * 4)) (P 13 ((ci * 4) + 1)) + 1) (12 * (P 13 (ci * 4)) + P 1 (P 13 (ci * 4)) + 1) 1) (12 * (P 13 (ci * 4)) + posF (mO P) (P 13 (ci * 4)) (P 13 ((ci * 4) + 1))) (P 13 ((ci * 4) + 2)))) 4 (ups (shb (P 4) (12 * (P 13 (ci * 4)) + posF (mO P) (P 13 (ci * 4)) (P 13 ((ci * 4) + 1)) + 1) (12 * (P 13 (ci * 4)) + P 1 (P 13 (ci * 4)) + 1) 1) (12 * (P 13 (ci * 4)) + posF (mO P) (P 13 (ci * 4)) (P 13 ((ci * 4) + 1))) (P 13 ((ci * 4) + 3)))))) hP hD [4, 5, 6, 7, 8, 9, 10, 11, 12] [none, none, none, none, some 0, some 1, some 2, some 3, some 4, some 5, some 6, some 7, some 8] rfl hk1 hP1 rfl rfl
      clear hP hD hS hP1 hD1 hk1
      have hP := hPn
      have hD := hDn
      have hS := hS1
      clear hPn hDn hS1
      generalize H1 = H at hP hS ⊢
      generalize locs1 = locs at hS ⊢
      have hfin : ag (efM M (P 12 ci) (nmC (P 13) ci)) (mO (((upr (upr (upr (upr P 1 (ups (P 1) (P 13 (ci * 4)) (P 1 (P 13 (ci * 4)) + 1))) 2 (ups (shb (P 2) (12 * (P 13 (ci * 4)) + posF (mO P) (P 13 (ci * 4)) (P 13 ((ci * 4) + 1)) + 1) (12 * (P 13 (ci * 4)) + P 1 (P 13 (ci * 4)) + 1) 1) (12 * (P 13 (ci * 4)) + posF (mO P) (P 13 (ci * 4)) (P 13 ((ci * 4) + 1))) (P 13 ((ci * 4) + 1)))) 3 (ups (shb (P 3) (12 * (P 13 (ci * 4)) + posF (mO P) (P 13 (ci * 4)) (P 13 ((ci * 4) + 1)) + 1) (12 * (P 13 (ci * 4)) + P 1 (P 13 (ci * 4)) + 1) 1) (12 * (P 13 (ci * 4)) + posF (mO P) (P 13 (ci * 4)) (P 13 ((ci * 4) + 1))) (P 13 ((ci * 4) + 2)))) 4 (ups (shb (P 4) (12 * (P 13 (ci * 4)) + posF (mO P) (P 13 (ci * 4)) (P 13 ((ci * 4) + 1)) + 1) (12 * (P 13 (ci * 4)) + P 1 (P 13 (ci * 4)) + 1) 1) (12 * (P 13 (ci * 4)) + posF (mO P) (P 13 (ci * 4)) (P 13 ((ci * 4) + 1))) (P 13 ((ci * 4) + 3))))))) := by rw [(fv_1 (M := M) (A := nmC (P 13) ci) hk1).2, hn4.1, hn4.2.1, hn4.2.2.1, hn4.2.2.2]; exact ap_ag hIM hag hqM.1.1.1 hqM.1.1.2 hqM.2.1 hqM.2.2
      refine lv_pop hx hb dX5_carryOut_90 rfl ?_
      refine lv_goto (tgt := 194) hx hb dX5_carryOut_91 (by decide) ?_
      have hP : va_P D vwCl (scplW cy a (upr (upr (upr (upr (upr (upr (upr (upr (upr P 0 (P 0)) 1 (ups (P 1) (P 13 (ci * 4)) (P 1 (P 13 (ci * 4)) + 1))) 2 (ups (shb (P 2) (12 * (P 13 (ci * 4)) + posF (mO P) (P 13 (ci * 4)) (P 13 ((ci * 4) + 1)) + 1) (12 * (P 13 (ci * 4)) + P 1 (P 13 (ci * 4)) + 1) 1) (12 * (P 13 (ci * 4)) + posF (mO P) (P 13 (ci * 4)) (P 13 ((ci * 4) + 1))) (P 13 ((ci * 4) + 1)))) 3 (ups (shb (P 3) (12 * (P 13 (ci * 4)) + posF (mO P) (P 13 (ci * 4)) (P 13 ((ci * 4) + 1)) + 1) (12 * (P 13 (ci * 4)) + P 1 (P 13 (ci * 4)) + 1) 1) (12 * (P 13 (ci * 4)) + posF (mO P) (P 13 (ci * 4)) (P 13 ((ci * 4) + 1))) (P 13 ((ci * 4) + 2)))) 4 (ups (shb (P 4) (12 * (P 13 (ci * 4)) + posF (mO P) (P 13 (ci * 4)) (P 13 ((ci * 4) + 1)) + 1) (12 * (P 13 (ci * 4)) + P 1 (P 13 (ci * 4)) + 1) 1) (12 * (P 13 (ci * 4)) + posF (mO P) (P 13 (ci * 4)) (P 13 ((ci * 4) + 1))) (P 13 ((ci * 4) + 3)))) 5 (P 5)) 6 (P 6)) 7 (P 7)) 8 (P 8))) H := hP
      have hD : va_D (va_A (scplW cy a P) sz) (scplW cy a (upr (upr (upr (upr (upr (upr (upr (upr (upr P 0 (P 0)) 1 (ups (P 1) (P 13 (ci * 4)) (P 1 (P 13 (ci * 4)) + 1))) 2 (ups (shb (P 2) (12 * (P 13 (ci * 4)) + posF (mO P) (P 13 (ci * 4)) (P 13 ((ci * 4) + 1)) + 1) (12 * (P 13 (ci * 4)) + P 1 (P 13 (ci * 4)) + 1) 1) (12 * (P 13 (ci * 4)) + posF (mO P) (P 13 (ci * 4)) (P 13 ((ci * 4) + 1))) (P 13 ((ci * 4) + 1)))) 3 (ups (shb (P 3) (12 * (P 13 (ci * 4)) + posF (mO P) (P 13 (ci * 4)) (P 13 ((ci * 4) + 1)) + 1) (12 * (P 13 (ci * 4)) + P 1 (P 13 (ci * 4)) + 1) 1) (12 * (P 13 (ci * 4)) + posF (mO P) (P 13 (ci * 4)) (P 13 ((ci * 4) + 1))) (P 13 ((ci * 4) + 2)))) 4 (ups (shb (P 4) (12 * (P 13 (ci * 4)) + posF (mO P) (P 13 (ci * 4)) (P 13 ((ci * 4) + 1)) + 1) (12 * (P 13 (ci * 4)) + P 1 (P 13 (ci * 4)) + 1) 1) (12 * (P 13 (ci * 4)) + posF (mO P) (P 13 (ci * 4)) (P 13 ((ci * 4) + 1))) (P 13 ((ci * 4) + 3)))) 5 (P 5)) 6 (P 6)) 7 (P 7)) 8 (P 8))) := hD
      exact W.vret hx hb hr (fun t9 ht _ => ⟨⟨(upr (upr (upr (upr (upr (upr (upr (upr (upr P 0 (P 0)) 1 (ups (P 1) (P 13 (ci * 4)) (P 1 (P 13 (ci * 4)) + 1))) 2 (ups (shb (P 2) (12 * (P 13 (ci * 4)) + posF (mO P) (P 13 (ci * 4)) (P 13 ((ci * 4) + 1)) + 1) (12 * (P 13 (ci * 4)) + P 1 (P 13 (ci * 4)) + 1) 1) (12 * (P 13 (ci * 4)) + posF (mO P) (P 13 (ci * 4)) (P 13 ((ci * 4) + 1))) (P 13 ((ci * 4) + 1)))) 3 (ups (shb (P 3) (12 * (P 13 (ci * 4)) + posF (mO P) (P 13 (ci * 4)) (P 13 ((ci * 4) + 1)) + 1) (12 * (P 13 (ci * 4)) + P 1 (P 13 (ci * 4)) + 1) 1) (12 * (P 13 (ci * 4)) + posF (mO P) (P 13 (ci * 4)) (P 13 ((ci * 4) + 1))) (P 13 ((ci * 4) + 2)))) 4 (ups (shb (P 4) (12 * (P 13 (ci * 4)) + posF (mO P) (P 13 (ci * 4)) (P 13 ((ci * 4) + 1)) + 1) (12 * (P 13 (ci * 4)) + P 1 (P 13 (ci * 4)) + 1) 1) (12 * (P 13 (ci * 4)) + posF (mO P) (P 13 (ci * 4)) (P 13 ((ci * 4) + 1))) (P 13 ((ci * 4) + 3)))) 5 (P 5)) 6 (P 6)) 7 (P 7)) 8 (P 8)), rfl, (⟨((upr (upr (upr (upr (upr (upr (upr (upr (upr P 0 (P 0)) 1 (ups (P 1) (P 13 (ci * 4)) (P 1 (P 13 (ci * 4)) + 1))) 2 (ups (shb (P 2) (12 * (P 13 (ci * 4)) + posF (mO P) (P 13 (ci * 4)) (P 13 ((ci * 4) + 1)) + 1) (12 * (P 13 (ci * 4)) + P 1 (P 13 (ci * 4)) + 1) 1) (12 * (P 13 (ci * 4)) + posF (mO P) (P 13 (ci * 4)) (P 13 ((ci * 4) + 1))) (P 13 ((ci * 4) + 1)))) 3 (ups (shb (P 3) (12 * (P 13 (ci * 4)) + posF (mO P) (P 13 (ci * 4)) (P 13 ((ci * 4) + 1)) + 1) (12 * (P 13 (ci * 4)) + P 1 (P 13 (ci * 4)) + 1) 1) (12 * (P 13 (ci * 4)) + posF (mO P) (P 13 (ci * 4)) (P 13 ((ci * 4) + 1))) (P 13 ((ci * 4) + 2)))) 4 (ups (shb (P 4) (12 * (P 13 (ci * 4)) + posF (mO P) (P 13 (ci * 4)) (P 13 ((ci * 4) + 1)) + 1) (12 * (P 13 (ci * 4)) + P 1 (P 13 (ci * 4)) + 1) 1) (12 * (P 13 (ci * 4)) + posF (mO P) (P 13 (ci * 4)) (P 13 ((ci * 4) + 1))) (P 13 ((ci * 4) + 3)))) 5 (P 5)) 6 (P 6)) 7 (P 7)) 8 (P 8))), hfin, upr9 P _ (fun c9 h9 => by (repeat rw [upr_o _ _ (by omega)]))⟩ : ∃ (zP : Nat → Int → Int), (ag (efM M (P 12 ci) (nmC (P 13) ci)) (mO zP)) ∧ ((upr (upr (upr (upr (upr (upr (upr (upr (upr P 0 (P 0)) 1 (ups (P 1) (P 13 (ci * 4)) (P 1 (P 13 (ci * 4)) + 1))) 2 (ups (shb (P 2) (12 * (P 13 (ci * 4)) + posF (mO P) (P 13 (ci * 4)) (P 13 ((ci * 4) + 1)) + 1) (12 * (P 13 (ci * 4)) + P 1 (P 13 (ci * 4)) + 1) 1) (12 * (P 13 (ci * 4)) + posF (mO P) (P 13 (ci * 4)) (P 13 ((ci * 4) + 1))) (P 13 ((ci * 4) + 1)))) 3 (ups (shb (P 3) (12 * (P 13 (ci * 4)) + posF (mO P) (P 13 (ci * 4)) (P 13 ((ci * 4) + 1)) + 1) (12 * (P 13 (ci * 4)) + P 1 (P 13 (ci * 4)) + 1) 1) (12 * (P 13 (ci * 4)) + posF (mO P) (P 13 (ci * 4)) (P 13 ((ci * 4) + 1))) (P 13 ((ci * 4) + 2)))) 4 (ups (shb (P 4) (12 * (P 13 (ci * 4)) + posF (mO P) (P 13 (ci * 4)) (P 13 ((ci * 4) + 1)) + 1) (12 * (P 13 (ci * 4)) + P 1 (P 13 (ci * 4)) + 1) 1) (12 * (P 13 (ci * 4)) + posF (mO P) (P 13 (ci * 4)) (P 13 ((ci * 4) + 1))) (P 13 ((ci * 4) + 3)))) 5 (P 5)) 6 (P 6)) 7 (P 7)) 8 (P 8)) = (upr (upr (upr (upr (upr (upr (upr (upr (upr P 0 (zP 0)) 1 (zP 1)) 2 (zP 2)) 3 (zP 3)) 4 (zP 4)) 5 (zP 5)) 6 (zP 6)) 7 (zP 7)) 8 (zP 8)))), by rw [ht]; exact hP, hD⟩, hS.F ht⟩) hS.2.2 dX5_carryOut_194 hlocks
    · skip
      refine k_tin (tgt := 94) hx hb 2 c_1 (by decide) dX5_carryOut_10 (by decide) (by decide) rfl (by decide) ?_
      have hk2 : P 12 ci = 2 := by omega
      have hz := (fv_2 (M := mO P) (A := nmC (P 13) ci) hk2).1
      rw [hft2, hn4.1, hn4.2.1, hn4.2.2.1] at hz
      have hq := ftS_y hI hz.symm
      have hzM := (fv_2 (M := M) (A := nmC (P 13) ci) hk2).1
      rw [hft, hn4.1, hn4.2.1, hn4.2.2.1] at hzM
      have hqM := ftS_y hIM hzM.symm
      rw [mO_13] at hq
      refine lv_aload_n hx hb dX5_carryOut_94 rfl (lv_at hl 3 rfl) ?_
      refine lv_aload_n hx hb dX5_carryOut_95 rfl (lv_at hl 1 rfl) ?_
      refine va_get (D := D) (ci := 4) (v := .ref (a 13)) (C := RX5) (T := TX5) (N := 6) hx hb hts hinX5 hown hK hP 0 rfl rfl 4 (by decide) hmw1 (fun _ h9 => h9) rfl dX5_carryOut_96 ?_
      refine lv_iload_n hx hb dX5_carryOut_99 rfl (lv_at hl 0 rfl) ?_
      refine k_iald hx hb hK hP 3 0 (f := P 13) rfl rfl (i := ci * 4) (by omega) dX5_carryOut_100 ?_
      refine lv_aload_n hx hb dX5_carryOut_101 rfl (lv_at hl 1 rfl) ?_
      refine va_get (D := D) (ci := 4) (v := .ref (a 13)) (C := RX5) (T := TX5) (N := 6) hx hb hts hinX5 hown hK hP 0 rfl rfl 4 (by decide) hmw1 (fun _ h9 => h9) rfl dX5_carryOut_102 ?_
      refine lv_iload_n hx hb dX5_carryOut_105 rfl (lv_at hl 0 rfl) ?_
      refine k_iconst hx hb dX5_carryOut_106 ?_
      refine k_iadd hx hb dX5_carryOut_107 ?_
      refine k_iald hx hb hK hP 3 0 (f := P 13) rfl rfl (i := (ci * 4) + 1) (by omega) dX5_carryOut_108 ?_
      refine lv_aload_n hx hb dX5_carryOut_109 rfl (lv_at hl 1 rfl) ?_
      refine va_get (D := D) (ci := 4) (v := .ref (a 13)) (C := RX5) (T := TX5) (N := 6) hx hb hts hinX5 hown hK hP 0 rfl rfl 4 (by decide) hmw1 (fun _ h9 => h9) rfl dX5_carryOut_110 ?_
      refine lv_iload_n hx hb dX5_carryOut_113 rfl (lv_at hl 0 rfl) ?_
      refine k_iconst hx hb dX5_carryOut_114 ?_
      refine k_iadd hx hb dX5_carryOut_115 ?_
      refine k_iald hx hb hK hP 3 0 (f := P 13) rfl rfl (i := (ci * 4) + 2) (by omega) dX5_carryOut_116 ?_
      have hPc := hP.sub (ws' := (plW cy a P)) [4, 5, 6, 7, 8, 9, 10, 11, 12] rfl
      have hDc := hD.sub (ws' := (plW cy a P)) [4, 5, 6, 7, 8, 9, 10, 11, 12] (by decide) rfl
      have hFc := va_free (wc := (plW cy a P)) hD hS hA [4, 5, 6, 7, 8, 9, 10, 11, 12] rfl
      refine k_mui (k_runV (As := [.int (iI (P 13 (ci * 4))), .int (iI (P 13 ((ci * 4) + 1))), .int (iI (P 13 ((ci * 4) + 2)))]) (rest := []) ⟨hx, hb, hml, hown, hts⟩ (c_X4_putStar l D cy H.size a P (P 13 (ci * 4)) (P 13 ((ci * 4) + 1)) (P 13 ((ci * 4) + 2)) (show 0 ≤ P 0 1 ∧ P 0 1 < 12 by omega)) gX5_carryOut_X4_putStar rfl ⟨rfl, rfl⟩ 3 rfl (by decide +kernel) ⟨Nat.le_of_ble_eq_true rfl, Nat.le_of_ble_eq_true rfl⟩ (GG_ok D cy) hG hS hFc hPc hDc (va_recv hK hP (ci := 3) (q0 := 4) rfl rfl) hl.1 rfl (Nat.le_of_ble_eq_true rfl) ⟨Nat.le_of_ble_eq_true rfl, Nat.le_of_ble_eq_true rfl⟩ dX5_carryOut_117) hFc hS (fun r_6 R_7 H1 locs1 hR_7 hP1 hD1 hS1 hk1 => ?_)
      have hR_7 : r_6 = P 0 1 ∧ R_7 = (upr (upr (upr (upr P 0 (ups (P 0) 1 (P 0 1 + 1))) 5 (ups (P 5) (P 0 1) (P 13 (ci * 4)))) 6 (ups (P 6) (P 0 1) (P 13 ((ci * 4) + 1)))) 7 (ups (P 7) (P 0 1) (P 13 ((ci * 4) + 2)))) := hR_7
      obtain ⟨hr_6, rfl⟩ := hR_7
      have hr_6 : r_6 = P 0 1 := hr_6
      subst hr_6
      have hDn : va_D (va_A (scplW cy a P) sz) (scplW cy a (upr (upr (upr (upr P 0 (ups (P 0) 1 (P 0 1 + 1))) 5 (ups (P 5) (P 0 1) (P 13 (ci * 4)))) 6 (ups (P 6) (P 0 1) (P 13 ((ci * 4) + 1)))) 7 (ups (P 7) (P 0 1) (P 13 ((ci * 4) + 2))))) := k_addr hD rfl
      have hPn := k_join (ws' := (scplW cy a (upr (upr (upr (upr P 0 (ups (P 0) 1 (P 0 1 + 1))) 5 (ups (P 5) (P 0 1) (P 13 (ci * 4)))) 6 (ups (P 6) (P 0 1) (P 13 ((ci * 4) + 1)))) 7 (ups (P 7) (P 0 1) (P 13 ((ci * 4) + 2)))))) hP hD [4, 5, 6, 7, 8, 9, 10, 11, 12] [none, none, none, none, some 0, some 1, some 2, some 3, some 4, some 5, some 6, some 7, some 8] rfl hk1 hP1 rfl rfl
      clear hP hD hS hP1 hD1 hk1
      have hP := hPn
      have hD := hDn
      have hS := hS1
      clear hPn hDn hS1
      generalize H1 = H at hP hS ⊢
      generalize locs1 = locs at hS ⊢
      have hfin : ag (efM M (P 12 ci) (nmC (P 13) ci)) (mO (((upr (upr (upr (upr P 0 (ups (P 0) 1 (P 0 1 + 1))) 5 (ups (P 5) (P 0 1) (P 13 (ci * 4)))) 6 (ups (P 6) (P 0 1) (P 13 ((ci * 4) + 1)))) 7 (ups (P 7) (P 0 1) (P 13 ((ci * 4) + 2))))))) := by rw [(fv_2 (M := M) (A := nmC (P 13) ci) hk2).2, hn4.1, hn4.2.1, hn4.2.2.1]; exact as_ag hIM hag
      refine lv_pop hx hb dX5_carryOut_120 rfl ?_
      refine lv_goto (tgt := 194) hx hb dX5_carryOut_121 (by decide) ?_
      have hP : va_P D vwCl (scplW cy a (upr (upr (upr (upr (upr (upr (upr (upr (upr P 0 (ups (P 0) 1 (P 0 1 + 1))) 1 (P 1)) 2 (P 2)) 3 (P 3)) 4 (P 4)) 5 (ups (P 5) (P 0 1) (P 13 (ci * 4)))) 6 (ups (P 6) (P 0 1) (P 13 ((ci * 4) + 1)))) 7 (ups (P 7) (P 0 1) (P 13 ((ci * 4) + 2)))) 8 (P 8))) H := hP
      have hD : va_D (va_A (scplW cy a P) sz) (scplW cy a (upr (upr (upr (upr (upr (upr (upr (upr (upr P 0 (ups (P 0) 1 (P 0 1 + 1))) 1 (P 1)) 2 (P 2)) 3 (P 3)) 4 (P 4)) 5 (ups (P 5) (P 0 1) (P 13 (ci * 4)))) 6 (ups (P 6) (P 0 1) (P 13 ((ci * 4) + 1)))) 7 (ups (P 7) (P 0 1) (P 13 ((ci * 4) + 2)))) 8 (P 8))) := hD
      exact W.vret hx hb hr (fun t9 ht _ => ⟨⟨(upr (upr (upr (upr (upr (upr (upr (upr (upr P 0 (ups (P 0) 1 (P 0 1 + 1))) 1 (P 1)) 2 (P 2)) 3 (P 3)) 4 (P 4)) 5 (ups (P 5) (P 0 1) (P 13 (ci * 4)))) 6 (ups (P 6) (P 0 1) (P 13 ((ci * 4) + 1)))) 7 (ups (P 7) (P 0 1) (P 13 ((ci * 4) + 2)))) 8 (P 8)), rfl, (⟨((upr (upr (upr (upr (upr (upr (upr (upr (upr P 0 (ups (P 0) 1 (P 0 1 + 1))) 1 (P 1)) 2 (P 2)) 3 (P 3)) 4 (P 4)) 5 (ups (P 5) (P 0 1) (P 13 (ci * 4)))) 6 (ups (P 6) (P 0 1) (P 13 ((ci * 4) + 1)))) 7 (ups (P 7) (P 0 1) (P 13 ((ci * 4) + 2)))) 8 (P 8))), hfin, upr9 P _ (fun c9 h9 => by (repeat rw [upr_o _ _ (by omega)]))⟩ : ∃ (zP : Nat → Int → Int), (ag (efM M (P 12 ci) (nmC (P 13) ci)) (mO zP)) ∧ ((upr (upr (upr (upr (upr (upr (upr (upr (upr P 0 (ups (P 0) 1 (P 0 1 + 1))) 1 (P 1)) 2 (P 2)) 3 (P 3)) 4 (P 4)) 5 (ups (P 5) (P 0 1) (P 13 (ci * 4)))) 6 (ups (P 6) (P 0 1) (P 13 ((ci * 4) + 1)))) 7 (ups (P 7) (P 0 1) (P 13 ((ci * 4) + 2)))) 8 (P 8)) = (upr (upr (upr (upr (upr (upr (upr (upr (upr P 0 (zP 0)) 1 (zP 1)) 2 (zP 2)) 3 (zP 3)) 4 (zP 4)) 5 (zP 5)) 6 (zP 6)) 7 (zP 7)) 8 (zP 8)))), by rw [ht]; exact hP, hD⟩, hS.F ht⟩) hS.2.2 dX5_carryOut_194 hlocks
    · skip
      refine k_tin (tgt := 124) hx hb 3 c_1 (by decide) dX5_carryOut_10 (by decide) (by decide) rfl (by decide) ?_
      have hk3 : P 12 ci = 3 := by omega
      have hz := (fv_3 (M := mO P) (A := nmC (P 13) ci) hk3).1
      rw [hft2, hn4.1, hn4.2.1] at hz
      have hq := ft_y hz.symm
      have hzM := (fv_3 (M := M) (A := nmC (P 13) ci) hk3).1
      rw [hft, hn4.1, hn4.2.1] at hzM
      have hqM := ft_y hzM.symm
      refine lv_aload_n hx hb dX5_carryOut_124 rfl (lv_at hl 3 rfl) ?_
      refine lv_aload_n hx hb dX5_carryOut_125 rfl (lv_at hl 1 rfl) ?_
      refine va_get (D := D) (ci := 4) (v := .ref (a 13)) (C := RX5) (T := TX5) (N := 6) hx hb hts hinX5 hown hK hP 0 rfl rfl 4 (by decide) hmw1 (fun _ h9 => h9) rfl dX5_carryOut_126 ?_
      refine lv_iload_n hx hb dX5_carryOut_129 rfl (lv_at hl 0 rfl) ?_
      refine k_iald hx hb hK hP 3 0 (f := P 13) rfl rfl (i := ci * 4) (by omega) dX5_carryOut_130 ?_
      refine lv_aload_n hx hb dX5_carryOut_131 rfl (lv_at hl 1 rfl) ?_
      refine va_get (D := D) (ci := 4) (v := .ref (a 13)) (C := RX5) (T := TX5) (N := 6) hx hb hts hinX5 hown hK hP 0 rfl rfl 4 (by decide) hmw1 (fun _ h9 => h9) rfl dX5_carryOut_132 ?_
      refine lv_iload_n hx hb dX5_carryOut_135 rfl (lv_at hl 0 rfl) ?_
      refine k_iconst hx hb dX5_carryOut_136 ?_
      refine k_iadd hx hb dX5_carryOut_137 ?_
      refine k_iald hx hb hK hP 3 0 (f := P 13) rfl rfl (i := (ci * 4) + 1) (by omega) dX5_carryOut_138 ?_
      have hPc := hP.sub (ws' := (plW cy a P)) [4, 5, 6, 7, 8, 9, 10, 11, 12] rfl
      have hDc := hD.sub (ws' := (plW cy a P)) [4, 5, 6, 7, 8, 9, 10, 11, 12] (by decide) rfl
      have hFc := va_free (wc := (plW cy a P)) hD hS hA [4, 5, 6, 7, 8, 9, 10, 11, 12] rfl
      refine k_muv (k_runV (As := [.int (iI (P 13 (ci * 4))), .int (iI (P 13 ((ci * 4) + 1)))]) (rest := []) ⟨hx, hb, hml, hown, hts⟩ (c_X4_putPole l D cy H.size a P (P 13 (ci * 4)) (P 13 ((ci * 4) + 1)) ) gX5_carryOut_X4_putPole rfl ⟨rfl, rfl⟩ 2 rfl (by decide +kernel) ⟨Nat.le_of_ble_eq_true rfl, Nat.le_of_ble_eq_true rfl⟩ (GG_ok D cy) hG hS hFc hPc hDc (va_recv hK hP (ci := 3) (q0 := 4) rfl rfl) hl.1 rfl (Nat.le_of_ble_eq_true rfl) ⟨Nat.le_of_ble_eq_true rfl, Nat.le_of_ble_eq_true rfl⟩ dX5_carryOut_139) hFc hS (fun R_9 H1 locs1 hR_9 hP1 hD1 hS1 hk1 => ?_)
      have hR_9 : R_9 = (upr P 0 (ups (ups (P 0) 2 (P 13 (ci * 4))) 3 (P 13 ((ci * 4) + 1)))) := hR_9
      subst hR_9
      have hDn : va_D (va_A (scplW cy a P) sz) (scplW cy a (upr P 0 (ups (ups (P 0) 2 (P 13 (ci * 4))) 3 (P 13 ((ci * 4) + 1))))) := k_addr hD rfl
      have hPn := k_join (ws' := (scplW cy a (upr P 0 (ups (ups (P 0) 2 (P 13 (ci * 4))) 3 (P 13 ((ci * 4) + 1)))))) hP hD [4, 5, 6, 7, 8, 9, 10, 11, 12] [none, none, none, none, some 0, some 1, some 2, some 3, some 4, some 5, some 6, some 7, some 8] rfl hk1 hP1 rfl rfl
      clear hP hD hS hP1 hD1 hk1
      have hP := hPn
      have hD := hDn
      have hS := hS1
      clear hPn hDn hS1
      generalize H1 = H at hP hS ⊢
      generalize locs1 = locs at hS ⊢
      have hfin : ag (efM M (P 12 ci) (nmC (P 13) ci)) (mO (((upr P 0 (ups (ups (P 0) 2 (P 13 (ci * 4))) 3 (P 13 ((ci * 4) + 1))))))) := by rw [(fv_3 (M := M) (A := nmC (P 13) ci) hk3).2, hn4.1, hn4.2.1, mO_pole]; exact po_ag _ _ hIM hag
      refine lv_goto (tgt := 194) hx hb dX5_carryOut_142 (by decide) ?_
      have hP : va_P D vwCl (scplW cy a (upr (upr (upr (upr (upr (upr (upr (upr (upr P 0 (ups (ups (P 0) 2 (P 13 (ci * 4))) 3 (P 13 ((ci * 4) + 1)))) 1 (P 1)) 2 (P 2)) 3 (P 3)) 4 (P 4)) 5 (P 5)) 6 (P 6)) 7 (P 7)) 8 (P 8))) H := hP
      have hD : va_D (va_A (scplW cy a P) sz) (scplW cy a (upr (upr (upr (upr (upr (upr (upr (upr (upr P 0 (ups (ups (P 0) 2 (P 13 (ci * 4))) 3 (P 13 ((ci * 4) + 1)))) 1 (P 1)) 2 (P 2)) 3 (P 3)) 4 (P 4)) 5 (P 5)) 6 (P 6)) 7 (P 7)) 8 (P 8))) := hD
      exact W.vret hx hb hr (fun t9 ht _ => ⟨⟨(upr (upr (upr (upr (upr (upr (upr (upr (upr P 0 (ups (ups (P 0) 2 (P 13 (ci * 4))) 3 (P 13 ((ci * 4) + 1)))) 1 (P 1)) 2 (P 2)) 3 (P 3)) 4 (P 4)) 5 (P 5)) 6 (P 6)) 7 (P 7)) 8 (P 8)), rfl, (⟨((upr (upr (upr (upr (upr (upr (upr (upr (upr P 0 (ups (ups (P 0) 2 (P 13 (ci * 4))) 3 (P 13 ((ci * 4) + 1)))) 1 (P 1)) 2 (P 2)) 3 (P 3)) 4 (P 4)) 5 (P 5)) 6 (P 6)) 7 (P 7)) 8 (P 8))), hfin, upr9 P _ (fun c9 h9 => by (repeat rw [upr_o _ _ (by omega)]))⟩ : ∃ (zP : Nat → Int → Int), (ag (efM M (P 12 ci) (nmC (P 13) ci)) (mO zP)) ∧ ((upr (upr (upr (upr (upr (upr (upr (upr (upr P 0 (ups (ups (P 0) 2 (P 13 (ci * 4))) 3 (P 13 ((ci * 4) + 1)))) 1 (P 1)) 2 (P 2)) 3 (P 3)) 4 (P 4)) 5 (P 5)) 6 (P 6)) 7 (P 7)) 8 (P 8)) = (upr (upr (upr (upr (upr (upr (upr (upr (upr P 0 (zP 0)) 1 (zP 1)) 2 (zP 2)) 3 (zP 3)) 4 (zP 4)) 5 (zP 5)) 6 (zP 6)) 7 (zP 7)) 8 (zP 8)))), by rw [ht]; exact hP, hD⟩, hS.F ht⟩) hS.2.2 dX5_carryOut_194 hlocks
    · skip
      refine k_tin (tgt := 145) hx hb 4 c_1 (by decide) dX5_carryOut_10 (by decide) (by decide) rfl (by decide) ?_
      have hk4 : P 12 ci = 4 := by omega
      have hz := (fv_4 (M := mO P) (A := nmC (P 13) ci) hk4).1
      rw [hft2, hn4.1, hn4.2.1] at hz
      have hq := ft_y hz.symm
      have hzM := (fv_4 (M := M) (A := nmC (P 13) ci) hk4).1
      rw [hft, hn4.1, hn4.2.1] at hzM
      have hqM := ft_y hzM.symm
      have hq2 := id hq
      unfold setOK at hq2
      refine lv_aload_n hx hb dX5_carryOut_145 rfl (lv_at hl 3 rfl) ?_
      refine lv_aload_n hx hb dX5_carryOut_146 rfl (lv_at hl 1 rfl) ?_
      refine va_get (D := D) (ci := 4) (v := .ref (a 13)) (C := RX5) (T := TX5) (N := 6) hx hb hts hinX5 hown hK hP 0 rfl rfl 4 (by decide) hmw1 (fun _ h9 => h9) rfl dX5_carryOut_147 ?_
      refine lv_iload_n hx hb dX5_carryOut_150 rfl (lv_at hl 0 rfl) ?_
      refine k_iald hx hb hK hP 3 0 (f := P 13) rfl rfl (i := ci * 4) (by omega) dX5_carryOut_151 ?_
      refine lv_aload_n hx hb dX5_carryOut_152 rfl (lv_at hl 1 rfl) ?_
      refine va_get (D := D) (ci := 4) (v := .ref (a 13)) (C := RX5) (T := TX5) (N := 6) hx hb hts hinX5 hown hK hP 0 rfl rfl 4 (by decide) hmw1 (fun _ h9 => h9) rfl dX5_carryOut_153 ?_
      refine lv_iload_n hx hb dX5_carryOut_156 rfl (lv_at hl 0 rfl) ?_
      refine k_iconst hx hb dX5_carryOut_157 ?_
      refine k_iadd hx hb dX5_carryOut_158 ?_
      refine k_iald hx hb hK hP 3 0 (f := P 13) rfl rfl (i := (ci * 4) + 1) (by omega) dX5_carryOut_159 ?_
      have hPc := hP.sub (ws' := (plW cy a P)) [4, 5, 6, 7, 8, 9, 10, 11, 12] rfl
      have hDc := hD.sub (ws' := (plW cy a P)) [4, 5, 6, 7, 8, 9, 10, 11, 12] (by decide) rfl
      have hFc := va_free (wc := (plW cy a P)) hD hS hA [4, 5, 6, 7, 8, 9, 10, 11, 12] rfl
      refine k_mui (k_runV (As := [.int (iI (P 13 (ci * 4))), .int (iI (P 13 ((ci * 4) + 1)))]) (rest := []) ⟨hx, hb, hml, hown, hts⟩ (c_X4_putSetting l D cy H.size a P (P 13 (ci * 4)) (P 13 ((ci * 4) + 1)) (show 0 ≤ (P 13 (ci * 4)) ∧ (P 13 (ci * 4)) ≤ 9 by omega)) gX5_carryOut_X4_putSetting rfl ⟨rfl, rfl⟩ 2 rfl (by decide +kernel) ⟨Nat.le_of_ble_eq_true rfl, Nat.le_of_ble_eq_true rfl⟩ (GG_ok D cy) hG hS hFc hPc hDc (va_recv hK hP (ci := 3) (q0 := 4) rfl rfl) hl.1 rfl (Nat.le_of_ble_eq_true rfl) ⟨Nat.le_of_ble_eq_true rfl, Nat.le_of_ble_eq_true rfl⟩ dX5_carryOut_160) hFc hS (fun r_10 R_11 H1 locs1 hR_11 hP1 hD1 hS1 hk1 => ?_)
      have hR_11 : r_10 = P 8 (P 13 (ci * 4)) ∧ R_11 = (upr P 8 (ups (P 8) (P 13 (ci * 4)) (P 13 ((ci * 4) + 1)))) := hR_11
      obtain ⟨hr_10, rfl⟩ := hR_11
      have hr_10 : r_10 = P 8 (P 13 (ci * 4)) := hr_10
      subst hr_10
      have hDn : va_D (va_A (scplW cy a P) sz) (scplW cy a (upr P 8 (ups (P 8) (P 13 (ci * 4)) (P 13 ((ci * 4) + 1))))) := k_addr hD rfl
      have hPn := k_join (ws' := (scplW cy a (upr P 8 (ups (P 8) (P 13 (ci * 4)) (P 13 ((ci * 4) + 1)))))) hP hD [4, 5, 6, 7, 8, 9, 10, 11, 12] [none, none, none, none, some 0, some 1, some 2, some 3, some 4, some 5, some 6, some 7, some 8] rfl hk1 hP1 rfl rfl
      clear hP hD hS hP1 hD1 hk1
      have hP := hPn
      have hD := hDn
      have hS := hS1
      clear hPn hDn hS1
      generalize H1 = H at hP hS ⊢
      generalize locs1 = locs at hS ⊢
      have hfin : ag (efM M (P 12 ci) (nmC (P 13) ci)) (mO (((upr P 8 (ups (P 8) (P 13 (ci * 4)) (P 13 ((ci * 4) + 1))))))) := by rw [(fv_4 (M := M) (A := nmC (P 13) ci) hk4).2, hn4.1, hn4.2.1, mO_ups P _ (show P 13 (ci * 4) < 10 by omega)]; exact st_ag _ hIM hag (by omega)
      refine lv_pop hx hb dX5_carryOut_163 rfl ?_
      refine lv_goto (tgt := 194) hx hb dX5_carryOut_164 (by decide) ?_
      have hP : va_P D vwCl (scplW cy a (upr (upr (upr (upr (upr (upr (upr (upr (upr P 0 (P 0)) 1 (P 1)) 2 (P 2)) 3 (P 3)) 4 (P 4)) 5 (P 5)) 6 (P 6)) 7 (P 7)) 8 (ups (P 8) (P 13 (ci * 4)) (P 13 ((ci * 4) + 1))))) H := hP
      have hD : va_D (va_A (scplW cy a P) sz) (scplW cy a (upr (upr (upr (upr (upr (upr (upr (upr (upr P 0 (P 0)) 1 (P 1)) 2 (P 2)) 3 (P 3)) 4 (P 4)) 5 (P 5)) 6 (P 6)) 7 (P 7)) 8 (ups (P 8) (P 13 (ci * 4)) (P 13 ((ci * 4) + 1))))) := hD
      exact W.vret hx hb hr (fun t9 ht _ => ⟨⟨(upr (upr (upr (upr (upr (upr (upr (upr (upr P 0 (P 0)) 1 (P 1)) 2 (P 2)) 3 (P 3)) 4 (P 4)) 5 (P 5)) 6 (P 6)) 7 (P 7)) 8 (ups (P 8) (P 13 (ci * 4)) (P 13 ((ci * 4) + 1)))), rfl, (⟨((upr (upr (upr (upr (upr (upr (upr (upr (upr P 0 (P 0)) 1 (P 1)) 2 (P 2)) 3 (P 3)) 4 (P 4)) 5 (P 5)) 6 (P 6)) 7 (P 7)) 8 (ups (P 8) (P 13 (ci * 4)) (P 13 ((ci * 4) + 1))))), hfin, upr9 P _ (fun c9 h9 => by (repeat rw [upr_o _ _ (by omega)]))⟩ : ∃ (zP : Nat → Int → Int), (ag (efM M (P 12 ci) (nmC (P 13) ci)) (mO zP)) ∧ ((upr (upr (upr (upr (upr (upr (upr (upr (upr P 0 (P 0)) 1 (P 1)) 2 (P 2)) 3 (P 3)) 4 (P 4)) 5 (P 5)) 6 (P 6)) 7 (P 7)) 8 (ups (P 8) (P 13 (ci * 4)) (P 13 ((ci * 4) + 1)))) = (upr (upr (upr (upr (upr (upr (upr (upr (upr P 0 (zP 0)) 1 (zP 1)) 2 (zP 2)) 3 (zP 3)) 4 (zP 4)) 5 (zP 5)) 6 (zP 6)) 7 (zP 7)) 8 (zP 8)))), by rw [ht]; exact hP, hD⟩, hS.F ht⟩) hS.2.2 dX5_carryOut_194 hlocks
    · skip
      refine k_tin (tgt := 167) hx hb 5 c_1 (by decide) dX5_carryOut_10 (by decide) (by decide) rfl (by decide) ?_
      have hk5 : P 12 ci = 5 := by omega
      have hz := (fv_5 (M := mO P) (A := nmC (P 13) ci) hk5).1
      rw [hft2, hn4.1] at hz
      have hq := ft_y hz.symm
      have hzM := (fv_5 (M := M) (A := nmC (P 13) ci) hk5).1
      rw [hft, hn4.1] at hzM
      have hqM := ft_y hzM.symm
      refine lv_aload_n hx hb dX5_carryOut_167 rfl (lv_at hl 3 rfl) ?_
      refine k_iconst hx hb dX5_carryOut_168 ?_
      refine lv_aload_n hx hb dX5_carryOut_169 rfl (lv_at hl 1 rfl) ?_
      refine va_get (D := D) (ci := 4) (v := .ref (a 13)) (C := RX5) (T := TX5) (N := 6) hx hb hts hinX5 hown hK hP 0 rfl rfl 4 (by decide) hmw1 (fun _ h9 => h9) rfl dX5_carryOut_170 ?_
      refine lv_iload_n hx hb dX5_carryOut_173 rfl (lv_at hl 0 rfl) ?_
      refine k_iald hx hb hK hP 3 0 (f := P 13) rfl rfl (i := ci * 4) (by omega) dX5_carryOut_174 ?_
      refine k_ineg hx hb dX5_carryOut_175 ?_
      have hPc := hP.sub (ws' := (plW cy a P)) [4, 5, 6, 7, 8, 9, 10, 11, 12] rfl
      have hDc := hD.sub (ws' := (plW cy a P)) [4, 5, 6, 7, 8, 9, 10, 11, 12] (by decide) rfl
      have hFc := va_free (wc := (plW cy a P)) hD hS hA [4, 5, 6, 7, 8, 9, 10, 11, 12] rfl
      refine k_mui (k_runV (As := [.int (iI 0), .int (iI (-(P 13 (ci * 4))))]) (rest := []) ⟨hx, hb, hml, hown, hts⟩ (c_X4_putSetting l D cy H.size a P 0 (-(P 13 (ci * 4))) (show 0 ≤ 0 ∧ 0 ≤ 9 by omega)) gX5_carryOut_X4_putSetting rfl ⟨rfl, rfl⟩ 2 rfl (by decide +kernel) ⟨Nat.le_of_ble_eq_true rfl, Nat.le_of_ble_eq_true rfl⟩ (GG_ok D cy) hG hS hFc hPc hDc (va_recv hK hP (ci := 3) (q0 := 4) rfl rfl) hl.1 rfl (Nat.le_of_ble_eq_true rfl) ⟨Nat.le_of_ble_eq_true rfl, Nat.le_of_ble_eq_true rfl⟩ dX5_carryOut_176) hFc hS (fun r_12 R_13 H1 locs1 hR_13 hP1 hD1 hS1 hk1 => ?_)
      have hR_13 : r_12 = P 8 0 ∧ R_13 = (upr P 8 (ups (P 8) 0 (-(P 13 (ci * 4))))) := hR_13
      obtain ⟨hr_12, rfl⟩ := hR_13
      have hr_12 : r_12 = P 8 0 := hr_12
      subst hr_12
      have hDn : va_D (va_A (scplW cy a P) sz) (scplW cy a (upr P 8 (ups (P 8) 0 (-(P 13 (ci * 4)))))) := k_addr hD rfl
      have hPn := k_join (ws' := (scplW cy a (upr P 8 (ups (P 8) 0 (-(P 13 (ci * 4))))))) hP hD [4, 5, 6, 7, 8, 9, 10, 11, 12] [none, none, none, none, some 0, some 1, some 2, some 3, some 4, some 5, some 6, some 7, some 8] rfl hk1 hP1 rfl rfl
      clear hP hD hS hP1 hD1 hk1
      have hP := hPn
      have hD := hDn
      have hS := hS1
      clear hPn hDn hS1
      generalize H1 = H at hP hS ⊢
      generalize locs1 = locs at hS ⊢
      have hfin : ag (efM M (P 12 ci) (nmC (P 13) ci)) (mO (((upr P 8 (ups (P 8) 0 (-(P 13 (ci * 4)))))))) := by rw [(fv_5 (M := M) (A := nmC (P 13) ci) hk5).2, hn4.1, mO_ups P _ (show (0 : Int) < 10 by decide)]; exact st_ag _ hIM hag (by decide)
      refine lv_pop hx hb dX5_carryOut_179 rfl ?_
      refine lv_goto (tgt := 194) hx hb dX5_carryOut_180 (by decide) ?_
      have hP : va_P D vwCl (scplW cy a (upr (upr (upr (upr (upr (upr (upr (upr (upr P 0 (P 0)) 1 (P 1)) 2 (P 2)) 3 (P 3)) 4 (P 4)) 5 (P 5)) 6 (P 6)) 7 (P 7)) 8 (ups (P 8) 0 (-(P 13 (ci * 4)))))) H := hP
      have hD : va_D (va_A (scplW cy a P) sz) (scplW cy a (upr (upr (upr (upr (upr (upr (upr (upr (upr P 0 (P 0)) 1 (P 1)) 2 (P 2)) 3 (P 3)) 4 (P 4)) 5 (P 5)) 6 (P 6)) 7 (P 7)) 8 (ups (P 8) 0 (-(P 13 (ci * 4)))))) := hD
      exact W.vret hx hb hr (fun t9 ht _ => ⟨⟨(upr (upr (upr (upr (upr (upr (upr (upr (upr P 0 (P 0)) 1 (P 1)) 2 (P 2)) 3 (P 3)) 4 (P 4)) 5 (P 5)) 6 (P 6)) 7 (P 7)) 8 (ups (P 8) 0 (-(P 13 (ci * 4))))), rfl, (⟨((upr (upr (upr (upr (upr (upr (upr (upr (upr P 0 (P 0)) 1 (P 1)) 2 (P 2)) 3 (P 3)) 4 (P 4)) 5 (P 5)) 6 (P 6)) 7 (P 7)) 8 (ups (P 8) 0 (-(P 13 (ci * 4)))))), hfin, upr9 P _ (fun c9 h9 => by (repeat rw [upr_o _ _ (by omega)]))⟩ : ∃ (zP : Nat → Int → Int), (ag (efM M (P 12 ci) (nmC (P 13) ci)) (mO zP)) ∧ ((upr (upr (upr (upr (upr (upr (upr (upr (upr P 0 (P 0)) 1 (P 1)) 2 (P 2)) 3 (P 3)) 4 (P 4)) 5 (P 5)) 6 (P 6)) 7 (P 7)) 8 (ups (P 8) 0 (-(P 13 (ci * 4))))) = (upr (upr (upr (upr (upr (upr (upr (upr (upr P 0 (zP 0)) 1 (zP 1)) 2 (zP 2)) 3 (zP 3)) 4 (zP 4)) 5 (zP 5)) 6 (zP 6)) 7 (zP 7)) 8 (zP 8)))), by rw [ht]; exact hP, hD⟩, hS.F ht⟩) hS.2.2 dX5_carryOut_194 hlocks
    · skip
      refine k_tout (tgt := 183) hx hb (by omega) dX5_carryOut_10 c_1 (by decide) ?_
      have hk6 : P 12 ci = 6 := by omega
      have hz := (fv_6 (M := mO P) (A := nmC (P 13) ci) hk6).1
      rw [hft2, hn4.1] at hz
      have hq := ft_y hz.symm
      have hzM := (fv_6 (M := M) (A := nmC (P 13) ci) hk6).1
      rw [hft, hn4.1] at hzM
      have hqM := ft_y hzM.symm
      refine lv_aload_n hx hb dX5_carryOut_183 rfl (lv_at hl 3 rfl) ?_
      refine lv_aload_n hx hb dX5_carryOut_184 rfl (lv_at hl 1 rfl) ?_
      refine va_get (D := D) (ci := 4) (v := .ref (a 13)) (C := RX5) (T := TX5) (N := 6) hx hb hts hinX5 hown hK hP 0 rfl rfl 4 (by decide) hmw1 (fun _ h9 => h9) rfl dX5_carryOut_185 ?_
      refine lv_iload_n hx hb dX5_carryOut_188 rfl (lv_at hl 0 rfl) ?_
      refine k_iald hx hb hK hP 3 0 (f := P 13) rfl rfl (i := ci * 4) (by omega) dX5_carryOut_189 ?_
      have hPc := hP.sub (ws' := (plW cy a P)) [4, 5, 6, 7, 8, 9, 10, 11, 12] rfl
      have hDc := hD.sub (ws' := (plW cy a P)) [4, 5, 6, 7, 8, 9, 10, 11, 12] (by decide) rfl
      have hFc := va_free (wc := (plW cy a P)) hD hS hA [4, 5, 6, 7, 8, 9, 10, 11, 12] rfl
      refine k_mui (k_runV (As := [.int (iI (P 13 (ci * 4)))]) (rest := []) ⟨hx, hb, hml, hown, hts⟩ (c_X4_seekPole l D cy H.size a P (P 13 (ci * 4)) hI (show 1 ≤ (P 13 (ci * 4)) ∧ (P 13 (ci * 4)) ≤ 512 by omega)) gX5_carryOut_X4_seekPole rfl ⟨rfl, rfl⟩ 1 rfl (by decide +kernel) ⟨Nat.le_of_ble_eq_true rfl, Nat.le_of_ble_eq_true rfl⟩ (GG_ok D cy) hG hS hFc hPc hDc (va_recv hK hP (ci := 3) (q0 := 4) rfl rfl) hl.1 rfl (Nat.le_of_ble_eq_true rfl) ⟨Nat.le_of_ble_eq_true rfl, Nat.le_of_ble_eq_true rfl⟩ dX5_carryOut_190) hFc hS (fun r_14 R_15 H1 locs1 hR_15 hP1 hD1 hS1 hk1 => ?_)
      have hR_15 : ∃ (zx : Int) (zy : Int), ((srch (mO P) (P 13 (ci * 4))).1 = tPo (mO P) zx zy ∧ poleOK zx zy) ∧ (r_14 = (srch (mO P) (P 13 (ci * 4))).2) ∧ (R_15 = (upr P 0 (ups (ups (P 0) 2 zx) 3 zy))) := hR_15
      obtain ⟨zx_16, zy_17, hf_18, hr_14, hR_15⟩ := hR_15
      have hf_18 : (srch (mO P) (P 13 (ci * 4))).1 = tPo (mO P) zx_16 zy_17 ∧ poleOK zx_16 zy_17 := hf_18
      subst hR_15
      have hr_14 : r_14 = (srch (mO P) (P 13 (ci * 4))).2 := hr_14
      subst hr_14
      have hDn : va_D (va_A (scplW cy a P) sz) (scplW cy a (upr P 0 (ups (ups (P 0) 2 zx_16) 3 zy_17))) := k_addr hD rfl
      have hPn := k_join (ws' := (scplW cy a (upr P 0 (ups (ups (P 0) 2 zx_16) 3 zy_17)))) hP hD [4, 5, 6, 7, 8, 9, 10, 11, 12] [none, none, none, none, some 0, some 1, some 2, some 3, some 4, some 5, some 6, some 7, some 8] rfl hk1 hP1 rfl rfl
      clear hP hD hS hP1 hD1 hk1
      have hP := hPn
      have hD := hDn
      have hS := hS1
      clear hPn hDn hS1
      generalize H1 = H at hP hS ⊢
      generalize locs1 = locs at hS ⊢
      have hsk := hf_18
      have hfin : ag (efM M (P 12 ci) (nmC (P 13) ci)) (mO (((upr P 0 (ups (ups (P 0) 2 zx_16) 3 zy_17))))) := by rw [(fv_6 (M := M) (A := nmC (P 13) ci) hk6).2, hn4.1, mO_pole, ← hsk.1]; exact (srchA _ hIM hag).1.1
      refine lv_pop hx hb dX5_carryOut_193 rfl ?_
      have hP : va_P D vwCl (scplW cy a (upr (upr (upr (upr (upr (upr (upr (upr (upr P 0 (ups (ups (P 0) 2 zx_16) 3 zy_17)) 1 (P 1)) 2 (P 2)) 3 (P 3)) 4 (P 4)) 5 (P 5)) 6 (P 6)) 7 (P 7)) 8 (P 8))) H := hP
      have hD : va_D (va_A (scplW cy a P) sz) (scplW cy a (upr (upr (upr (upr (upr (upr (upr (upr (upr P 0 (ups (ups (P 0) 2 zx_16) 3 zy_17)) 1 (P 1)) 2 (P 2)) 3 (P 3)) 4 (P 4)) 5 (P 5)) 6 (P 6)) 7 (P 7)) 8 (P 8))) := hD
      exact W.vret hx hb hr (fun t9 ht _ => ⟨⟨(upr (upr (upr (upr (upr (upr (upr (upr (upr P 0 (ups (ups (P 0) 2 zx_16) 3 zy_17)) 1 (P 1)) 2 (P 2)) 3 (P 3)) 4 (P 4)) 5 (P 5)) 6 (P 6)) 7 (P 7)) 8 (P 8)), rfl, (⟨((upr (upr (upr (upr (upr (upr (upr (upr (upr P 0 (ups (ups (P 0) 2 zx_16) 3 zy_17)) 1 (P 1)) 2 (P 2)) 3 (P 3)) 4 (P 4)) 5 (P 5)) 6 (P 6)) 7 (P 7)) 8 (P 8))), hfin, upr9 P _ (fun c9 h9 => by (repeat rw [upr_o _ _ (by omega)]))⟩ : ∃ (zP : Nat → Int → Int), (ag (efM M (P 12 ci) (nmC (P 13) ci)) (mO zP)) ∧ ((upr (upr (upr (upr (upr (upr (upr (upr (upr P 0 (ups (ups (P 0) 2 zx_16) 3 zy_17)) 1 (P 1)) 2 (P 2)) 3 (P 3)) 4 (P 4)) 5 (P 5)) 6 (P 6)) 7 (P 7)) 8 (P 8)) = (upr (upr (upr (upr (upr (upr (upr (upr (upr P 0 (zP 0)) 1 (zP 1)) 2 (zP 2)) 3 (zP 3)) 4 (zP 4)) 5 (zP 5)) 6 (zP 6)) 7 (zP 7)) 8 (zP 8)))), by rw [ht]; exact hP, hD⟩, hS.F ht⟩) hS.2.2 dX5_carryOut_194 hlocks
  exact hbody s.heap [] hP hS ls hl
