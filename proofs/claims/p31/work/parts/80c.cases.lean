/-! more of the rounds, their end -/
set_option maxHeartbeats 8000000 in
set_option maxRecDepth 100000 in
theorem zc_set {p : Program} {l : Launch} {e : Env} {s : State} {m : MethodId} {below : List Frame} {meth : Method} {c : Code} {b L : Nat} {xs : Nat → Int32} {D : va_G} {cy : Nat → ClassId} {Q : State → Prop} {o : Nat} (C : zC p l s m c b L xs D cy) {i y : Int} {cells slots : Nat} (hk : zK p l e s m below meth c b D cy Q o i y (cells + 60) (slots + 360)) (hroom : cells + 60 ≤ 800000 ∧ slots + 360 ≤ 6000000) (M : Int → Int) (n : Int) (K : Nat → Int → Int) (x t w7 : Int)  (hry : -2147483648 ≤ y ∧ y ≤ 2147483647) (hrx : -2147483648 ≤ x ∧ x ≤ 2147483647) (h12 : 1 ≤ M 12) (H : Heap) (locs : List Loc) (hW : OW D cy (fun q : Nat => s.heap.size ≤ q) s.heap o M n K H locs) (ls : Array Slot) (hl : lv_has ls 15 [(8, .int (iI t)), (7, .int (iI w7)), (6, .int (iI (M 13))), (5, .int (iI (M 12))), (4, .int (iI y)), (3, .int (iI x)), (2, .int (iI i)), (1, .ref o), (0, .ref b)]) : W p l e room_1 s m #[Value.ref b] below meth c H locs cells slots Q (F0 m 817 ls []) := by
  obtain ⟨⟨hx, hb, hml, hown⟩, hts, ⟨hX, hbl, hL⟩, hGX, hst⟩ := id C
  have hA : ∀ q : Nat, s.heap.size ≤ q → (fun q : Nat => s.heap.size ≤ q) q := fun _ h => h
  have hI := hW.inv
  have hS12 := inv_S12 hI
  have hS0 := hI.1
  unfold InvS at hS0
  have hnn := hW.nn
  have hmw0 := hts (.constant RL 101 (360000)) (law_r1 _ (List.mem_of_getElem? (i := 4) rfl))
  have hmw1 := hts (.constant RL 152 (180001)) (law_r1 _ (List.mem_of_getElem? (i := 6) rfl))
  refine lv_iload_n hx hb dL_law_817 rfl (lv_at hl 5 rfl) ?_
  refine k_bipush hx hb dL_law_818 (by decide +kernel) ?_
  refine k_ishr hx hb dL_law_820 (by omega) (by omega) ?_
  refine k_bipush hx hb dL_law_821 (by decide +kernel) ?_
  refine k_roS (As := [.int (iI (x / 2 ^ (9 : Int).toNat)), .int (iI 10)]) (rest := []) ⟨hx, hb, hml, hown, hts⟩ (c_L_low l D (x / 2 ^ (9 : Int).toNat) 10 (by omega)) gL_law_L_low rfl ⟨rfl, rfl⟩ 2 rfl (by decide +kernel) ⟨Nat.le_of_ble_eq_true rfl, Nat.le_of_ble_eq_true rfl⟩ kGT_ok trivial (fun k q h => by simp at h) hl.1 rfl (Nat.le_of_ble_eq_true rfl) ⟨show cells ≤ 856056 by omega, show slots ≤ 6533457 by omega⟩ dL_law_823 (fun r_1 hr_1 => ?_)
  have hr_1 : r_1 = lwF (x / 2 ^ (9 : Int).toNat) 10 := hr_1
  subst hr_1
  have hlw1 := lw_bd (x / 2 ^ (9 : Int).toNat) (show 0 < (10 : Int) by omega)
  refine lv_istore (lv' := [(9, .int (iI (lwF (x / 2 ^ (9 : Int).toNat) 10))), (8, .int (iI t)), (7, .int (iI w7)), (6, .int (iI (M 13))), (5, .int (iI (M 12))), (4, .int (iI y)), (3, .int (iI x)), (2, .int (iI i)), (1, .ref o), (0, .ref b)]) hx hb dL_law_826 hl (by decide) rfl (fun ls hl => ?_)
  refine lv_iload hx hb dL_law_828 (lv_at hl 0 rfl) ?_
  have join981 : ∀ (z9 : Int) (ji0 : setOK (lwF (x / 2 ^ (9 : Int).toNat) 10) z9) (ji1 : -1000000 ≤ z9 ∧ z9 ≤ 1000000) (ls : Array Slot) (hl : lv_has ls 15 [(9, .int (iI (lwF (x / 2 ^ (9 : Int).toNat) 10))), (8, .int (iI t)), (7, .int (iI w7)), (6, .int (iI (M 13))), (5, .int (iI (M 12))), (4, .int (iI y)), (3, .int (iI x)), (2, .int (iI i)), (1, .ref o), (0, .ref b)]), W p l e room_1 s m #[Value.ref b] below meth c H locs cells slots Q (F0 m 981 ls [.int (iI z9)]) := by
    intro z9 ji0 ji1 ls hl
    have hwr := set_rg hI (show 0 ≤ lwF (x / 2 ^ (9 : Int).toNat) 10 ∧ lwF (x / 2 ^ (9 : Int).toNat) 10 ≤ 9 by omega)
    refine lv_istore (lv' := [(10, .int (iI z9)), (9, .int (iI (lwF (x / 2 ^ (9 : Int).toNat) 10))), (8, .int (iI t)), (7, .int (iI w7)), (6, .int (iI (M 13))), (5, .int (iI (M 12))), (4, .int (iI y)), (3, .int (iI x)), (2, .int (iI i)), (1, .ref o), (0, .ref b)]) hx hb dL_law_981 hl (by decide) rfl (fun ls hl => ?_)
    refine lv_aload_n hx hb dL_law_983 rfl (lv_at hl 9 rfl) ?_
    refine lv_iload hx hb dL_law_984 (lv_at hl 1 rfl) ?_
    refine q_call0 (As := [.int (iI (lwF (x / 2 ^ (9 : Int).toNat) 10))]) (rest := []) ⟨hx, hb, hml, hown, hts⟩ hGX hA (k_setting l D cy o M n K (lwF (x / 2 ^ (9 : Int).toNat) 10) (show 0 ≤ (lwF (x / 2 ^ (9 : Int).toNat) 10) ∧ (lwF (x / 2 ^ (9 : Int).toNat) 10) ≤ 9 from by omega)) gL_law_L_setting rfl ⟨rfl, rfl⟩ 2 rfl (by decide +kernel) ⟨Nat.le_of_ble_eq_true rfl, Nat.le_of_ble_eq_true rfl⟩ hW hl.1 rfl (Nat.le_of_ble_eq_true rfl) ⟨show cells ≤ 856056 by omega, show slots ≤ 6533457 by omega⟩ dL_law_986 (fun r_2 M_2 n_2 K_2 H locs hp hW => ?_)
    obtain ⟨rfl, rfl, rfl, rfl⟩ := hp
    refine lv_istore (lv' := [(11, .int (iI (M (lwF (x / 2 ^ (9 : Int).toNat) 10)))), (10, .int (iI z9)), (9, .int (iI (lwF (x / 2 ^ (9 : Int).toNat) 10))), (8, .int (iI t)), (7, .int (iI w7)), (6, .int (iI (M 13))), (5, .int (iI (M 12))), (4, .int (iI y)), (3, .int (iI x)), (2, .int (iI i)), (1, .ref o), (0, .ref b)]) hx hb dL_law_989 hl (by decide) rfl (fun ls hl => ?_)
    refine lv_aload_n hx hb dL_law_991 rfl (lv_at hl 10 rfl) ?_
    refine lv_iload hx hb dL_law_992 (lv_at hl 2 rfl) ?_
    refine lv_iload hx hb dL_law_994 (lv_at hl 1 rfl) ?_
    refine q_call0 (As := [.int (iI (lwF (x / 2 ^ (9 : Int).toNat) 10)), .int (iI z9)]) (rest := []) ⟨hx, hb, hml, hown, hts⟩ hGX hA (k_set l D cy o M n K (lwF (x / 2 ^ (9 : Int).toNat) 10) z9 (show -2147483648 ≤ (lwF (x / 2 ^ (9 : Int).toNat) 10) ∧ (lwF (x / 2 ^ (9 : Int).toNat) 10) ≤ 2147483647 from by omega) (show -2147483648 ≤ z9 ∧ z9 ≤ 2147483647 from by omega) (show setOK (lwF (x / 2 ^ (9 : Int).toNat) 10) z9 from ji0)) gL_law_L_set rfl ⟨rfl, rfl⟩ 3 rfl (by decide +kernel) ⟨Nat.le_of_ble_eq_true rfl, Nat.le_of_ble_eq_true rfl⟩ hW hl.1 rfl (Nat.le_of_ble_eq_true rfl) ⟨show cells ≤ 856056 by omega, show slots ≤ 6533457 by omega⟩ dL_law_996 (fun r_3 M_3 n_3 K_3 H locs hp hW => ?_)
    obtain ⟨rfl, hM3, rfl, rfl⟩ := hp
    have hkp3 := kp_spec n
    have hI3 := hW.inv
    have hla := set_law (show 0 ≤ lwF (x / 2 ^ (9 : Int).toNat) 10 ∧ lwF (x / 2 ^ (9 : Int).toNat) 10 ≤ 9 by omega) hM3
    refine lv_iload hx hb dL_law_999 (lv_at hl 0 rfl) ?_
    refine k_icmp_ne (tgt := 1015) hx hb dL_law_1001 (by decide) (by omega) (by omega) (fun c_4 => ?_) (fun c_4 => ?_)
    · exfalso; omega
    · skip
      refine lv_aload_n hx hb dL_law_1004 rfl (lv_at hl 10 rfl) ?_
      refine lv_iload hx hb dL_law_1005 (lv_at hl 2 rfl) ?_
      refine q_call0 (As := [.int (iI (lwF (x / 2 ^ (9 : Int).toNat) 10))]) (rest := []) ⟨hx, hb, hml, hown, hts⟩ hGX hA (ck_ans (k_setting l D cy o M_3 (kpN n) (csF M K) (lwF (x / 2 ^ (9 : Int).toNat) 10) (show 0 ≤ (lwF (x / 2 ^ (9 : Int).toNat) 10) ∧ (lwF (x / 2 ^ (9 : Int).toNat) 10) ≤ 9 from by omega)) (show M_3 (lwF (x / 2 ^ (9 : Int).toNat) 10) = z9 from hla.2)) gL_law_L_setting rfl ⟨rfl, rfl⟩ 2 rfl (by decide +kernel) ⟨Nat.le_of_ble_eq_true rfl, Nat.le_of_ble_eq_true rfl⟩ hW hl.1 rfl (Nat.le_of_ble_eq_true rfl) ⟨show cells ≤ 856056 by omega, show slots ≤ 6533457 by omega⟩ dL_law_1007 (fun r_5 M_5 n_5 K_5 H locs hp hW => ?_)
      obtain ⟨rfl, rfl, rfl, rfl⟩ := hp
      refine lv_iload hx hb dL_law_1010 (lv_at hl 1 rfl) ?_
      refine k_icmp_eq (tgt := 1017) hx hb dL_law_1012 (by decide) (by omega) (by omega) (fun c_6 => ?_) (fun c_6 => ?_)
      · skip
        refine lv_goto (tgt := 1141) hx hb dL_law_1017 (by decide) ?_
        exact hk M_3 (kpN n) (csF M K) cells slots (by omega) (by omega) H locs hW ls (lv_sub hl [7, 9, 10, 11] rfl)
      · exfalso; omega
  refine k_if_ne (tgt := 848) hx hb dL_law_830 (by decide) (by omega) (fun c_7 => ?_) (fun c_7 => ?_)
  · skip
    refine lv_iload hx hb dL_law_848 (lv_at hl 0 rfl) ?_
    refine k_iconst hx hb dL_law_850 ?_
    refine k_icmp_ge (tgt := 868) hx hb dL_law_851 (by decide) (by omega) (by omega) (fun c_8 => ?_) (fun c_8 => ?_)
    · skip
      refine lv_iload hx hb dL_law_868 (lv_at hl 0 rfl) ?_
      refine k_iconst hx hb dL_law_870 ?_
      refine k_icmp_ne (tgt := 885) hx hb dL_law_871 (by decide) (by omega) (by omega) (fun c_9 => ?_) (fun c_9 => ?_)
      · skip
        refine lv_iload hx hb dL_law_885 (lv_at hl 0 rfl) ?_
        refine k_iconst hx hb dL_law_887 ?_
        refine k_icmp_ne (tgt := 901) hx hb dL_law_888 (by decide) (by omega) (by omega) (fun c_10 => ?_) (fun c_10 => ?_)
        · skip
          refine lv_iload hx hb dL_law_901 (lv_at hl 0 rfl) ?_
          refine k_iconst hx hb dL_law_903 ?_
          refine k_icmp_ne (tgt := 918) hx hb dL_law_904 (by decide) (by omega) (by omega) (fun c_11 => ?_) (fun c_11 => ?_)
          · skip
            refine lv_iload hx hb dL_law_918 (lv_at hl 0 rfl) ?_
            refine k_bipush hx hb dL_law_920 (by decide +kernel) ?_
            refine k_icmp_ne (tgt := 937) hx hb dL_law_922 (by decide) (by omega) (by omega) (fun c_12 => ?_) (fun c_12 => ?_)
            · skip
              refine lv_iload hx hb dL_law_937 (lv_at hl 0 rfl) ?_
              refine k_bipush hx hb dL_law_939 (by decide +kernel) ?_
              refine k_icmp_ne (tgt := 957) hx hb dL_law_941 (by decide) (by omega) (by omega) (fun c_13 => ?_) (fun c_13 => ?_)
              · skip
                refine lv_iload hx hb dL_law_957 (lv_at hl 0 rfl) ?_
                refine k_bipush hx hb dL_law_959 (by decide +kernel) ?_
                refine k_icmp_ne (tgt := 974) hx hb dL_law_961 (by decide) (by omega) (by omega) (fun c_14 => ?_) (fun c_14 => ?_)
                · skip
                  refine lv_iload hx hb dL_law_974 (lv_at hl 5 rfl) ?_
                  refine k_bipush hx hb dL_law_976 (by decide +kernel) ?_
                  refine k_roS (As := [.int (iI y), .int (iI 10)]) (rest := []) ⟨hx, hb, hml, hown, hts⟩ (c_L_low l D y 10 (by omega)) gL_law_L_low rfl ⟨rfl, rfl⟩ 2 rfl (by decide +kernel) ⟨Nat.le_of_ble_eq_true rfl, Nat.le_of_ble_eq_true rfl⟩ kGT_ok trivial (fun k q h => by simp at h) hl.1 rfl (Nat.le_of_ble_eq_true rfl) ⟨show cells ≤ 856056 by omega, show slots ≤ 6533457 by omega⟩ dL_law_978 (fun r_15 hr_15 => ?_)
                  have hr_15 : r_15 = lwF y 10 := hr_15
                  subst hr_15
                  have hlw15 := lw_bd y (show 0 < (10 : Int) by omega)
                  exact join981 (lwF y 10) (setOK_of (by omega)) (by omega) ls (lv_sub hl [0, 1, 2, 3, 4, 5, 6, 7, 8, 9] rfl)
                · skip
                  refine lv_iload hx hb dL_law_964 (lv_at hl 5 rfl) ?_
                  refine k_ldc (z := 360000) hx hb hown hmw0 (by decide +kernel) dL_law_966 ?_
                  refine k_roS (As := [.int (iI y), .int (iI 360000)]) (rest := []) ⟨hx, hb, hml, hown, hts⟩ (c_L_low l D y 360000 (by omega)) gL_law_L_low rfl ⟨rfl, rfl⟩ 2 rfl (by decide +kernel) ⟨Nat.le_of_ble_eq_true rfl, Nat.le_of_ble_eq_true rfl⟩ kGT_ok trivial (fun k q h => by simp at h) hl.1 rfl (Nat.le_of_ble_eq_true rfl) ⟨show cells ≤ 856056 by omega, show slots ≤ 6533457 by omega⟩ dL_law_968 (fun r_16 hr_16 => ?_)
                  have hr_16 : r_16 = lwF y 360000 := hr_16
                  subst hr_16
                  have hlw16 := lw_bd y (show 0 < (360000 : Int) by omega)
                  refine lv_goto (tgt := 981) hx hb dL_law_971 (by decide) ?_
                  exact join981 (lwF y 360000) (setOK_of (by omega)) (by omega) ls (lv_sub hl [0, 1, 2, 3, 4, 5, 6, 7, 8, 9] rfl)
              · skip
                refine k_iconst hx hb dL_law_944 ?_
                refine lv_iload hx hb dL_law_945 (lv_at hl 5 rfl) ?_
                refine k_sipush hx hb dL_law_947 (by decide +kernel) ?_
                refine k_roS (As := [.int (iI y), .int (iI 3000)]) (rest := [.int (iI 1)]) ⟨hx, hb, hml, hown, hts⟩ (c_L_low l D y 3000 (by omega)) gL_law_L_low rfl ⟨rfl, rfl⟩ 2 rfl (by decide +kernel) ⟨Nat.le_of_ble_eq_true rfl, Nat.le_of_ble_eq_true rfl⟩ kGT_ok trivial (fun k q h => by simp at h) hl.1 rfl (Nat.le_of_ble_eq_true rfl) ⟨show cells ≤ 856056 by omega, show slots ≤ 6533457 by omega⟩ dL_law_950 (fun r_17 hr_17 => ?_)
                have hr_17 : r_17 = lwF y 3000 := hr_17
                subst hr_17
                have hlw17 := lw_bd y (show 0 < (3000 : Int) by omega)
                refine k_iadd hx hb dL_law_953 ?_
                refine lv_goto (tgt := 981) hx hb dL_law_954 (by decide) ?_
                exact join981 (1 + (lwF y 3000)) (setOK_of (by omega)) (by omega) ls (lv_sub hl [0, 1, 2, 3, 4, 5, 6, 7, 8, 9] rfl)
            · skip
              refine k_iconst hx hb dL_law_925 ?_
              refine lv_iload hx hb dL_law_926 (lv_at hl 5 rfl) ?_
              refine k_bipush hx hb dL_law_928 (by decide +kernel) ?_
              refine k_roS (As := [.int (iI y), .int (iI 50)]) (rest := [.int (iI 1)]) ⟨hx, hb, hml, hown, hts⟩ (c_L_low l D y 50 (by omega)) gL_law_L_low rfl ⟨rfl, rfl⟩ 2 rfl (by decide +kernel) ⟨Nat.le_of_ble_eq_true rfl, Nat.le_of_ble_eq_true rfl⟩ kGT_ok trivial (fun k q h => by simp at h) hl.1 rfl (Nat.le_of_ble_eq_true rfl) ⟨show cells ≤ 856056 by omega, show slots ≤ 6533457 by omega⟩ dL_law_930 (fun r_18 hr_18 => ?_)
              have hr_18 : r_18 = lwF y 50 := hr_18
              subst hr_18
              have hlw18 := lw_bd y (show 0 < (50 : Int) by omega)
              refine k_iadd hx hb dL_law_933 ?_
              refine lv_goto (tgt := 981) hx hb dL_law_934 (by decide) ?_
              exact join981 (1 + (lwF y 50)) (setOK_of (by omega)) (by omega) ls (lv_sub hl [0, 1, 2, 3, 4, 5, 6, 7, 8, 9] rfl)
          · skip
            refine lv_iload hx hb dL_law_907 (lv_at hl 5 rfl) ?_
            refine k_sipush hx hb dL_law_909 (by decide +kernel) ?_
            refine k_roS (As := [.int (iI y), .int (iI 5001)]) (rest := []) ⟨hx, hb, hml, hown, hts⟩ (c_L_low l D y 5001 (by omega)) gL_law_L_low rfl ⟨rfl, rfl⟩ 2 rfl (by decide +kernel) ⟨Nat.le_of_ble_eq_true rfl, Nat.le_of_ble_eq_true rfl⟩ kGT_ok trivial (fun k q h => by simp at h) hl.1 rfl (Nat.le_of_ble_eq_true rfl) ⟨show cells ≤ 856056 by omega, show slots ≤ 6533457 by omega⟩ dL_law_912 (fun r_19 hr_19 => ?_)
            have hr_19 : r_19 = lwF y 5001 := hr_19
            subst hr_19
            have hlw19 := lw_bd y (show 0 < (5001 : Int) by omega)
            refine lv_goto (tgt := 981) hx hb dL_law_915 (by decide) ?_
            exact join981 (lwF y 5001) (setOK_of (by omega)) (by omega) ls (lv_sub hl [0, 1, 2, 3, 4, 5, 6, 7, 8, 9] rfl)
        · skip
          refine lv_iload hx hb dL_law_891 (lv_at hl 5 rfl) ?_
          refine k_ldc (z := 180001) hx hb hown hmw1 (by decide +kernel) dL_law_893 ?_
          refine k_roS (As := [.int (iI y), .int (iI 180001)]) (rest := []) ⟨hx, hb, hml, hown, hts⟩ (c_L_low l D y 180001 (by omega)) gL_law_L_low rfl ⟨rfl, rfl⟩ 2 rfl (by decide +kernel) ⟨Nat.le_of_ble_eq_true rfl, Nat.le_of_ble_eq_true rfl⟩ kGT_ok trivial (fun k q h => by simp at h) hl.1 rfl (Nat.le_of_ble_eq_true rfl) ⟨show cells ≤ 856056 by omega, show slots ≤ 6533457 by omega⟩ dL_law_895 (fun r_20 hr_20 => ?_)
          have hr_20 : r_20 = lwF y 180001 := hr_20
          subst hr_20
          have hlw20 := lw_bd y (show 0 < (180001 : Int) by omega)
          refine lv_goto (tgt := 981) hx hb dL_law_898 (by decide) ?_
          exact join981 (lwF y 180001) (setOK_of (by omega)) (by omega) ls (lv_sub hl [0, 1, 2, 3, 4, 5, 6, 7, 8, 9] rfl)
      · skip
        refine lv_iload hx hb dL_law_874 (lv_at hl 5 rfl) ?_
        refine k_sipush hx hb dL_law_876 (by decide +kernel) ?_
        refine k_roS (As := [.int (iI y), .int (iI 400)]) (rest := []) ⟨hx, hb, hml, hown, hts⟩ (c_L_low l D y 400 (by omega)) gL_law_L_low rfl ⟨rfl, rfl⟩ 2 rfl (by decide +kernel) ⟨Nat.le_of_ble_eq_true rfl, Nat.le_of_ble_eq_true rfl⟩ kGT_ok trivial (fun k q h => by simp at h) hl.1 rfl (Nat.le_of_ble_eq_true rfl) ⟨show cells ≤ 856056 by omega, show slots ≤ 6533457 by omega⟩ dL_law_879 (fun r_21 hr_21 => ?_)
        have hr_21 : r_21 = lwF y 400 := hr_21
        subst hr_21
        have hlw21 := lw_bd y (show 0 < (400 : Int) by omega)
        refine lv_goto (tgt := 981) hx hb dL_law_882 (by decide) ?_
        exact join981 (lwF y 400) (setOK_of (by omega)) (by omega) ls (lv_sub hl [0, 1, 2, 3, 4, 5, 6, 7, 8, 9] rfl)
    · skip
      refine lv_iload hx hb dL_law_854 (lv_at hl 5 rfl) ?_
      refine k_sipush hx hb dL_law_856 (by decide +kernel) ?_
      refine k_roS (As := [.int (iI y), .int (iI 201)]) (rest := []) ⟨hx, hb, hml, hown, hts⟩ (c_L_low l D y 201 (by omega)) gL_law_L_low rfl ⟨rfl, rfl⟩ 2 rfl (by decide +kernel) ⟨Nat.le_of_ble_eq_true rfl, Nat.le_of_ble_eq_true rfl⟩ kGT_ok trivial (fun k q h => by simp at h) hl.1 rfl (Nat.le_of_ble_eq_true rfl) ⟨show cells ≤ 856056 by omega, show slots ≤ 6533457 by omega⟩ dL_law_859 (fun r_22 hr_22 => ?_)
      have hr_22 : r_22 = lwF y 201 := hr_22
      subst hr_22
      have hlw22 := lw_bd y (show 0 < (201 : Int) by omega)
      refine k_bipush hx hb dL_law_862 (by decide +kernel) ?_
      refine k_isub hx hb dL_law_864 ?_
      refine lv_goto (tgt := 981) hx hb dL_law_865 (by decide) ?_
      exact join981 ((lwF y 201) - 100) (setOK_of (by omega)) (by omega) ls (lv_sub hl [0, 1, 2, 3, 4, 5, 6, 7, 8, 9] rfl)
  · skip
    refine lv_iload hx hb dL_law_833 (lv_at hl 5 rfl) ?_
    refine k_sipush hx hb dL_law_835 (by decide +kernel) ?_
    refine k_roS (As := [.int (iI y), .int (iI 2001)]) (rest := []) ⟨hx, hb, hml, hown, hts⟩ (c_L_low l D y 2001 (by omega)) gL_law_L_low rfl ⟨rfl, rfl⟩ 2 rfl (by decide +kernel) ⟨Nat.le_of_ble_eq_true rfl, Nat.le_of_ble_eq_true rfl⟩ kGT_ok trivial (fun k q h => by simp at h) hl.1 rfl (Nat.le_of_ble_eq_true rfl) ⟨show cells ≤ 856056 by omega, show slots ≤ 6533457 by omega⟩ dL_law_838 (fun r_23 hr_23 => ?_)
    have hr_23 : r_23 = lwF y 2001 := hr_23
    subst hr_23
    have hlw23 := lw_bd y (show 0 < (2001 : Int) by omega)
    refine k_sipush hx hb dL_law_841 (by decide +kernel) ?_
    refine k_isub hx hb dL_law_844 ?_
    refine lv_goto (tgt := 981) hx hb dL_law_845 (by decide) ?_
    exact join981 ((lwF y 2001) - 600) (setOK_of (by omega)) (by omega) ls (lv_sub hl [0, 1, 2, 3, 4, 5, 6, 7, 8, 9] rfl)
set_option maxHeartbeats 8000000 in
set_option maxRecDepth 100000 in
theorem zc_setPole {p : Program} {l : Launch} {e : Env} {s : State} {m : MethodId} {below : List Frame} {meth : Method} {c : Code} {b L : Nat} {xs : Nat → Int32} {D : va_G} {cy : Nat → ClassId} {Q : State → Prop} {o : Nat} (C : zC p l s m c b L xs D cy) {i y : Int} {cells slots : Nat} (hk : zK p l e s m below meth c b D cy Q o i y (cells + 60) (slots + 360)) (hroom : cells + 60 ≤ 800000 ∧ slots + 360 ≤ 6000000) (M : Int → Int) (n : Int) (K : Nat → Int → Int) (x t w7 : Int)  (hry : -2147483648 ≤ y ∧ y ≤ 2147483647) (h12 : 1 ≤ M 12) (H : Heap) (locs : List Loc) (hW : OW D cy (fun q : Nat => s.heap.size ≤ q) s.heap o M n K H locs) (ls : Array Slot) (hl : lv_has ls 15 [(8, .int (iI t)), (7, .int (iI w7)), (6, .int (iI (M 13))), (5, .int (iI (M 12))), (4, .int (iI y)), (3, .int (iI x)), (2, .int (iI i)), (1, .ref o), (0, .ref b)]) : W p l e room_1 s m #[Value.ref b] below meth c H locs cells slots Q (F0 m 1027 ls []) := by
  obtain ⟨⟨hx, hb, hml, hown⟩, hts, ⟨hX, hbl, hL⟩, hGX, hst⟩ := id C
  have hA : ∀ q : Nat, s.heap.size ≤ q → (fun q : Nat => s.heap.size ≤ q) q := fun _ h => h
  have hI := hW.inv
  have hS12 := inv_S12 hI
  have hS0 := hI.1
  unfold InvS at hS0
  have hnn := hW.nn
  refine k_sipush hx hb dL_law_1027 (by decide +kernel) ?_
  refine lv_iload hx hb dL_law_1030 (lv_at hl 4 rfl) ?_
  refine k_sipush hx hb dL_law_1032 (by decide +kernel) ?_
  refine k_roS (As := [.int (iI y), .int (iI 400)]) (rest := [.int (iI 1800)]) ⟨hx, hb, hml, hown, hts⟩ (c_L_low l D y 400 (by omega)) gL_law_L_low rfl ⟨rfl, rfl⟩ 2 rfl (by decide +kernel) ⟨Nat.le_of_ble_eq_true rfl, Nat.le_of_ble_eq_true rfl⟩ kGT_ok trivial (fun k q h => by simp at h) hl.1 rfl (Nat.le_of_ble_eq_true rfl) ⟨show cells ≤ 856056 by omega, show slots ≤ 6533457 by omega⟩ dL_law_1035 (fun r_1 hr_1 => ?_)
  have hr_1 : r_1 = lwF y 400 := hr_1
  subst hr_1
  have hlw1 := lw_bd y (show 0 < (400 : Int) by omega)
  refine k_iadd hx hb dL_law_1038 ?_
  refine lv_istore (lv' := [(9, .int (iI (1800 + (lwF y 400)))), (8, .int (iI t)), (7, .int (iI w7)), (6, .int (iI (M 13))), (5, .int (iI (M 12))), (4, .int (iI y)), (3, .int (iI x)), (2, .int (iI i)), (1, .ref o), (0, .ref b)]) hx hb dL_law_1039 hl (by decide) rfl (fun ls hl => ?_)
  refine k_sipush hx hb dL_law_1041 (by decide +kernel) ?_
  refine lv_iload hx hb dL_law_1044 (lv_at hl 5 rfl) ?_
  refine k_bipush hx hb dL_law_1046 (by decide +kernel) ?_
  refine k_ishr hx hb dL_law_1048 (by omega) (by omega) ?_
  refine k_sipush hx hb dL_law_1049 (by decide +kernel) ?_
  refine k_roS (As := [.int (iI (y / 2 ^ (9 : Int).toNat)), .int (iI 400)]) (rest := [.int (iI 1800)]) ⟨hx, hb, hml, hown, hts⟩ (c_L_low l D (y / 2 ^ (9 : Int).toNat) 400 (by omega)) gL_law_L_low rfl ⟨rfl, rfl⟩ 2 rfl (by decide +kernel) ⟨Nat.le_of_ble_eq_true rfl, Nat.le_of_ble_eq_true rfl⟩ kGT_ok trivial (fun k q h => by simp at h) hl.1 rfl (Nat.le_of_ble_eq_true rfl) ⟨show cells ≤ 856056 by omega, show slots ≤ 6533457 by omega⟩ dL_law_1052 (fun r_2 hr_2 => ?_)
  have hr_2 : r_2 = lwF (y / 2 ^ (9 : Int).toNat) 400 := hr_2
  subst hr_2
  have hlw2 := lw_bd (y / 2 ^ (9 : Int).toNat) (show 0 < (400 : Int) by omega)
  refine k_iadd hx hb dL_law_1055 ?_
  refine lv_istore (lv' := [(10, .int (iI (1800 + (lwF (y / 2 ^ (9 : Int).toNat) 400)))), (9, .int (iI (1800 + (lwF y 400)))), (8, .int (iI t)), (7, .int (iI w7)), (6, .int (iI (M 13))), (5, .int (iI (M 12))), (4, .int (iI y)), (3, .int (iI x)), (2, .int (iI i)), (1, .ref o), (0, .ref b)]) hx hb dL_law_1056 hl (by decide) rfl (fun ls hl => ?_)
  refine lv_aload_n hx hb dL_law_1058 rfl (lv_at hl 9 rfl) ?_
  refine lv_iload hx hb dL_law_1059 (lv_at hl 1 rfl) ?_
  refine lv_iload hx hb dL_law_1061 (lv_at hl 0 rfl) ?_
  refine q_call0 (As := [.int (iI (1800 + (lwF y 400))), .int (iI (1800 + (lwF (y / 2 ^ (9 : Int).toNat) 400)))]) (rest := []) ⟨hx, hb, hml, hown, hts⟩ hGX hA (k_costAt l D cy o M n K (1800 + (lwF y 400)) (1800 + (lwF (y / 2 ^ (9 : Int).toNat) 400)) (show poleOK (1800 + (lwF y 400)) (1800 + (lwF (y / 2 ^ (9 : Int).toNat) 400)) from ⟨⟨by omega, by omega⟩, by omega, by omega⟩)) gL_law_L_costAt rfl ⟨rfl, rfl⟩ 3 rfl (by decide +kernel) ⟨Nat.le_of_ble_eq_true rfl, Nat.le_of_ble_eq_true rfl⟩ hW hl.1 rfl (Nat.le_of_ble_eq_true rfl) ⟨show cells ≤ 856056 by omega, show slots ≤ 6533457 by omega⟩ dL_law_1063 (fun r_3 M_3 n_3 K_3 H locs hp hW => ?_)
  obtain ⟨rfl, rfl, rfl, rfl⟩ := hp
  have hpc9 := inv_pcost (inv_tPo hI (show poleOK (1800 + lwF y 400) (1800 + lwF (y / 2 ^ (9 : Int).toNat) 400) from ⟨⟨by omega, by omega⟩, by omega, by omega⟩))
  refine lv_istore (lv' := [(11, .int (iI (pcost (tPo M (1800 + (lwF y 400)) (1800 + (lwF (y / 2 ^ (9 : Int).toNat) 400)))))), (10, .int (iI (1800 + (lwF (y / 2 ^ (9 : Int).toNat) 400)))), (9, .int (iI (1800 + (lwF y 400)))), (8, .int (iI t)), (7, .int (iI w7)), (6, .int (iI (M 13))), (5, .int (iI (M 12))), (4, .int (iI y)), (3, .int (iI x)), (2, .int (iI i)), (1, .ref o), (0, .ref b)]) hx hb dL_law_1066 hl (by decide) rfl (fun ls hl => ?_)
  refine lv_aload_n hx hb dL_law_1068 rfl (lv_at hl 10 rfl) ?_
  refine lv_iload hx hb dL_law_1069 (lv_at hl 2 rfl) ?_
  refine lv_iload hx hb dL_law_1071 (lv_at hl 1 rfl) ?_
  refine q_call0 (As := [.int (iI (1800 + (lwF y 400))), .int (iI (1800 + (lwF (y / 2 ^ (9 : Int).toNat) 400)))]) (rest := []) ⟨hx, hb, hml, hown, hts⟩ hGX hA (k_setPole l D cy o M n K (1800 + (lwF y 400)) (1800 + (lwF (y / 2 ^ (9 : Int).toNat) 400)) (show poleOK (1800 + (lwF y 400)) (1800 + (lwF (y / 2 ^ (9 : Int).toNat) 400)) from ⟨⟨by omega, by omega⟩, by omega, by omega⟩)) gL_law_L_setPole rfl ⟨rfl, rfl⟩ 3 rfl (by decide +kernel) ⟨Nat.le_of_ble_eq_true rfl, Nat.le_of_ble_eq_true rfl⟩ hW hl.1 rfl (Nat.le_of_ble_eq_true rfl) ⟨show cells ≤ 856056 by omega, show slots ≤ 6533457 by omega⟩ dL_law_1073 (fun r_4 M_4 n_4 K_4 H locs hp hW => ?_)
  obtain ⟨rfl, hM4, rfl, rfl⟩ := hp
  have hkp4 := kp_spec n
  have hI4 := hW.inv
  have hla := po_law hM4
  refine lv_iload hx hb dL_law_1076 (lv_at hl 0 rfl) ?_
  refine k_icmp_ne (tgt := 1111) hx hb dL_law_1078 (by decide) (by omega) (by omega) (fun c_5 => ?_) (fun c_5 => ?_)
  · exfalso; omega
  · skip
    refine lv_aload_n hx hb dL_law_1081 rfl (lv_at hl 10 rfl) ?_
    refine k_iconst hx hb dL_law_1082 ?_
    refine q_call0 (As := [.int (iI 4)]) (rest := []) ⟨hx, hb, hml, hown, hts⟩ hGX hA (ck_ans (k_whole l D cy o M_4 (kpN n) (csF M K) 4 (show 0 ≤ (4 : Int) ∧ (4 : Int) ≤ 10 from by omega)) (show whW M_4 (4 : Int) = pcost (tPo M (1800 + lwF y 400) (1800 + lwF (y / 2 ^ (9 : Int).toNat) 400)) from by rw [wh_4]; exact hla.2)) gL_law_L_whole rfl ⟨rfl, rfl⟩ 2 rfl (by decide +kernel) ⟨Nat.le_of_ble_eq_true rfl, Nat.le_of_ble_eq_true rfl⟩ hW hl.1 rfl (Nat.le_of_ble_eq_true rfl) ⟨show cells ≤ 856056 by omega, show slots ≤ 6533457 by omega⟩ dL_law_1083 (fun r_6 M_6 n_6 K_6 H locs hp hW => ?_)
    obtain ⟨rfl, rfl, rfl, rfl⟩ := hp
    refine lv_iload hx hb dL_law_1086 (lv_at hl 0 rfl) ?_
    refine k_icmp_ne (tgt := 1111) hx hb dL_law_1088 (by decide) (by omega) (by omega) (fun c_7 => ?_) (fun c_7 => ?_)
    · exfalso; omega
    · skip
      refine lv_aload_n hx hb dL_law_1091 rfl (lv_at hl 10 rfl) ?_
      refine k_iconst hx hb dL_law_1092 ?_
      refine q_call0 (As := [.int (iI 2)]) (rest := []) ⟨hx, hb, hml, hown, hts⟩ hGX hA (ck_ans (k_whole l D cy o M_4 (kpN n) (csF M K) 2 (show 0 ≤ (2 : Int) ∧ (2 : Int) ≤ 10 from by omega)) (show whW M_4 (2 : Int) = (1800 + lwF y 400) from by rw [wh_2]; exact hla.1.2.1)) gL_law_L_whole rfl ⟨rfl, rfl⟩ 2 rfl (by decide +kernel) ⟨Nat.le_of_ble_eq_true rfl, Nat.le_of_ble_eq_true rfl⟩ hW hl.1 rfl (Nat.le_of_ble_eq_true rfl) ⟨show cells ≤ 856056 by omega, show slots ≤ 6533457 by omega⟩ dL_law_1093 (fun r_8 M_8 n_8 K_8 H locs hp hW => ?_)
      obtain ⟨rfl, rfl, rfl, rfl⟩ := hp
      refine lv_iload hx hb dL_law_1096 (lv_at hl 2 rfl) ?_
      refine k_icmp_ne (tgt := 1111) hx hb dL_law_1098 (by decide) (by omega) (by omega) (fun c_9 => ?_) (fun c_9 => ?_)
      · exfalso; omega
      · skip
        refine lv_aload_n hx hb dL_law_1101 rfl (lv_at hl 10 rfl) ?_
        refine k_iconst hx hb dL_law_1102 ?_
        refine q_call0 (As := [.int (iI 3)]) (rest := []) ⟨hx, hb, hml, hown, hts⟩ hGX hA (ck_ans (k_whole l D cy o M_4 (kpN n) (csF M K) 3 (show 0 ≤ (3 : Int) ∧ (3 : Int) ≤ 10 from by omega)) (show whW M_4 (3 : Int) = (1800 + lwF (y / 2 ^ (9 : Int).toNat) 400) from by rw [wh_3]; exact hla.1.2.2)) gL_law_L_whole rfl ⟨rfl, rfl⟩ 2 rfl (by decide +kernel) ⟨Nat.le_of_ble_eq_true rfl, Nat.le_of_ble_eq_true rfl⟩ hW hl.1 rfl (Nat.le_of_ble_eq_true rfl) ⟨show cells ≤ 856056 by omega, show slots ≤ 6533457 by omega⟩ dL_law_1103 (fun r_10 M_10 n_10 K_10 H locs hp hW => ?_)
        obtain ⟨rfl, rfl, rfl, rfl⟩ := hp
        refine lv_iload hx hb dL_law_1106 (lv_at hl 1 rfl) ?_
        refine k_icmp_eq (tgt := 1113) hx hb dL_law_1108 (by decide) (by omega) (by omega) (fun c_11 => ?_) (fun c_11 => ?_)
        · skip
          refine lv_goto (tgt := 1141) hx hb dL_law_1113 (by decide) ?_
          exact hk M_4 (kpN n) (csF M K) cells slots (by omega) (by omega) H locs hW ls (lv_sub hl [7, 9, 10, 11] rfl)
        · exfalso; omega
set_option maxHeartbeats 8000000 in
set_option maxRecDepth 100000 in
theorem zc_searches {p : Program} {l : Launch} {e : Env} {s : State} {m : MethodId} {below : List Frame} {meth : Method} {c : Code} {b L : Nat} {xs : Nat → Int32} {D : va_G} {cy : Nat → ClassId} {Q : State → Prop} {o : Nat} (C : zC p l s m c b L xs D cy) {i y : Int} {cells slots : Nat} (hk : zK p l e s m below meth c b D cy Q o i y (cells + 60) (slots + 360)) (hroom : cells + 60 ≤ 800000 ∧ slots + 360 ≤ 6000000) (M : Int → Int) (n : Int) (K : Nat → Int → Int) (x t w7 : Int)  (hry : -2147483648 ≤ y ∧ y ≤ 2147483647) (h12 : 1 ≤ M 12) (H : Heap) (locs : List Loc) (hW : OW D cy (fun q : Nat => s.heap.size ≤ q) s.heap o M n K H locs) (ls : Array Slot) (hl : lv_has ls 15 [(8, .int (iI t)), (7, .int (iI w7)), (6, .int (iI (M 13))), (5, .int (iI (M 12))), (4, .int (iI y)), (3, .int (iI x)), (2, .int (iI i)), (1, .ref o), (0, .ref b)]) : W p l e room_1 s m #[Value.ref b] below meth c H locs cells slots Q (F0 m 1123 ls []) := by
  obtain ⟨⟨hx, hb, hml, hown⟩, hts, ⟨hX, hbl, hL⟩, hGX, hst⟩ := id C
  have hA : ∀ q : Nat, s.heap.size ≤ q → (fun q : Nat => s.heap.size ≤ q) q := fun _ h => h
  have hI := hW.inv
  have hS12 := inv_S12 hI
  have hS0 := hI.1
  unfold InvS at hS0
  have hnn := hW.nn
  refine lv_aload_n hx hb dL_law_1123 rfl (lv_at hl 7 rfl) ?_
  refine k_iconst hx hb dL_law_1124 ?_
  refine lv_iload hx hb dL_law_1125 (lv_at hl 4 rfl) ?_
  refine k_bipush hx hb dL_law_1127 (by decide +kernel) ?_
  refine k_roS (As := [.int (iI y), .int (iI 40)]) (rest := [.int (iI 1), .ref o]) ⟨hx, hb, hml, hown, hts⟩ (c_L_low l D y 40 (by omega)) gL_law_L_low rfl ⟨rfl, rfl⟩ 2 rfl (by decide +kernel) ⟨Nat.le_of_ble_eq_true rfl, Nat.le_of_ble_eq_true rfl⟩ kGT_ok trivial (fun k q h => by simp at h) hl.1 rfl (Nat.le_of_ble_eq_true rfl) ⟨show cells ≤ 856056 by omega, show slots ≤ 6533457 by omega⟩ dL_law_1129 (fun r_1 hr_1 => ?_)
  have hr_1 : r_1 = lwF y 40 := hr_1
  subst hr_1
  have hlw1 := lw_bd y (show 0 < (40 : Int) by omega)
  refine k_iadd hx hb dL_law_1132 ?_
  refine q_calls (As := [.int (iI (1 + (lwF y 40)))]) (rest := []) ⟨hx, hb, hml, hown, hts⟩ hGX hA (k_searches l hst D cy o M n K (1 + (lwF y 40)) (show 1 ≤ (1 + (lwF y 40)) ∧ (1 + (lwF y 40)) ≤ 512 from by omega)) glk_searches rfl ⟨rfl, rfl⟩ 2 rfl (by decide +kernel) ⟨Nat.le_of_ble_eq_true rfl, Nat.le_of_ble_eq_true rfl⟩ hW hl.1 rfl (Nat.le_of_ble_eq_true rfl) ⟨show cells + 9 ≤ 856056 by omega, show slots + 54 ≤ 6533457 by omega⟩ dL_law_1133 (fun r_2 M_2 n_2 K_2 H locs hp hW => ?_)
  have hp : 1 = r_2 ∧ (srch M (1 + (lwF y 40))).1 = M_2 := hp
  obtain ⟨rfl, hq⟩ := hp
  have hM2 := hq
  have hI2 := hW.inv
  have hnn2 := hW.nn
  have hla := sr_law hM2
  refine k_if_ne (tgt := 1141) hx hb dL_law_1136 (by decide) (by omega) (fun c_3 => ?_) (fun c_3 => ?_)
  · skip
    exact hk M_2 n_2 K_2 (cells + 9) (slots + 54) (by omega) (by omega) H locs hW ls (lv_sub hl [4, 6, 7, 8] rfl)
  · exfalso; omega
set_option maxHeartbeats 8000000 in
set_option maxRecDepth 100000 in
theorem zc_tail {p : Program} {l : Launch} {e : Env} {s : State} {m : MethodId} {below : List Frame} {meth : Method} {c : Code} {b L : Nat} {xs : Nat → Int32} {D : va_G} {cy : Nat → ClassId} {Q : State → Prop} {o : Nat} (C : zC p l s m c b L xs D cy) {i y : Int} {cells slots : Nat} (hnext : zN p l e s m below meth c b D cy Q o i (cells + 20) (slots + 120)) (hroom : cells + 20 ≤ 850000 ∧ slots + 120 ≤ 6500000) (M : Int → Int) (n : Int) (K : Nat → Int → Int)  (hry : -2147483648 ≤ y ∧ y ≤ 2147483647) (h12 : 1 ≤ M 12) (hi : 0 ≤ i ∧ i < 44) (H : Heap) (locs : List Loc) (hW : OW D cy (fun q : Nat => s.heap.size ≤ q) s.heap o M n K H locs) (ls : Array Slot) (hl : lv_has ls 15 [(4, .int (iI y)), (2, .int (iI i)), (1, .ref o), (0, .ref b)]) : W p l e room_1 s m #[Value.ref b] below meth c H locs cells slots Q (F0 m 1141 ls []) := by
  obtain ⟨⟨hx, hb, hml, hown⟩, hts, ⟨hX, hbl, hL⟩, hGX, hst⟩ := id C
  have hA : ∀ q : Nat, s.heap.size ≤ q → (fun q : Nat => s.heap.size ≤ q) q := fun _ h => h
  have hI := hW.inv
  have hS12 := inv_S12 hI
  have hS0 := hI.1
  unfold InvS at hS0
  have hnn := hW.nn
  refine lv_aload_n hx hb dL_law_1141 rfl (lv_at hl 2 rfl) ?_
  refine q_calls (As := []) (rest := []) ⟨hx, hb, hml, hown, hts⟩ hGX hA (k_trails l hst D cy o M n K ) glk_trails rfl ⟨rfl, rfl⟩ 1 rfl (by decide +kernel) ⟨Nat.le_of_ble_eq_true rfl, Nat.le_of_ble_eq_true rfl⟩ hW hl.1 rfl (Nat.le_of_ble_eq_true rfl) ⟨show cells + 12 ≤ 856056 by omega, show slots + 72 ≤ 6533457 by omega⟩ dL_law_1142 (fun r_1 M_1 n_1 K_1 H locs hp hW => ?_)
  have hp : 1 = r_1 ∧ M = M_1 ∧ n = n_1 ∧ K = K_1 := hp
  obtain ⟨rfl, hq⟩ := hp
  obtain ⟨rfl, rfl, rfl⟩ := hq
  refine k_if_eq (tgt := 1182) hx hb dL_law_1145 (by decide) (by omega) (fun c_2 => ?_) (fun c_2 => ?_)
  · exfalso; omega
  · skip
    refine lv_iload_n hx hb dL_law_1148 rfl (lv_at hl 1 rfl) ?_
    refine k_iconst hx hb dL_law_1149 ?_
    refine k_irem hx hb dL_law_1150 (by omega) (by omega) ?_
    refine k_iconst hx hb dL_law_1151 ?_
    refine k_icmp_ne (tgt := 1162) hx hb dL_law_1152 (by decide) (by omega) (by omega) (fun c_3 => ?_) (fun c_3 => ?_)
    · skip
      refine lv_iload_n hx hb dL_law_1162 rfl (lv_at hl 1 rfl) ?_
      refine k_bipush hx hb dL_law_1163 (by decide +kernel) ?_
      refine k_irem hx hb dL_law_1165 (by omega) (by omega) ?_
      refine k_bipush hx hb dL_law_1166 (by decide +kernel) ?_
      refine k_icmp_ne (tgt := 1184) hx hb dL_law_1168 (by decide) (by omega) (by omega) (fun c_4 => ?_) (fun c_4 => ?_)
      · skip
        refine lv_iinc (v := iI (i + 1)) (lv' := [(2, .int (iI (i + 1))), (4, .int (iI y)), (1, .ref o), (0, .ref b)]) hx hb dL_law_1184 hl (k := 1) rfl (iI_add _ _) (by decide) rfl (fun ls hl => ?_)
        refine lv_goto (tgt := 56) hx hb dL_law_1187 (by decide) ?_
        exact hnext M n K (cells + 12) (slots + 72) (by omega) (by omega) H locs hW ls (lv_sub hl [0, 2, 3] rfl)
      · skip
        refine lv_aload_n hx hb dL_law_1171 rfl (lv_at hl 2 rfl) ?_
        refine lv_iload hx hb dL_law_1172 (lv_at hl 0 rfl) ?_
        refine k_iconst hx hb dL_law_1174 ?_
        refine k_ishr hx hb dL_law_1175 (by omega) (by omega) ?_
        refine q_calls (As := [.int (iI (y / 2 ^ (5 : Int).toNat))]) (rest := []) ⟨hx, hb, hml, hown, hts⟩ hGX hA (k_thoughts l D cy o M n K (y / 2 ^ (5 : Int).toNat) ) glk_thoughts rfl ⟨rfl, rfl⟩ 2 rfl (by decide +kernel) ⟨Nat.le_of_ble_eq_true rfl, Nat.le_of_ble_eq_true rfl⟩ hW hl.1 rfl (Nat.le_of_ble_eq_true rfl) ⟨show cells + 12 ≤ 856056 by omega, show slots + 72 ≤ 6533457 by omega⟩ dL_law_1176 (fun r_5 M_5 n_5 K_5 H locs hp hW => ?_)
        have hp : 1 = r_5 ∧ M = M_5 := hp
        obtain ⟨rfl, hq⟩ := hp
        obtain rfl := hq
        have hnn5 := hW.nn
        refine k_if_ne (tgt := 1184) hx hb dL_law_1179 (by decide) (by omega) (fun c_6 => ?_) (fun c_6 => ?_)
        · skip
          refine lv_iinc (v := iI (i + 1)) (lv' := [(2, .int (iI (i + 1))), (4, .int (iI y)), (1, .ref o), (0, .ref b)]) hx hb dL_law_1184 hl (k := 1) rfl (iI_add _ _) (by decide) rfl (fun ls hl => ?_)
          refine lv_goto (tgt := 56) hx hb dL_law_1187 (by decide) ?_
          exact hnext M n_5 K_5 (cells + 12) (slots + 72) (by omega) (by omega) H locs hW ls (lv_sub hl [0, 2, 3] rfl)
        · exfalso; omega
    · skip
      refine lv_aload_n hx hb dL_law_1155 rfl (lv_at hl 2 rfl) ?_
      refine q_calls (As := []) (rest := []) ⟨hx, hb, hml, hown, hts⟩ hGX hA (k_matches l D cy o M n K ) glk_matches rfl ⟨rfl, rfl⟩ 1 rfl (by decide +kernel) ⟨Nat.le_of_ble_eq_true rfl, Nat.le_of_ble_eq_true rfl⟩ hW hl.1 rfl (Nat.le_of_ble_eq_true rfl) ⟨show cells + 12 ≤ 856056 by omega, show slots + 72 ≤ 6533457 by omega⟩ dL_law_1156 (fun r_7 M_7 n_7 K_7 H locs hp hW => ?_)
      have hp : 1 = r_7 ∧ M = M_7 ∧ n = n_7 ∧ K = K_7 := hp
      obtain ⟨rfl, hq⟩ := hp
      obtain ⟨rfl, rfl, rfl⟩ := hq
      refine k_if_eq (tgt := 1182) hx hb dL_law_1159 (by decide) (by omega) (fun c_8 => ?_) (fun c_8 => ?_)
      · exfalso; omega
      · skip
        refine lv_iload_n hx hb dL_law_1162 rfl (lv_at hl 1 rfl) ?_
        refine k_bipush hx hb dL_law_1163 (by decide +kernel) ?_
        refine k_irem hx hb dL_law_1165 (by omega) (by omega) ?_
        refine k_bipush hx hb dL_law_1166 (by decide +kernel) ?_
        refine k_icmp_ne (tgt := 1184) hx hb dL_law_1168 (by decide) (by omega) (by omega) (fun c_9 => ?_) (fun c_9 => ?_)
        · skip
          refine lv_iinc (v := iI (i + 1)) (lv' := [(2, .int (iI (i + 1))), (4, .int (iI y)), (1, .ref o), (0, .ref b)]) hx hb dL_law_1184 hl (k := 1) rfl (iI_add _ _) (by decide) rfl (fun ls hl => ?_)
          refine lv_goto (tgt := 56) hx hb dL_law_1187 (by decide) ?_
          exact hnext M n K (cells + 12) (slots + 72) (by omega) (by omega) H locs hW ls (lv_sub hl [0, 2, 3] rfl)
        · skip
          refine lv_aload_n hx hb dL_law_1171 rfl (lv_at hl 2 rfl) ?_
          refine lv_iload hx hb dL_law_1172 (lv_at hl 0 rfl) ?_
          refine k_iconst hx hb dL_law_1174 ?_
          refine k_ishr hx hb dL_law_1175 (by omega) (by omega) ?_
          refine q_calls (As := [.int (iI (y / 2 ^ (5 : Int).toNat))]) (rest := []) ⟨hx, hb, hml, hown, hts⟩ hGX hA (k_thoughts l D cy o M n K (y / 2 ^ (5 : Int).toNat) ) glk_thoughts rfl ⟨rfl, rfl⟩ 2 rfl (by decide +kernel) ⟨Nat.le_of_ble_eq_true rfl, Nat.le_of_ble_eq_true rfl⟩ hW hl.1 rfl (Nat.le_of_ble_eq_true rfl) ⟨show cells + 12 ≤ 856056 by omega, show slots + 72 ≤ 6533457 by omega⟩ dL_law_1176 (fun r_10 M_10 n_10 K_10 H locs hp hW => ?_)
          have hp : 1 = r_10 ∧ M = M_10 := hp
          obtain ⟨rfl, hq⟩ := hp
          obtain rfl := hq
          have hnn10 := hW.nn
          refine k_if_ne (tgt := 1184) hx hb dL_law_1179 (by decide) (by omega) (fun c_11 => ?_) (fun c_11 => ?_)
          · skip
            refine lv_iinc (v := iI (i + 1)) (lv' := [(2, .int (iI (i + 1))), (4, .int (iI y)), (1, .ref o), (0, .ref b)]) hx hb dL_law_1184 hl (k := 1) rfl (iI_add _ _) (by decide) rfl (fun ls hl => ?_)
            refine lv_goto (tgt := 56) hx hb dL_law_1187 (by decide) ?_
            exact hnext M n_10 K_10 (cells + 12) (slots + 72) (by omega) (by omega) H locs hW ls (lv_sub hl [0, 2, 3] rfl)
          · exfalso; omega
