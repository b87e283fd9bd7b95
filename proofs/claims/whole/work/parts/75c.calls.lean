/-! the law's calls -/
set_option maxHeartbeats 4000000 in
set_option maxRecDepth 100000 in
theorem zc_point {p : Program} {l : Launch} {e : Env} {s : State} {m : MethodId} {below : List Frame} {meth : Method} {c : Code} {b L : Nat} {xs : Nat → Int32} {D : va_G} {cy : Nat → ClassId} {Q : State → Prop} {H : Heap} {locs : List Loc} {cells slots : Nat} {ls : Array Slot} {a a2 : Nat → Nat} {o : Nat} {fo : Nat → Int64} {P R : Nat → Int → Int} (C : zC p l s m c b L xs D cy) {i : Int} (K : zK p l e s m below meth c b D cy Q i (cells + 1) (slots + 6)) (hi : 0 ≤ i ∧ i + 5 ≤ (L : Int)) (hroom : cells + 1 ≤ 600000 ∧ slots + 6 ≤ 7000000) (hR : Rl P R) (hP : va_P D vwCl (lawW cy a a2 o fo P R) H) (hD : va_D (fun q : Nat => s.heap.size ≤ q) (lawW cy a a2 o fo P R)) (hS : va_S (fun q : Nat => s.heap.size ≤ q) s.heap H locs) (hl : lv_has ls 7 [(0, .ref b), (1, .ref (a 100)), (2, .ref (a2 0)), (3, .ref o), (4, .int (iI i))]) : W p l e room_1 s m #[Value.ref b] below meth c H locs cells slots Q (F0 m 752 ls []) := by
  obtain ⟨⟨hx, hb, hml, hown⟩, hts, ⟨hX, hbl, hL⟩, hGX, hst⟩ := id C
  have hGG := hGX.1.1
  have hKk := hGG.1
  have hA : ∀ q : Nat, s.heap.size ≤ q → (fun q : Nat => s.heap.size ≤ q) q := fun _ h => h
  have hI := hR.inv
  have hIr := hR.1.1
  have hag := hR.1.2
  obtain ⟨h12, h13⟩ := rl_12 hR
  have h8 : R 1 8 = P 8 8 := rl_st hR (by decide) (by decide)
  have hsc := hR.2.1.1.2
  have h50 := hR.2.1.1.1
  have hsv : 0 ≤ P 50 1 ∧ P 50 1 ≤ 4 := ⟨by omega, by omega⟩
  have hS0 := po_S hI
  have hl0 := hR.2.2.2.2.1
  have hl1 := hR.2.2.2.2.2
  have htl := hR.2.2.1.1.2
  have h10 := hR.2.2.1.1.1
  have hroom0 : cells ≤ 600000 ∧ slots ≤ 7000000 := ⟨by omega, by omega⟩
  obtain ⟨t, e_t, hrt⟩ : ∃ z : Int, xs (i + 1).toNat = iI z ∧ -2147483648 ≤ z ∧ z ≤ 2147483647 := ⟨_, iI_of _, iI_rng _⟩
  obtain ⟨q, e_q, hrq⟩ : ∃ z : Int, xs (i + 2).toNat = iI z ∧ -2147483648 ≤ z ∧ z ≤ 2147483647 := ⟨_, iI_of _, iI_rng _⟩
  obtain ⟨w, e_w, hrw⟩ : ∃ z : Int, xs (i + 3).toNat = iI z ∧ -2147483648 ≤ z ∧ z ≤ 2147483647 := ⟨_, iI_of _, iI_rng _⟩
  have hmid : ∀ (k : Int) (a' : Nat → Nat) (f' : Nat → Int64) (P' : Nat → Int → Int) (H : Heap) (locs : List Loc) (cells' slots' : Nat), (0 ≤ k ∧ k ≤ 3) → a' 100 = a 100 → (∀ (r9 : Int) (R' : Nat → Int → Int), (((¬ ((0 ≤ t ∧ t < R 1 12) ∧ 0 ≤ q ∧ q < pts (R 1) t)) ∧ r9 = 0 ∧ R' = (upr R 0 (ups (R 0) 6 1))) ∨ ((((0 ≤ t ∧ t < R 1 12) ∧ 0 ≤ q ∧ q < pts (R 1) t) ∧ ¬ (0 ≤ w ∧ w ≤ 6)) ∧ r9 = 0 ∧ R' = (upr R 0 (ups (R 0) 6 2))) ∨ ((((0 ≤ t ∧ t < R 1 12) ∧ 0 ≤ q ∧ q < pts (R 1) t) ∧ (0 ≤ w ∧ w ≤ 6)) ∧ r9 = ptV (R 1) t q w ∧ R' = (upr R 0 (ups (R 0) 6 0)))) → (R' 0 6 = k ∧ (k = 0 → f' 0 = (iI r9).toInt64)) ∧ Rl P' R') → va_P D vwCl (lawW cy a' a2 o f' P' R) H → va_D (fun q : Nat => s.heap.size ≤ q) (lawW cy a' a2 o f' P' R) → va_S (fun q : Nat => s.heap.size ≤ q) s.heap H locs → (cells' ≤ cells + 1 ∧ slots' ≤ slots + 6) → W p l e room_1 s m #[Value.ref b] below meth c H locs cells' slots' Q (F0 m 775 ls [.int (iI k)]) := by
    intro k a' f' P' H locs cells' slots' hk3 ha hpost hP hD hS hcs
    have hroom9 : cells' ≤ 600000 ∧ slots' ≤ 7000000 := ⟨by omega, by omega⟩
    refine lv_istore (lv' := [(5, .int (iI k)), (0, .ref b), (1, .ref (a 100)), (2, .ref (a2 0)), (3, .ref o), (4, .int (iI i))]) hx hb dL_law_775 hl (by decide) rfl (fun ls hl => ?_)
    refine lv_aload_n hx hb dL_law_777 rfl (lv_at hl 3 rfl) ?_
    refine z_arg C hS dL_law_778 dL_law_779 dL_law_781 dL_law_782 dL_law_783 (k := 1) (by decide) hi (lv_at hl 1 rfl) (lv_at hl 5 rfl) e_t ?_
    refine z_arg C hS dL_law_784 dL_law_785 dL_law_787 dL_law_788 dL_law_789 (k := 2) (by decide) hi (lv_at hl 1 rfl) (lv_at hl 5 rfl) e_q ?_
    refine z_arg C hS dL_law_790 dL_law_791 dL_law_793 dL_law_794 dL_law_795 (k := 3) (by decide) hi (lv_at hl 1 rfl) (lv_at hl 5 rfl) e_w ?_
    refine zl_virt (As := [.int (iI t), .int (iI q), .int (iI w)]) (rest := []) (pb_rf (cy := cy) (a := a') (a2 := a2) (o := o) (f := f') (P := P') (R := R)) ⟨hx, hb, hml, hown, hts⟩ (c_X7_point l D cy H.size a2 R t q w hIr hrt hrq hrw) gL_law_X7_point rfl ⟨rfl, rfl⟩ 3 rfl (by decide +kernel) ⟨Nat.le_of_ble_eq_true rfl, Nat.le_of_ble_eq_true rfl⟩ (GG_ok D cy) hGG hA hP hD hS (va_recv hKk (pb_rw hP) (ci := 6) (q0 := 0) rfl rfl) hl.1 rfl (Nat.le_of_ble_eq_true rfl) (rm_0 hroom9) dL_law_796 (fun r9 R' H locs hq hP hD hS => ?_)
    have hq := hpost r9 R' hq
    rw [← ha] at hl
    exact z_tail C K dL_law_799 dL_law_801 dL_law_802 dL_law_805 dL_law_807 dL_law_812 dL_law_814 dL_law_817 dL_law_818 dL_law_819 dL_law_820 dL_law_822 dL_law_823 dL_law_824 dL_law_829 (by decide) hq.1.1 hk3 hq.1.2 hq.2 hP hD hS hl hcs hroom9
  refine lv_aload_n hx hb dL_law_752 rfl (lv_at hl 1 rfl) ?_
  refine z_arg C hS dL_law_753 dL_law_754 dL_law_756 dL_law_757 dL_law_758 (k := 1) (by decide) hi (lv_at hl 0 rfl) (lv_at hl 4 rfl) e_t ?_
  refine z_arg C hS dL_law_759 dL_law_760 dL_law_762 dL_law_763 dL_law_764 (k := 2) (by decide) hi (lv_at hl 0 rfl) (lv_at hl 4 rfl) e_q ?_
  refine z_arg C hS dL_law_765 dL_law_766 dL_law_768 dL_law_769 dL_law_770 (k := 3) (by decide) hi (lv_at hl 0 rfl) (lv_at hl 4 rfl) e_w ?_
  refine lv_aload_n hx hb dL_law_771 rfl (lv_at hl 3 rfl) ?_
  by_cases c1 : (0 ≤ t ∧ t < P 0 0) ∧ 0 ≤ q ∧ q < P 1 t
  · obtain ⟨⟨h0, h1⟩, h2, h3⟩ := c1
    have hpt := rl_pt hR h0 h1
    by_cases hw : 0 ≤ w ∧ w ≤ 6
    · skip
      refine zl_stat (As := [.ref (a 100), .int (iI t), .int (iI q), .int (iI w), .ref o]) (rest := []) (pb_pl (cy := cy) (a := a) (a2 := a2) (o := o) (f := fo) (P := P) (R := R)) ⟨hx, hb, hml, hown, hts⟩ (c_L_point l H.size o fo D cy a P t q w hI h0 h1 h2 h3 hw) gL_law_L_point rfl ⟨rfl, rfl⟩ 5 rfl (by decide +kernel) ⟨Nat.le_of_ble_eq_true rfl, Nat.le_of_ble_eq_true rfl⟩ (GG_ok D cy) hGG hA hP hD hS hl.1 rfl (Nat.le_of_ble_eq_true rfl) (rm_0 hroom0) dL_law_772 (fun r U9 H locs hpost hP hD hS => ?_)
      obtain ⟨hr0, v9, hv, hv2⟩ := hpost
      rw [hr0]
      refine hmid 0 a U9.2 P H locs _ _ (by decide) rfl (fun r9 R' hq => ?_) hP hD hS ⟨by omega, by omega⟩
      rcases hq with ⟨c9, e9, rfl⟩ | ⟨c9, e9, rfl⟩ | ⟨c9, e9, rfl⟩
      · exfalso
        omega
      · exfalso
        omega
      · exact ⟨⟨(rq_t R _).2, fun _ => ev9 hv (Eq.trans hv2 (by rw [e9, ptVA hag h0 c9.1.1.2 h2 c9.1.2.2 hw]))⟩, rl_q hR (rq_t R _).1 (objq_rfl hR)⟩
    · skip
      refine zl_stat (As := [.ref (a 100), .int (iI t), .int (iI q), .int (iI w), .ref o]) (rest := []) (pb_tp (cy := cy) (a := a) (a2 := a2) (o := o) (f := fo) (P := P) (R := R)) ⟨hx, hb, hml, hown, hts⟩ (c_L_point_t2 l hst H.size o D cy a P t q w hI h0 h1 h2 h3 hrw hw) gL_law_L_point rfl ⟨rfl, rfl⟩ 5 rfl (by decide +kernel) ⟨Nat.le_of_ble_eq_true rfl, Nat.le_of_ble_eq_true rfl⟩ (GX_ok D cy) hGX hA hP hD hS hl.1 rfl (Nat.le_of_ble_eq_true rfl) (rm_1 hroom0) dL_law_772 (fun r U9 H locs hpost hP hD hS => ?_)
      have hr0 : r = 2 := hpost
      rw [hr0]
      refine hmid 2 a fo P H locs _ _ (by decide) rfl (fun r9 R' hq => ?_) hP hD hS ⟨by omega, by omega⟩
      rcases hq with ⟨c9, e9, rfl⟩ | ⟨c9, e9, rfl⟩ | ⟨c9, e9, rfl⟩
      · exfalso
        omega
      · exact ⟨⟨(rq_t R _).2, fun h => absurd h (by decide)⟩, rl_q hR (rq_t R _).1 (objq_rfl hR)⟩
      · exfalso
        omega
  · skip
    refine zl_stat (As := [.ref (a 100), .int (iI t), .int (iI q), .int (iI w), .ref o]) (rest := []) (pb_tp (cy := cy) (a := a) (a2 := a2) (o := o) (f := fo) (P := P) (R := R)) ⟨hx, hb, hml, hown, hts⟩ (c_L_point_t1 l hst H.size o D cy a P t q w hI hrt hrq c1) gL_law_L_point rfl ⟨rfl, rfl⟩ 5 rfl (by decide +kernel) ⟨Nat.le_of_ble_eq_true rfl, Nat.le_of_ble_eq_true rfl⟩ (GX_ok D cy) hGX hA hP hD hS hl.1 rfl (Nat.le_of_ble_eq_true rfl) (rm_1 hroom0) dL_law_772 (fun r U9 H locs hpost hP hD hS => ?_)
    have hr0 : r = 1 := hpost
    rw [hr0]
    refine hmid 1 a fo P H locs _ _ (by decide) rfl (fun r9 R' hq => ?_) hP hD hS ⟨by omega, by omega⟩
    rcases hq with ⟨c9, e9, rfl⟩ | ⟨c9, e9, rfl⟩ | ⟨c9, e9, rfl⟩
    · exact ⟨⟨(rq_t R _).2, fun h => absurd h (by decide)⟩, rl_q hR (rq_t R _).1 (objq_rfl hR)⟩
    · exfalso
      have hpt := rl_pt hR c9.1.1.1 (by omega)
      omega
    · exfalso
      have hpt := rl_pt hR c9.1.1.1 (by omega)
      omega
set_option maxHeartbeats 4000000 in
set_option maxRecDepth 100000 in
theorem zc_trail {p : Program} {l : Launch} {e : Env} {s : State} {m : MethodId} {below : List Frame} {meth : Method} {c : Code} {b L : Nat} {xs : Nat → Int32} {D : va_G} {cy : Nat → ClassId} {Q : State → Prop} {H : Heap} {locs : List Loc} {cells slots : Nat} {ls : Array Slot} {a a2 : Nat → Nat} {o : Nat} {fo : Nat → Int64} {P R : Nat → Int → Int} (C : zC p l s m c b L xs D cy) {i : Int} (K : zK p l e s m below meth c b D cy Q i (cells + 1) (slots + 6)) (hi : 0 ≤ i ∧ i + 5 ≤ (L : Int)) (hroom : cells + 1 ≤ 600000 ∧ slots + 6 ≤ 7000000) (hR : Rl P R) (hP : va_P D vwCl (lawW cy a a2 o fo P R) H) (hD : va_D (fun q : Nat => s.heap.size ≤ q) (lawW cy a a2 o fo P R)) (hS : va_S (fun q : Nat => s.heap.size ≤ q) s.heap H locs) (hl : lv_has ls 7 [(0, .ref b), (1, .ref (a 100)), (2, .ref (a2 0)), (3, .ref o), (4, .int (iI i))]) : W p l e room_1 s m #[Value.ref b] below meth c H locs cells slots Q (F0 m 832 ls []) := by
  obtain ⟨⟨hx, hb, hml, hown⟩, hts, ⟨hX, hbl, hL⟩, hGX, hst⟩ := id C
  have hGG := hGX.1.1
  have hKk := hGG.1
  have hA : ∀ q : Nat, s.heap.size ≤ q → (fun q : Nat => s.heap.size ≤ q) q := fun _ h => h
  have hI := hR.inv
  have hIr := hR.1.1
  have hag := hR.1.2
  obtain ⟨h12, h13⟩ := rl_12 hR
  have h8 : R 1 8 = P 8 8 := rl_st hR (by decide) (by decide)
  have hsc := hR.2.1.1.2
  have h50 := hR.2.1.1.1
  have hsv : 0 ≤ P 50 1 ∧ P 50 1 ≤ 4 := ⟨by omega, by omega⟩
  have hS0 := po_S hI
  have hl0 := hR.2.2.2.2.1
  have hl1 := hR.2.2.2.2.2
  have htl := hR.2.2.1.1.2
  have h10 := hR.2.2.1.1.1
  have hroom0 : cells ≤ 600000 ∧ slots ≤ 7000000 := ⟨by omega, by omega⟩
  obtain ⟨t, e_t, hrt⟩ : ∃ z : Int, xs (i + 1).toNat = iI z ∧ -2147483648 ≤ z ∧ z ≤ 2147483647 := ⟨_, iI_of _, iI_rng _⟩
  obtain ⟨w, e_w, hrw⟩ : ∃ z : Int, xs (i + 2).toNat = iI z ∧ -2147483648 ≤ z ∧ z ≤ 2147483647 := ⟨_, iI_of _, iI_rng _⟩
  have hmid : ∀ (k : Int) (a' : Nat → Nat) (f' : Nat → Int64) (P' : Nat → Int → Int) (H : Heap) (locs : List Loc) (cells' slots' : Nat), (0 ≤ k ∧ k ≤ 3) → a' 100 = a 100 → (∀ (r9 : Int) (R' : Nat → Int → Int), (((¬ (0 ≤ t ∧ t < R 1 12)) ∧ r9 = 0 ∧ R' = (upr R 0 (ups (R 0) 6 1))) ∨ (((0 ≤ t ∧ t < R 1 12) ∧ ¬ (0 ≤ w ∧ w ≤ 8)) ∧ r9 = 0 ∧ R' = (upr R 0 (ups (R 0) 6 2))) ∨ (∃ (zs : Int → Int) (zt : Int → Int) (zq : Int → Int), ((0 ≤ t ∧ t < R 1 12) ∧ (0 ≤ w ∧ w ≤ 8)) ∧ r9 = trV (R 1) (mat (R 1) (R 1 8)).1 t w ∧ R' = (upr (upr (upr (upr R 0 (ups (ups (ups (R 0) 6 0) 13 (mat (R 1) (R 1 8)).2.2.1) 14 (mat (R 1) (R 1 8)).2.2.2)) 4 (zq)) 5 (zs)) 6 (zt)))) → (R' 0 6 = k ∧ (k = 0 → f' 0 = (iI r9).toInt64)) ∧ Rl P' R') → va_P D vwCl (lawW cy a' a2 o f' P' R) H → va_D (fun q : Nat => s.heap.size ≤ q) (lawW cy a' a2 o f' P' R) → va_S (fun q : Nat => s.heap.size ≤ q) s.heap H locs → (cells' ≤ cells + 1 ∧ slots' ≤ slots + 6) → W p l e room_1 s m #[Value.ref b] below meth c H locs cells' slots' Q (F0 m 849 ls [.int (iI k)]) := by
    intro k a' f' P' H locs cells' slots' hk3 ha hpost hP hD hS hcs
    have hroom9 : cells' ≤ 600000 ∧ slots' ≤ 7000000 := ⟨by omega, by omega⟩
    refine lv_istore (lv' := [(5, .int (iI k)), (0, .ref b), (1, .ref (a 100)), (2, .ref (a2 0)), (3, .ref o), (4, .int (iI i))]) hx hb dL_law_849 hl (by decide) rfl (fun ls hl => ?_)
    refine lv_aload_n hx hb dL_law_851 rfl (lv_at hl 3 rfl) ?_
    refine z_arg C hS dL_law_852 dL_law_853 dL_law_855 dL_law_856 dL_law_857 (k := 1) (by decide) hi (lv_at hl 1 rfl) (lv_at hl 5 rfl) e_t ?_
    refine z_arg C hS dL_law_858 dL_law_859 dL_law_861 dL_law_862 dL_law_863 (k := 2) (by decide) hi (lv_at hl 1 rfl) (lv_at hl 5 rfl) e_w ?_
    refine zl_virt (As := [.int (iI t), .int (iI w)]) (rest := []) (pb_rf (cy := cy) (a := a') (a2 := a2) (o := o) (f := f') (P := P') (R := R)) ⟨hx, hb, hml, hown, hts⟩ (c_X7_trail l D cy H.size a2 R t w hIr hrt hrw) gL_law_X7_trail rfl ⟨rfl, rfl⟩ 2 rfl (by decide +kernel) ⟨Nat.le_of_ble_eq_true rfl, Nat.le_of_ble_eq_true rfl⟩ (GG_ok D cy) hGG hA hP hD hS (va_recv hKk (pb_rw hP) (ci := 6) (q0 := 0) rfl rfl) hl.1 rfl (Nat.le_of_ble_eq_true rfl) (rm_0 hroom9) dL_law_864 (fun r9 R' H locs hq hP hD hS => ?_)
    have hq := hpost r9 R' hq
    rw [← ha] at hl
    exact z_tail C K dL_law_867 dL_law_869 dL_law_870 dL_law_873 dL_law_875 dL_law_880 dL_law_882 dL_law_885 dL_law_886 dL_law_887 dL_law_888 dL_law_890 dL_law_891 dL_law_892 dL_law_897 (by decide) hq.1.1 hk3 hq.1.2 hq.2 hP hD hS hl hcs hroom9
  refine lv_aload_n hx hb dL_law_832 rfl (lv_at hl 1 rfl) ?_
  refine z_arg C hS dL_law_833 dL_law_834 dL_law_836 dL_law_837 dL_law_838 (k := 1) (by decide) hi (lv_at hl 0 rfl) (lv_at hl 4 rfl) e_t ?_
  refine z_arg C hS dL_law_839 dL_law_840 dL_law_842 dL_law_843 dL_law_844 (k := 2) (by decide) hi (lv_at hl 0 rfl) (lv_at hl 4 rfl) e_w ?_
  refine lv_aload_n hx hb dL_law_845 rfl (lv_at hl 3 rfl) ?_
  by_cases c1 : 0 ≤ t ∧ t < P 0 0
  · obtain ⟨h0, h1⟩ := c1
    have hpt := rl_pt hR h0 h1
    have hp12 := po_pts hI h0 h1
    by_cases hw : 0 ≤ w ∧ w ≤ 8
    · skip
      refine zl_stat (As := [.ref (a 100), .int (iI t), .int (iI w), .ref o]) (rest := []) (pb_lk (cy := cy) (a := a) (a2 := a2) (o := o) (f := fo) (P := P) (R := R)) ⟨hx, hb, hml, hown, hts⟩ (c_L_trail l H.size o fo D cy a P t w hI hl0 hl1 h0 h1 hw) gL_law_L_trail rfl ⟨rfl, rfl⟩ 4 rfl (by decide +kernel) ⟨Nat.le_of_ble_eq_true rfl, Nat.le_of_ble_eq_true rfl⟩ (GG_ok D cy) hGG hA hP hD hS hl.1 rfl (Nat.le_of_ble_eq_true rfl) (rm_0 hroom0) dL_law_846 (fun r U9 H locs hpost hP hD hS => ?_)
      obtain ⟨hr0, v9, hv, zZ, hz, hv2, hu⟩ := hpost
      rw [hr0]
      have hu : U9.1 = lkU P zZ := hu
      have hoq : objq P (lkU P zZ) := oq_lkU hz
      refine hmid 0 a U9.2 (mixB inLk P U9.1) H locs _ _ (by decide) rfl (fun r9 R' hq => ?_) hP hD hS ⟨by omega, by omega⟩
      rw [hu, mx_lkU_inLk]
      rcases hq with ⟨c9, e9, rfl⟩ | ⟨c9, e9, rfl⟩ | ⟨z0, z1, z2, c9, e9, rfl⟩
      · exfalso
        omega
      · exfalso
        omega
      · exact ⟨⟨(rq_l R _ _ _ _ _).2, fun _ => ev9 hv (hv2.trans (by rw [e9, trVA _ hag h0 c9.1.2 (by omega), matA hag, h8]))⟩, rl_q hR (rq_l R _ _ _ _ _).1 hoq⟩
    · skip
      refine zl_stat (As := [.ref (a 100), .int (iI t), .int (iI w), .ref o]) (rest := []) (pb_tp (cy := cy) (a := a) (a2 := a2) (o := o) (f := fo) (P := P) (R := R)) ⟨hx, hb, hml, hown, hts⟩ (c_L_trail_t2 l hst H.size o D cy a P t w hI h0 h1 hrw hw) gL_law_L_trail rfl ⟨rfl, rfl⟩ 4 rfl (by decide +kernel) ⟨Nat.le_of_ble_eq_true rfl, Nat.le_of_ble_eq_true rfl⟩ (GX_ok D cy) hGX hA hP hD hS hl.1 rfl (Nat.le_of_ble_eq_true rfl) (rm_1 hroom0) dL_law_846 (fun r U9 H locs hpost hP hD hS => ?_)
      have hr0 : r = 2 := hpost
      rw [hr0]
      refine hmid 2 a fo P H locs _ _ (by decide) rfl (fun r9 R' hq => ?_) hP hD hS ⟨by omega, by omega⟩
      rcases hq with ⟨c9, e9, rfl⟩ | ⟨c9, e9, rfl⟩ | ⟨z0, z1, z2, c9, e9, rfl⟩
      · exfalso
        omega
      · exact ⟨⟨(rq_t R _).2, fun h => absurd h (by decide)⟩, rl_q hR (rq_t R _).1 (objq_rfl hR)⟩
      · exfalso
        omega
  · skip
    refine zl_stat (As := [.ref (a 100), .int (iI t), .int (iI w), .ref o]) (rest := []) (pb_tp (cy := cy) (a := a) (a2 := a2) (o := o) (f := fo) (P := P) (R := R)) ⟨hx, hb, hml, hown, hts⟩ (c_L_trail_t1 l hst H.size o D cy a P t w hI hrt c1) gL_law_L_trail rfl ⟨rfl, rfl⟩ 4 rfl (by decide +kernel) ⟨Nat.le_of_ble_eq_true rfl, Nat.le_of_ble_eq_true rfl⟩ (GX_ok D cy) hGX hA hP hD hS hl.1 rfl (Nat.le_of_ble_eq_true rfl) (rm_1 hroom0) dL_law_846 (fun r U9 H locs hpost hP hD hS => ?_)
    have hr0 : r = 1 := hpost
    rw [hr0]
    refine hmid 1 a fo P H locs _ _ (by decide) rfl (fun r9 R' hq => ?_) hP hD hS ⟨by omega, by omega⟩
    rcases hq with ⟨c9, e9, rfl⟩ | ⟨c9, e9, rfl⟩ | ⟨z0, z1, z2, c9, e9, rfl⟩
    · exact ⟨⟨(rq_t R _).2, fun h => absurd h (by decide)⟩, rl_q hR (rq_t R _).1 (objq_rfl hR)⟩
    · exfalso
      omega
    · exfalso
      omega
set_option maxHeartbeats 4000000 in
set_option maxRecDepth 100000 in
theorem zc_star {p : Program} {l : Launch} {e : Env} {s : State} {m : MethodId} {below : List Frame} {meth : Method} {c : Code} {b L : Nat} {xs : Nat → Int32} {D : va_G} {cy : Nat → ClassId} {Q : State → Prop} {H : Heap} {locs : List Loc} {cells slots : Nat} {ls : Array Slot} {a a2 : Nat → Nat} {o : Nat} {fo : Nat → Int64} {P R : Nat → Int → Int} (C : zC p l s m c b L xs D cy) {i : Int} (K : zK p l e s m below meth c b D cy Q i (cells + 1) (slots + 6)) (hi : 0 ≤ i ∧ i + 5 ≤ (L : Int)) (hroom : cells + 1 ≤ 600000 ∧ slots + 6 ≤ 7000000) (hR : Rl P R) (hP : va_P D vwCl (lawW cy a a2 o fo P R) H) (hD : va_D (fun q : Nat => s.heap.size ≤ q) (lawW cy a a2 o fo P R)) (hS : va_S (fun q : Nat => s.heap.size ≤ q) s.heap H locs) (hl : lv_has ls 7 [(0, .ref b), (1, .ref (a 100)), (2, .ref (a2 0)), (3, .ref o), (4, .int (iI i))]) : W p l e room_1 s m #[Value.ref b] below meth c H locs cells slots Q (F0 m 900 ls []) := by
  obtain ⟨⟨hx, hb, hml, hown⟩, hts, ⟨hX, hbl, hL⟩, hGX, hst⟩ := id C
  have hGG := hGX.1.1
  have hKk := hGG.1
  have hA : ∀ q : Nat, s.heap.size ≤ q → (fun q : Nat => s.heap.size ≤ q) q := fun _ h => h
  have hI := hR.inv
  have hIr := hR.1.1
  have hag := hR.1.2
  obtain ⟨h12, h13⟩ := rl_12 hR
  have h8 : R 1 8 = P 8 8 := rl_st hR (by decide) (by decide)
  have hsc := hR.2.1.1.2
  have h50 := hR.2.1.1.1
  have hsv : 0 ≤ P 50 1 ∧ P 50 1 ≤ 4 := ⟨by omega, by omega⟩
  have hS0 := po_S hI
  have hl0 := hR.2.2.2.2.1
  have hl1 := hR.2.2.2.2.2
  have htl := hR.2.2.1.1.2
  have h10 := hR.2.2.1.1.1
  have hroom0 : cells ≤ 600000 ∧ slots ≤ 7000000 := ⟨by omega, by omega⟩
  obtain ⟨u, e_u, hru⟩ : ∃ z : Int, xs (i + 1).toNat = iI z ∧ -2147483648 ≤ z ∧ z ≤ 2147483647 := ⟨_, iI_of _, iI_rng _⟩
  obtain ⟨w, e_w, hrw⟩ : ∃ z : Int, xs (i + 2).toNat = iI z ∧ -2147483648 ≤ z ∧ z ≤ 2147483647 := ⟨_, iI_of _, iI_rng _⟩
  have hmid : ∀ (k : Int) (a' : Nat → Nat) (f' : Nat → Int64) (P' : Nat → Int → Int) (H : Heap) (locs : List Loc) (cells' slots' : Nat), (0 ≤ k ∧ k ≤ 3) → a' 100 = a 100 → (∀ (r9 : Int) (R' : Nat → Int → Int), (((¬ (0 ≤ u ∧ u < R 1 13)) ∧ r9 = 0 ∧ R' = (upr R 0 (ups (R 0) 6 1))) ∨ (((0 ≤ u ∧ u < R 1 13) ∧ ¬ (0 ≤ w ∧ w ≤ 6)) ∧ r9 = 0 ∧ R' = (upr R 0 (ups (R 0) 6 2))) ∨ (∃ (zs : Int → Int) (zt : Int → Int) (zq : Int → Int), ((0 ≤ u ∧ u < R 1 13) ∧ (0 ≤ w ∧ w ≤ 6)) ∧ r9 = stW (R 1) u w ∧ R' = (upr (upr (upr (upr R 0 (ups (ups (ups (R 0) 6 0) 13 (mat (R 1) (R 1 8)).2.2.1) 14 (mat (R 1) (R 1 8)).2.2.2)) 4 (zq)) 5 (zs)) 6 (zt)))) → (R' 0 6 = k ∧ (k = 0 → f' 0 = (iI r9).toInt64)) ∧ Rl P' R') → va_P D vwCl (lawW cy a' a2 o f' P' R) H → va_D (fun q : Nat => s.heap.size ≤ q) (lawW cy a' a2 o f' P' R) → va_S (fun q : Nat => s.heap.size ≤ q) s.heap H locs → (cells' ≤ cells + 1 ∧ slots' ≤ slots + 6) → W p l e room_1 s m #[Value.ref b] below meth c H locs cells' slots' Q (F0 m 917 ls [.int (iI k)]) := by
    intro k a' f' P' H locs cells' slots' hk3 ha hpost hP hD hS hcs
    have hroom9 : cells' ≤ 600000 ∧ slots' ≤ 7000000 := ⟨by omega, by omega⟩
    refine lv_istore (lv' := [(5, .int (iI k)), (0, .ref b), (1, .ref (a 100)), (2, .ref (a2 0)), (3, .ref o), (4, .int (iI i))]) hx hb dL_law_917 hl (by decide) rfl (fun ls hl => ?_)
    refine lv_aload_n hx hb dL_law_919 rfl (lv_at hl 3 rfl) ?_
    refine z_arg C hS dL_law_920 dL_law_921 dL_law_923 dL_law_924 dL_law_925 (k := 1) (by decide) hi (lv_at hl 1 rfl) (lv_at hl 5 rfl) e_u ?_
    refine z_arg C hS dL_law_926 dL_law_927 dL_law_929 dL_law_930 dL_law_931 (k := 2) (by decide) hi (lv_at hl 1 rfl) (lv_at hl 5 rfl) e_w ?_
    refine zl_virt (As := [.int (iI u), .int (iI w)]) (rest := []) (pb_rf (cy := cy) (a := a') (a2 := a2) (o := o) (f := f') (P := P') (R := R)) ⟨hx, hb, hml, hown, hts⟩ (c_X7_star l D cy H.size a2 R u w hIr hru hrw) gL_law_X7_star rfl ⟨rfl, rfl⟩ 2 rfl (by decide +kernel) ⟨Nat.le_of_ble_eq_true rfl, Nat.le_of_ble_eq_true rfl⟩ (GG_ok D cy) hGG hA hP hD hS (va_recv hKk (pb_rw hP) (ci := 6) (q0 := 0) rfl rfl) hl.1 rfl (Nat.le_of_ble_eq_true rfl) (rm_0 hroom9) dL_law_932 (fun r9 R' H locs hq hP hD hS => ?_)
    have hq := hpost r9 R' hq
    rw [← ha] at hl
    exact z_tail C K dL_law_935 dL_law_937 dL_law_938 dL_law_941 dL_law_943 dL_law_948 dL_law_950 dL_law_953 dL_law_954 dL_law_955 dL_law_956 dL_law_958 dL_law_959 dL_law_960 dL_law_965 (by decide) hq.1.1 hk3 hq.1.2 hq.2 hP hD hS hl hcs hroom9
  refine lv_aload_n hx hb dL_law_900 rfl (lv_at hl 1 rfl) ?_
  refine z_arg C hS dL_law_901 dL_law_902 dL_law_904 dL_law_905 dL_law_906 (k := 1) (by decide) hi (lv_at hl 0 rfl) (lv_at hl 4 rfl) e_u ?_
  refine z_arg C hS dL_law_907 dL_law_908 dL_law_910 dL_law_911 dL_law_912 (k := 2) (by decide) hi (lv_at hl 0 rfl) (lv_at hl 4 rfl) e_w ?_
  refine lv_aload_n hx hb dL_law_913 rfl (lv_at hl 3 rfl) ?_
  by_cases c1 : 0 ≤ u ∧ u < P 0 1
  · obtain ⟨h0, h1⟩ := c1
    by_cases hw : 0 ≤ w ∧ w ≤ 6
    · skip
      refine zl_stat (As := [.ref (a 100), .int (iI u), .int (iI w), .ref o]) (rest := []) (pb_lk (cy := cy) (a := a) (a2 := a2) (o := o) (f := fo) (P := P) (R := R)) ⟨hx, hb, hml, hown, hts⟩ (c_L_star l H.size o fo D cy a P u w hI hl0 hl1 h0 h1 hw) gL_law_L_star rfl ⟨rfl, rfl⟩ 4 rfl (by decide +kernel) ⟨Nat.le_of_ble_eq_true rfl, Nat.le_of_ble_eq_true rfl⟩ (GG_ok D cy) hGG hA hP hD hS hl.1 rfl (Nat.le_of_ble_eq_true rfl) (rm_0 hroom0) dL_law_914 (fun r U9 H locs hpost hP hD hS => ?_)
      obtain ⟨hr0, v9, hv, zZ, hz, hv2, hu⟩ := hpost
      rw [hr0]
      have hu : U9.1 = lkU P zZ := hu
      have hoq : objq P (lkU P zZ) := oq_lkU hz
      refine hmid 0 a U9.2 (mixB inLk P U9.1) H locs _ _ (by decide) rfl (fun r9 R' hq => ?_) hP hD hS ⟨by omega, by omega⟩
      rw [hu, mx_lkU_inLk]
      rcases hq with ⟨c9, e9, rfl⟩ | ⟨c9, e9, rfl⟩ | ⟨z0, z1, z2, c9, e9, rfl⟩
      · exfalso
        omega
      · exfalso
        omega
      · exact ⟨⟨(rq_l R _ _ _ _ _).2, fun _ => ev9 hv (hv2.trans (by rw [e9, stWA hag hIr h0 c9.1.2 hw]))⟩, rl_q hR (rq_l R _ _ _ _ _).1 hoq⟩
    · skip
      refine zl_stat (As := [.ref (a 100), .int (iI u), .int (iI w), .ref o]) (rest := []) (pb_tp (cy := cy) (a := a) (a2 := a2) (o := o) (f := fo) (P := P) (R := R)) ⟨hx, hb, hml, hown, hts⟩ (c_L_star_t2 l hst H.size o D cy a P u w hI h0 h1 hrw hw) gL_law_L_star rfl ⟨rfl, rfl⟩ 4 rfl (by decide +kernel) ⟨Nat.le_of_ble_eq_true rfl, Nat.le_of_ble_eq_true rfl⟩ (GX_ok D cy) hGX hA hP hD hS hl.1 rfl (Nat.le_of_ble_eq_true rfl) (rm_1 hroom0) dL_law_914 (fun r U9 H locs hpost hP hD hS => ?_)
      have hr0 : r = 2 := hpost
      rw [hr0]
      refine hmid 2 a fo P H locs _ _ (by decide) rfl (fun r9 R' hq => ?_) hP hD hS ⟨by omega, by omega⟩
      rcases hq with ⟨c9, e9, rfl⟩ | ⟨c9, e9, rfl⟩ | ⟨z0, z1, z2, c9, e9, rfl⟩
      · exfalso
        omega
      · exact ⟨⟨(rq_t R _).2, fun h => absurd h (by decide)⟩, rl_q hR (rq_t R _).1 (objq_rfl hR)⟩
      · exfalso
        omega
  · skip
    refine zl_stat (As := [.ref (a 100), .int (iI u), .int (iI w), .ref o]) (rest := []) (pb_tp (cy := cy) (a := a) (a2 := a2) (o := o) (f := fo) (P := P) (R := R)) ⟨hx, hb, hml, hown, hts⟩ (c_L_star_t1 l hst H.size o D cy a P u w hI hru c1) gL_law_L_star rfl ⟨rfl, rfl⟩ 4 rfl (by decide +kernel) ⟨Nat.le_of_ble_eq_true rfl, Nat.le_of_ble_eq_true rfl⟩ (GX_ok D cy) hGX hA hP hD hS hl.1 rfl (Nat.le_of_ble_eq_true rfl) (rm_1 hroom0) dL_law_914 (fun r U9 H locs hpost hP hD hS => ?_)
    have hr0 : r = 1 := hpost
    rw [hr0]
    refine hmid 1 a fo P H locs _ _ (by decide) rfl (fun r9 R' hq => ?_) hP hD hS ⟨by omega, by omega⟩
    rcases hq with ⟨c9, e9, rfl⟩ | ⟨c9, e9, rfl⟩ | ⟨z0, z1, z2, c9, e9, rfl⟩
    · exact ⟨⟨(rq_t R _).2, fun h => absurd h (by decide)⟩, rl_q hR (rq_t R _).1 (objq_rfl hR)⟩
    · exfalso
      omega
    · exfalso
      omega
set_option maxHeartbeats 4000000 in
set_option maxRecDepth 100000 in
theorem zc_starAngle {p : Program} {l : Launch} {e : Env} {s : State} {m : MethodId} {below : List Frame} {meth : Method} {c : Code} {b L : Nat} {xs : Nat → Int32} {D : va_G} {cy : Nat → ClassId} {Q : State → Prop} {H : Heap} {locs : List Loc} {cells slots : Nat} {ls : Array Slot} {a a2 : Nat → Nat} {o : Nat} {fo : Nat → Int64} {P R : Nat → Int → Int} (C : zC p l s m c b L xs D cy) {i : Int} (K : zK p l e s m below meth c b D cy Q i (cells + 1) (slots + 6)) (hi : 0 ≤ i ∧ i + 5 ≤ (L : Int)) (hroom : cells + 1 ≤ 600000 ∧ slots + 6 ≤ 7000000) (hR : Rl P R) (hP : va_P D vwCl (lawW cy a a2 o fo P R) H) (hD : va_D (fun q : Nat => s.heap.size ≤ q) (lawW cy a a2 o fo P R)) (hS : va_S (fun q : Nat => s.heap.size ≤ q) s.heap H locs) (hl : lv_has ls 7 [(0, .ref b), (1, .ref (a 100)), (2, .ref (a2 0)), (3, .ref o), (4, .int (iI i))]) : W p l e room_1 s m #[Value.ref b] below meth c H locs cells slots Q (F0 m 968 ls []) := by
  obtain ⟨⟨hx, hb, hml, hown⟩, hts, ⟨hX, hbl, hL⟩, hGX, hst⟩ := id C
  have hGG := hGX.1.1
  have hKk := hGG.1
  have hA : ∀ q : Nat, s.heap.size ≤ q → (fun q : Nat => s.heap.size ≤ q) q := fun _ h => h
  have hI := hR.inv
  have hIr := hR.1.1
  have hag := hR.1.2
  obtain ⟨h12, h13⟩ := rl_12 hR
  have h8 : R 1 8 = P 8 8 := rl_st hR (by decide) (by decide)
  have hsc := hR.2.1.1.2
  have h50 := hR.2.1.1.1
  have hsv : 0 ≤ P 50 1 ∧ P 50 1 ≤ 4 := ⟨by omega, by omega⟩
  have hS0 := po_S hI
  have hl0 := hR.2.2.2.2.1
  have hl1 := hR.2.2.2.2.2
  have htl := hR.2.2.1.1.2
  have h10 := hR.2.2.1.1.1
  have hroom0 : cells ≤ 600000 ∧ slots ≤ 7000000 := ⟨by omega, by omega⟩
  obtain ⟨u, e_u, hru⟩ : ∃ z : Int, xs (i + 1).toNat = iI z ∧ -2147483648 ≤ z ∧ z ≤ 2147483647 := ⟨_, iI_of _, iI_rng _⟩
  obtain ⟨f, e_f, hrf⟩ : ∃ z : Int, xs (i + 2).toNat = iI z ∧ -2147483648 ≤ z ∧ z ≤ 2147483647 := ⟨_, iI_of _, iI_rng _⟩
  have hmid : ∀ (k : Int) (a' : Nat → Nat) (f' : Nat → Int64) (P' : Nat → Int → Int) (H : Heap) (locs : List Loc) (cells' slots' : Nat), (0 ≤ k ∧ k ≤ 3) → a' 100 = a 100 → (∀ (r9 : Int) (R' : Nat → Int → Int), (((¬ (0 ≤ u ∧ u < R 1 13)) ∧ r9 = 0 ∧ R' = (upr R 0 (ups (R 0) 6 1))) ∨ (((0 ≤ u ∧ u < R 1 13) ∧ ¬ (0 ≤ f ∧ f ≤ 1000)) ∧ r9 = 0 ∧ R' = (upr R 0 (ups (R 0) 6 2))) ∨ (((0 ≤ u ∧ u < R 1 13) ∧ (0 ≤ f ∧ f ≤ 1000)) ∧ r9 = stAng (R 1) (R 1 8) u f ∧ R' = (upr R 0 (ups (R 0) 6 0)))) → (R' 0 6 = k ∧ (k = 0 → f' 0 = (iI r9).toInt64)) ∧ Rl P' R') → va_P D vwCl (lawW cy a' a2 o f' P' R) H → va_D (fun q : Nat => s.heap.size ≤ q) (lawW cy a' a2 o f' P' R) → va_S (fun q : Nat => s.heap.size ≤ q) s.heap H locs → (cells' ≤ cells + 1 ∧ slots' ≤ slots + 6) → W p l e room_1 s m #[Value.ref b] below meth c H locs cells' slots' Q (F0 m 985 ls [.int (iI k)]) := by
    intro k a' f' P' H locs cells' slots' hk3 ha hpost hP hD hS hcs
    have hroom9 : cells' ≤ 600000 ∧ slots' ≤ 7000000 := ⟨by omega, by omega⟩
    refine lv_istore (lv' := [(5, .int (iI k)), (0, .ref b), (1, .ref (a 100)), (2, .ref (a2 0)), (3, .ref o), (4, .int (iI i))]) hx hb dL_law_985 hl (by decide) rfl (fun ls hl => ?_)
    refine lv_aload_n hx hb dL_law_987 rfl (lv_at hl 3 rfl) ?_
    refine z_arg C hS dL_law_988 dL_law_989 dL_law_991 dL_law_992 dL_law_993 (k := 1) (by decide) hi (lv_at hl 1 rfl) (lv_at hl 5 rfl) e_u ?_
    refine z_arg C hS dL_law_994 dL_law_995 dL_law_997 dL_law_998 dL_law_999 (k := 2) (by decide) hi (lv_at hl 1 rfl) (lv_at hl 5 rfl) e_f ?_
    refine zl_virt (As := [.int (iI u), .int (iI f)]) (rest := []) (pb_rf (cy := cy) (a := a') (a2 := a2) (o := o) (f := f') (P := P') (R := R)) ⟨hx, hb, hml, hown, hts⟩ (c_X7_starAngle l D cy H.size a2 R u f hIr hru hrf) gL_law_X7_starAngle rfl ⟨rfl, rfl⟩ 2 rfl (by decide +kernel) ⟨Nat.le_of_ble_eq_true rfl, Nat.le_of_ble_eq_true rfl⟩ (GG_ok D cy) hGG hA hP hD hS (va_recv hKk (pb_rw hP) (ci := 6) (q0 := 0) rfl rfl) hl.1 rfl (Nat.le_of_ble_eq_true rfl) (rm_0 hroom9) dL_law_1000 (fun r9 R' H locs hq hP hD hS => ?_)
    have hq := hpost r9 R' hq
    rw [← ha] at hl
    exact z_tail C K dL_law_1003 dL_law_1005 dL_law_1006 dL_law_1009 dL_law_1011 dL_law_1016 dL_law_1018 dL_law_1021 dL_law_1022 dL_law_1023 dL_law_1024 dL_law_1026 dL_law_1027 dL_law_1028 dL_law_1033 (by decide) hq.1.1 hk3 hq.1.2 hq.2 hP hD hS hl hcs hroom9
  refine lv_aload_n hx hb dL_law_968 rfl (lv_at hl 1 rfl) ?_
  refine z_arg C hS dL_law_969 dL_law_970 dL_law_972 dL_law_973 dL_law_974 (k := 1) (by decide) hi (lv_at hl 0 rfl) (lv_at hl 4 rfl) e_u ?_
  refine z_arg C hS dL_law_975 dL_law_976 dL_law_978 dL_law_979 dL_law_980 (k := 2) (by decide) hi (lv_at hl 0 rfl) (lv_at hl 4 rfl) e_f ?_
  refine lv_aload_n hx hb dL_law_981 rfl (lv_at hl 3 rfl) ?_
  by_cases c1 : 0 ≤ u ∧ u < P 0 1
  · obtain ⟨h0, h1⟩ := c1
    by_cases hf9 : 0 ≤ f ∧ f ≤ 1000
    · skip
      refine zl_stat (As := [.ref (a 100), .int (iI u), .int (iI f), .ref o]) (rest := []) (pb_pl (cy := cy) (a := a) (a2 := a2) (o := o) (f := fo) (P := P) (R := R)) ⟨hx, hb, hml, hown, hts⟩ (c_L_starAngle l H.size o fo D cy a P u f hI h0 h1 hf9) gL_law_L_starAngle rfl ⟨rfl, rfl⟩ 4 rfl (by decide +kernel) ⟨Nat.le_of_ble_eq_true rfl, Nat.le_of_ble_eq_true rfl⟩ (GG_ok D cy) hGG hA hP hD hS hl.1 rfl (Nat.le_of_ble_eq_true rfl) (rm_0 hroom0) dL_law_982 (fun r U9 H locs hpost hP hD hS => ?_)
      obtain ⟨hr0, v9, hv, hv2⟩ := hpost
      rw [hr0]
      refine hmid 0 a U9.2 P H locs _ _ (by decide) rfl (fun r9 R' hq => ?_) hP hD hS ⟨by omega, by omega⟩
      rcases hq with ⟨c9, e9, rfl⟩ | ⟨c9, e9, rfl⟩ | ⟨c9, e9, rfl⟩
      · exfalso
        omega
      · exfalso
        omega
      · exact ⟨⟨(rq_t R _).2, fun _ => ev9 hv (Eq.trans hv2 (by rw [e9, staA hag (R 1 8) f h0 c9.1.2, h8]))⟩, rl_q hR (rq_t R _).1 (objq_rfl hR)⟩
    · skip
      refine zl_stat (As := [.ref (a 100), .int (iI u), .int (iI f), .ref o]) (rest := []) (pb_tp (cy := cy) (a := a) (a2 := a2) (o := o) (f := fo) (P := P) (R := R)) ⟨hx, hb, hml, hown, hts⟩ (c_L_starAngle_t2 l hst H.size o D cy a P u f hI h0 h1 hrf hf9) gL_law_L_starAngle rfl ⟨rfl, rfl⟩ 4 rfl (by decide +kernel) ⟨Nat.le_of_ble_eq_true rfl, Nat.le_of_ble_eq_true rfl⟩ (GX_ok D cy) hGX hA hP hD hS hl.1 rfl (Nat.le_of_ble_eq_true rfl) (rm_1 hroom0) dL_law_982 (fun r U9 H locs hpost hP hD hS => ?_)
      have hr0 : r = 2 := hpost
      rw [hr0]
      refine hmid 2 a fo P H locs _ _ (by decide) rfl (fun r9 R' hq => ?_) hP hD hS ⟨by omega, by omega⟩
      rcases hq with ⟨c9, e9, rfl⟩ | ⟨c9, e9, rfl⟩ | ⟨c9, e9, rfl⟩
      · exfalso
        omega
      · exact ⟨⟨(rq_t R _).2, fun h => absurd h (by decide)⟩, rl_q hR (rq_t R _).1 (objq_rfl hR)⟩
      · exfalso
        omega
  · skip
    refine zl_stat (As := [.ref (a 100), .int (iI u), .int (iI f), .ref o]) (rest := []) (pb_tp (cy := cy) (a := a) (a2 := a2) (o := o) (f := fo) (P := P) (R := R)) ⟨hx, hb, hml, hown, hts⟩ (c_L_starAngle_t1 l hst H.size o D cy a P u f hI hru c1) gL_law_L_starAngle rfl ⟨rfl, rfl⟩ 4 rfl (by decide +kernel) ⟨Nat.le_of_ble_eq_true rfl, Nat.le_of_ble_eq_true rfl⟩ (GX_ok D cy) hGX hA hP hD hS hl.1 rfl (Nat.le_of_ble_eq_true rfl) (rm_1 hroom0) dL_law_982 (fun r U9 H locs hpost hP hD hS => ?_)
    have hr0 : r = 1 := hpost
    rw [hr0]
    refine hmid 1 a fo P H locs _ _ (by decide) rfl (fun r9 R' hq => ?_) hP hD hS ⟨by omega, by omega⟩
    rcases hq with ⟨c9, e9, rfl⟩ | ⟨c9, e9, rfl⟩ | ⟨c9, e9, rfl⟩
    · exact ⟨⟨(rq_t R _).2, fun h => absurd h (by decide)⟩, rl_q hR (rq_t R _).1 (objq_rfl hR)⟩
    · exfalso
      omega
    · exfalso
      omega
