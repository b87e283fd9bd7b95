theorem ap_ag2 {M M' : Int → Int} {t f x y : Int} (hI : Inv M) (ha : ag M M') (h0 : 0 ≤ t) (h1 : t < M 12) (h3 : pts M t < 12) (hf : ¬ hasF M t f) : ag (tAP M t f x y) (tAP M' t f x y) := by
  have hI' := inv_A ha hI
  have e := ag_12 ha
  have ep := ptA ha h0 h1
  have hp := inv_pts hI h0 h1
  have eo := posA ha h0 h1 hp.1 f
  have hf' : ¬ hasF M' t f := fun q => hf ((hasA ha h0 h1 f).mpr q)
  have h1' : t < M' 12 := by rw [← e.1]; exact h1
  obtain ⟨e1, e2⟩ := ap_hd x y hI h0 h1 hf
  obtain ⟨f1, f2⟩ := ap_hd x y hI' h0 h1' hf'
  refine near_ag ha (ap_near x y hI h0 h1 h3 hf) (ap_near x y hI' h0 h1' (by rw [← ep]; exact h3) hf') (fun k a b => by rw [e1 k a b, f1 k a b]; exact ha.1 k a b) (fun k a b c => ?_) (fun u a b c => absurd c id)
  subst c
  refine ⟨by rw [e2, f2, ep], fun p p0 p1 => ?_⟩
  rw [e2] at p1
  have sp := posF_sp hI h0 h1 hf
  rcases ap_pt3 (x := x) (y := y) hI h0 h1 hf p0 (by omega) with ⟨z, g1, g2, g3⟩ | ⟨z, g1, g2, g3⟩ | ⟨z, g1, g2, g3⟩
  · rcases ap_pt3 (x := x) (y := y) hI' h0 h1' hf' p0 (by omega) with ⟨w, k1, k2, k3⟩ | ⟨w, k1, k2, k3⟩ | ⟨w, k1, k2, k3⟩
    · rw [g1, g2, g3, k1, k2, k3]
      exact (ha.2.1 k h0 h1).2 p p0 (by omega)
    · omega
    · omega
  · rcases ap_pt3 (x := x) (y := y) hI' h0 h1' hf' p0 (by omega) with ⟨w, k1, k2, k3⟩ | ⟨w, k1, k2, k3⟩ | ⟨w, k1, k2, k3⟩
    · omega
    · rw [g1, g2, g3, k1, k2, k3]
      exact ⟨rfl, rfl, rfl⟩
    · omega
  · rcases ap_pt3 (x := x) (y := y) hI' h0 h1' hf' p0 (by omega) with ⟨w, k1, k2, k3⟩ | ⟨w, k1, k2, k3⟩ | ⟨w, k1, k2, k3⟩
    · omega
    · omega
    · rw [g1, g2, g3, k1, k2, k3]
      exact (ha.2.1 k h0 h1).2 (p - 1) (by omega) (by omega)
theorem efA {M M' : Int → Int} {k : Int} {A : Int → Int} (hI : Inv M) (ha : ag M M') (hk : 0 ≤ k ∧ k ≤ 6) (h : ftV M k A = 0) : ag (efM M k A) (efM M' k A) := by
  rcases ftV_01 M A hk with ⟨q, e, g⟩ | ⟨q, e, g⟩ | ⟨q, e, g⟩ | ⟨q, e, g⟩ | ⟨q, e, g⟩ | ⟨q, e, g⟩ | ⟨q, e, g⟩ <;> rw [e] at h <;> rw [g]
  · rw [(fv_0 q).2]
    exact at_ag2 hI ha (ft0_y hI h)
  · rw [(fv_1 q).2]
    have w := ftP_y2 hI h
    exact ap_ag2 hI ha w.1.1.1 w.1.1.2 w.2.1 w.2.2
  · rw [(fv_2 q).2]
    exact as_ag2 hI ha
  · rw [(fv_3 q).2]
    exact po_ag _ _ hI ha
  · rw [(fv_4 q).2]
    have w := ft_y h
    unfold setOK at w
    exact st_ag _ hI ha (by omega)
  · rw [(fv_5 q).2]
    exact st_ag _ hI ha (by decide)
  · rw [(fv_6 q).2]
    exact (srchA _ hI ha).1.1
/-- the commands on alike plates, whatever stood in the numbers -/
theorem rcA {T : Int → Int} {n : Int} : ∀ (f : Nat) (q : Int) (M M' A A' : Int → Int) (c : Int), q ≤ n → Inv M → ag M M' → ((rcN T n f q M A c).1 = (rcN T n f q M' A' c).1 ∧ (rcN T n f q M A c).2.1 = (rcN T n f q M' A' c).2.1) ∧ ag (rcN T n f q M A c).2.2 (rcN T n f q M' A' c).2.2 ∧ Inv (rcN T n f q M A c).2.2
  | 0, q, M, M', A, A', c, _, hI, ha => ⟨⟨rfl, rfl⟩, ha, hI⟩
  | f + 1, q, M, M', A, A', c, hq, hI, ha => by
    have b := (prsC_bd T A hq).2 A'
    unfold rcN
    by_cases z : q < n ∧ (prsC T n q A).1 = 1
    · rw [if_pos z, if_pos (show q < n ∧ (prsC T n q A').1 = 1 from ⟨z.1, b.1.trans z.2⟩)]
      obtain ⟨x, k, B, e⟩ : ∃ (x k : Int) (B : Int → Int), prsC T n q A = (1, x, k, B) := ⟨_, _, _, Prod.ext z.2 rfl⟩
      obtain ⟨B', e', hB⟩ := prsC_un A' hq e
      have hb := prsC_b1 hq e
      have fc := fe_cong M ⟨hb.2.2.1, hb.2.2.2⟩ hB
      have fc2 := fe_cong M' ⟨hb.2.2.1, hb.2.2.2⟩ hB
      have fa := ftA B ha (k := k) ⟨hb.2.2.1, hb.2.2.2⟩
      have hs := skp_le (T := T) hb.2.1
      rw [e, e']
      show ((if ftV M k B = 0 then _ else _ : Int × Int × (Int → Int)).1 = (if ftV M' k B' = 0 then _ else _ : Int × Int × (Int → Int)).1 ∧ (if ftV M k B = 0 then _ else _ : Int × Int × (Int → Int)).2.1 = (if ftV M' k B' = 0 then _ else _ : Int × Int × (Int → Int)).2.1) ∧ ag (if ftV M k B = 0 then _ else _ : Int × Int × (Int → Int)).2.2 (if ftV M' k B' = 0 then _ else _ : Int × Int × (Int → Int)).2.2 ∧ Inv (if ftV M k B = 0 then _ else _ : Int × Int × (Int → Int)).2.2
      rw [← fc2.1, ← fa, ← fc2.2]
      by_cases y : ftV M k B = 0
      · rw [if_pos y, if_pos y]
        exact rcA f _ _ _ B B' (c + 1) hs.2 (ef_inv hI ⟨hb.2.2.1, hb.2.2.2⟩ y) (efA hI ha ⟨hb.2.2.1, hb.2.2.2⟩ y)
      · rw [if_neg y, if_neg y]
        exact ⟨⟨rfl, rfl⟩, ha, hI⟩
    · rw [if_neg z, if_neg (fun y => z ⟨y.1, b.1.symm.trans y.2⟩)]
      exact ⟨⟨rfl, rfl⟩, ha, hI⟩
