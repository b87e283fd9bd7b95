/-! the digest -/
def mxI (f : Int → Int) : Nat → Int → Int
  | 0, h => h
  | n + 1, h => 31 * mxI f n h + f n
def mxF (f : Int → Int) (n h : Int) : Int := mxI f n.toNat h
theorem mxF_0 (f : Int → Int) (h : Int) : mxF f 0 h = h := rfl
theorem mxF_s (f : Int → Int) {n : Int} (h : Int) (hn : 0 ≤ n) : mxF f (n + 1) h = 31 * mxF f n h + f n := by
  obtain ⟨m, rfl⟩ : ∃ m : Nat, n = (m : Int) := ⟨n.toNat, (Int.toNat_of_nonneg hn).symm⟩
  unfold mxF
  rw [show ((m : Int) + 1).toNat = m + 1 by omega, show ((m : Int)).toNat = m by omega]
  rfl
theorem mxI_congr {f g : Int → Int} (h : Int) : ∀ n : Nat, (∀ k : Int, 0 ≤ k → k < (n : Int) → f k = g k) → mxI f n h = mxI g n h
  | 0, _ => rfl
  | n + 1, e => by
    show 31 * mxI f n h + f n = 31 * mxI g n h + g n
    rw [mxI_congr h n (fun k a b => e k a (by omega)), e n (by omega) (by omega)]
theorem mxF_congr {f g : Int → Int} {n : Int} (h : Int) (e : ∀ k : Int, 0 ≤ k → k < n → f k = g k) : mxF f n h = mxF g n h := mxI_congr h _ (fun k a b => e k a (by omega))
noncomputable def mxT (M SO : Int → Int) (t h : Int) : Int := mxF (fun k => ptV M t (k / 7) (k % 7)) (7 * pts M t) (mxF (trV M SO t) 9 h)
noncomputable def mxTI (M SO : Int → Int) : Nat → Int → Int
  | 0, h => h
  | n + 1, h => mxT M SO n (mxTI M SO n h)
noncomputable def mxTF (M SO : Int → Int) (n h : Int) : Int := mxTI M SO n.toNat h
theorem mxTF_s (M SO : Int → Int) {n : Int} (h : Int) (hn : 0 ≤ n) : mxTF M SO (n + 1) h = mxT M SO n (mxTF M SO n h) := by
  obtain ⟨m, rfl⟩ : ∃ m : Nat, n = (m : Int) := ⟨n.toNat, (Int.toNat_of_nonneg hn).symm⟩
  unfold mxTF
  rw [show ((m : Int) + 1).toNat = m + 1 by omega, show ((m : Int)).toNat = m by omega]
  rfl
/-- the digest of a plate with so many kept states, so long a text, that stop -/
noncomputable def dgH (M : Int → Int) (sv tl st : Int) : Int := mxF (fun k => stW M (k / 7) (k % 7)) (7 * M 13) (mxTF M (mat M (M 8)).1 (M 12) (mxF M 10 (mxF (whW M) 11 (31 * (31 * (31 * 18761 + sv) + tl) + st))))
theorem mxT_congr {M SO SO' : Int → Int} {t h : Int} (e : SO t = SO' t) : mxT M SO t h = mxT M SO' t h := by
  unfold mxT
  rw [mxF_congr (f := trV M SO t) (g := trV M SO' t) h (fun k _ _ => trV_congr e)]
theorem dgA {M M' : Int → Int} (sv tl st : Int) (hI : Inv M) (ha : ag M M') : dgH M sv tl st = dgH M' sv tl st := by
  have h12 := inv_S12 hI
  have e8 := ha.1 8 (by decide) (by decide)
  have eT : ∀ (n : Nat) (h : Int), (n : Int) ≤ M 12 → mxTI M (mat M (M 8)).1 n h = mxTI M' (mat M (M 8)).1 n h := by
    intro n h
    induction n with
    | zero => intro _; rfl
    | succ n ih =>
      intro hn
      have hp := inv_pts hI (show (0 : Int) ≤ n by omega) (by omega)
      show mxT M _ n (mxTI M _ n h) = mxT M' _ n (mxTI M' _ n h)
      rw [ih (by omega)]
      unfold mxT
      rw [← ptA ha (show (0 : Int) ≤ n by omega) (by omega), mxF_congr (f := trV M (mat M (M 8)).1 n) (g := trV M' (mat M (M 8)).1 n) _ (fun k a b => trVA _ ha (by omega) (by omega) hp.1)]
      exact mxF_congr _ (fun k a b => ptVA ha (by omega) (by omega) (by omega) (by omega) (by omega))
  unfold dgH
  rw [← e8, ← matA ha, ← (ag_12 ha).1, ← (ag_12 ha).2]
  unfold mxTF
  rw [← eT _ _ (by omega)]
  rw [mxF_congr (f := whW M) (g := whW M') _ (fun k _ _ => whA k ha), mxF_congr (f := M) (g := M') _ (fun k a b => ha.1 k a (by omega))]
  exact mxF_congr _ (fun k a b => stWA ha hI (by omega) (by omega) (by omega))
