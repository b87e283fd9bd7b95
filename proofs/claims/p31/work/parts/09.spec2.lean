theorem upr_self (R : Nat → Int → Int) (c : Nat) : upr R c (R c) = R := by
  funext d
  unfold upr
  cases h : Nat.beq d c with
  | false => rfl
  | true => rw [Nat.eq_of_beq_eq_true h]; rfl
/-- a row whose places lo..hi-1 hold what stood d behind them -/
def shf (M : Int → Int) (lo hi d : Int) : Int → Int := fun j => if lo ≤ j ∧ j < hi then M (j + d) else M j
theorem shf_0 (M : Int → Int) {lo hi : Int} (d : Int) (h : hi ≤ lo) : shf M lo hi d = M := by
  funext j
  unfold shf
  rw [if_neg (by omega)]
theorem shf_s (M : Int → Int) {lo k d : Int} (h : lo ≤ k) (hd : 0 < d) : shf M lo (k + 1) d = ups (shf M lo k d) k (shf M lo k d (k + d)) := by
  funext j
  unfold ups
  by_cases e : j = k
  · subst e
    rw [if_pos rfl]
    unfold shf
    rw [if_pos (by omega), if_neg (by omega)]
  · rw [if_neg e]
    unfold shf
    by_cases z : lo ≤ j ∧ j < k
    · rw [if_pos z, if_pos (by omega)]
    · rw [if_neg z, if_neg (by omega)]
/-- a row whose places off..off+n-1 hold another row's first n -/
def cpyI (S M : Int → Int) (off n : Int) : Int → Int := fun j => if off ≤ j ∧ j < off + n then M (j - off) else S j
theorem cpyI_0 (S M : Int → Int) (off : Int) : cpyI S M off 0 = S := by
  funext j
  unfold cpyI
  rw [if_neg (by omega)]
theorem cpyI_s (S M : Int → Int) {off k : Int} (h : 0 ≤ k) : cpyI S M off (k + 1) = ups (cpyI S M off k) (off + k) (M k) := by
  funext j
  unfold ups
  by_cases e : j = off + k
  · rw [if_pos e]
    unfold cpyI
    rw [if_pos (by omega), show j - off = k by omega]
  · rw [if_neg e]
    unfold cpyI
    by_cases z : off ≤ j ∧ j < off + k
    · rw [if_pos z, if_pos (by omega)]
    · rw [if_neg z, if_neg (by omega)]
/-- a saved state -/
def page (S : Int → Int) (c : Int) : Int → Int := fun k => S (494 * c + k)
def kpN (n : Int) : Int := if n = 4 then 4 else n + 1
def kpS (S M : Int → Int) (n : Int) : Int → Int := if n = 4 then cpyI (shf S 0 1482 494) M 1482 494 else cpyI S M (494 * n) 494
def tRT (M : Int → Int) (t : Int) : Int → Int := shf (ups M 12 (M 12 - 1)) (14 + 37 * t) (14 + 37 * (M 12 - 1)) 37
def tRS (M : Int → Int) (u : Int) : Int → Int := shf (ups M 13 (M 13 - 1)) (458 + 3 * u) (458 + 3 * (M 13 - 1)) 3
def tRP (M : Int → Int) (t q : Int) : Int → Int := shf (ups M (14 + 37 * t) (M (14 + 37 * t) - 1)) (cel t q) (cel t (pts M t - 1)) 3
def tAT (M : Int → Int) : Int → Int := ups (ups M (14 + 37 * M 12) 0) 12 (M 12 + 1)
def tAS (M : Int → Int) (x y z : Int) : Int → Int := ups (ups (ups (ups M (458 + 3 * M 13) x) (458 + 3 * M 13 + 1) y) (458 + 3 * M 13 + 2) z) 13 (M 13 + 1)
def tPo (M : Int → Int) (x y : Int) : Int → Int := ups (ups M 10 x) 11 y
def posI (M : Int → Int) (t f : Int) : Nat → Int
  | 0 => 0
  | n + 1 => if f < frm M t n then posI M t f n else (n : Int) + 1
def posF (M : Int → Int) (t f : Int) : Int := posI M t f (pts M t).toNat
def shb (M : Int → Int) (lo hi d : Int) : Int → Int := fun j => if lo ≤ j ∧ j < hi then M (j - d) else M j
def tAP (M : Int → Int) (t f x y : Int) : Int → Int := ups (ups (ups (ups (shb M (cel t (posF M t f) + 3) (cel t (pts M t) + 3) 3) (cel t (posF M t f)) f) (cel t (posF M t f) + 1) x) (cel t (posF M t f) + 2) y) (14 + 37 * t) (pts M t + 1)
theorem inv_tPo {M : Int → Int} (h : Inv M) {x y : Int} (hp : poleOK x y) : Inv (tPo M x y) := by
  have e : ∀ k : Int, k ≠ 10 → k ≠ 11 → tPo M x y k = M k := fun k h1 h2 => by unfold tPo; rw [ups_ne _ _ h2, ups_ne _ _ h1]
  have e10 : tPo M x y 10 = x := by unfold tPo; rw [ups_ne _ _ (by decide), ups_eq]
  have e11 : tPo M x y 11 = y := by unfold tPo; rw [ups_eq]
  obtain ⟨hs, ht, hc⟩ := h
  refine ⟨?_, ?_, ?_⟩
  · unfold InvS at hs ⊢
    rw [e 0 (by decide) (by decide), e 1 (by decide) (by decide), e 2 (by decide) (by decide), e 3 (by decide) (by decide), e 4 (by decide) (by decide), e 5 (by decide) (by decide), e 6 (by decide) (by decide), e 7 (by decide) (by decide), e 8 (by decide) (by decide), e 9 (by decide) (by decide), e 12 (by decide) (by decide), e 13 (by decide) (by decide), e10, e11]
    unfold poleOK at hp
    omega
  · intro t h0 h1
    rw [e 12 (by decide) (by decide)] at h1
    have g := ht t h0 h1
    have ep : pts (tPo M x y) t = pts M t := e _ (by omega) (by omega)
    rw [ep]
    refine ⟨g.1, fun p p0 p1 => ?_⟩
    have g2 := g.2 p p0 p1
    have c1 := cel_eq t p
    have c2 := cel_eq t (p + 1)
    have f1 : frm (tPo M x y) t p = frm M t p := e _ (by omega) (by omega)
    have f2 : frm (tPo M x y) t (p + 1) = frm M t (p + 1) := e _ (by omega) (by omega)
    rw [f1, f2, e _ (show cel t p + 1 ≠ 10 by omega) (by omega), e _ (show cel t p + 2 ≠ 10 by omega) (by omega)]
    exact g2
  · intro u h0 h1
    rw [e 13 (by decide) (by decide)] at h1
    rw [e _ (show 458 + 3 * u ≠ 10 by omega) (by omega), e _ (show 458 + 3 * u + 1 ≠ 10 by omega) (by omega), e _ (show 458 + 3 * u + 2 ≠ 10 by omega) (by omega)]
    exact hc u h0 h1
theorem tPo_back (M : Int → Int) (x y : Int) : tPo (tPo M x y) (M 10) (M 11) = M := by
  funext k
  unfold tPo ups
  by_cases e : k = 11
  · rw [if_pos e, e]
  · rw [if_neg e]
    by_cases e2 : k = 10
    · rw [if_pos e2, e2]
    · rw [if_neg e2, if_neg e, if_neg e2]
theorem tPo_id (M : Int → Int) : tPo M (M 10) (M 11) = M := by
  funext k
  unfold tPo ups
  by_cases e : k = 11
  · rw [if_pos e, e]
  · rw [if_neg e]
    by_cases e2 : k = 10
    · rw [if_pos e2, e2]
    · rw [if_neg e2]
theorem tPo_tPo (M : Int → Int) (x y x2 y2 : Int) : tPo (tPo M x y) x2 y2 = tPo M x2 y2 := by
  funext k
  unfold tPo ups
  by_cases e : k = 11
  · rw [if_pos e, if_pos e]
  · rw [if_neg e, if_neg e]
    by_cases e2 : k = 10
    · rw [if_pos e2, if_neg e, if_pos e2]
    · rw [if_neg e2, if_neg e2, if_neg e, if_neg e2]
