/-! long answers at the caller; the object's values in a row, a text of commands carried out -/
section KML
variable {p : Program} {l : Launch} {e : Env} {R : Room} {s : State} {m : MethodId} {args : Array Value} {below : List Frame} {meth : Method} {c : Code} {H : Heap} {locs : List Loc} {cells slots : Nat} {Q : State → Prop}
variable {pc : Nat} {ls : Array Slot} {rest st0 : List Value} {a : Array Value} {A0 : Nat → Prop} {H0 : Heap} {mc ms : Nat} {D : va_G} {wsC : va_W} {S : Type} {wf : S → va_W}
theorem k_mul {post : Int → S → Prop} (hr : va_Run p l e R s m args below meth c H locs cells slots mc ms (F0 m pc ls st0) rest (kQl D wsC H.size wf post a) (va_A wsC H.size)) (hF : ∀ q, va_A wsC H.size q → A0 q) (hS : va_S A0 H0 H locs)
    (kk : ∀ (r : Int) (u : S) (H1 : Heap) (locs1 : List Loc), post r u → va_P D vwCl (wf u) H1 → va_D (va_A wsC H.size) (wf u) → va_S A0 H0 H1 locs1 → (∀ q : Nat, q < H.size → ¬ va_A wsC H.size q → H1[q]? = H[q]?) → W p l e R s m args below meth c H1 locs1 (cells + mc) (slots + ms) Q (F0 m (pc + 3) ls (.long (lI r) :: rest))) : W p l e R s m args below meth c H locs cells slots Q (F0 m pc ls st0) :=
  va_calll hr hS (fun q _ h => hF q h) hF (fun r u t H1 locs1 ht hvm hp hB hz hk hS1 => by
    obtain ⟨z, rfl, hp⟩ := hp
    exact kk z u H1 locs1 hp (by rw [← ht]; exact hB.1) hB.2 hS1 hk)
end KML
theorem mx_at (f : Int → Int → Int) {q w : Int} (h : Int) (h0 : 0 ≤ q) (h1 : 0 ≤ w ∧ w < 7) : mxF (fun k => f (k / 7) (k % 7)) (7 * q + (w + 1)) h = 31 * mxF (fun k => f (k / 7) (k % 7)) (7 * q + w) h + f q w := by
  rw [show 7 * q + (w + 1) = 7 * q + w + 1 by omega, mxF_s _ _ (by omega)]
  (try dsimp only)
  rw [show (7 * q + w) / 7 = q by omega, show (7 * q + w) % 7 = w by omega]
theorem dgH_mO {P : Nat → Int → Int} (sv tl st : Int) : dgH (mO P) sv tl st = mxF (fun k => stW (mO P) (k / 7) (k % 7)) (7 * P 0 1) (mxTF (mO P) (mat (mO P) (P 8 8)).1 (P 0 0) (mxF (P 8) 10 (mxF (whW (mO P)) 11 (31 * (31 * (31 * 18761 + sv) + tl) + st)))) := by
  unfold dgH
  rw [mO_12, mO_13, mO_set P (show (8 : Int) < 10 by decide), mxF_congr (f := mO P) (g := P 8) _ (fun k _ b => mO_set P b)]
noncomputable def rcR (P : Nat → Int → Int) : Int × Int × (Int → Int) := rcF (P 11) (P 10 0) (skp (P 11) (P 10 0) 0) (mO P) (fun _ => 0) 0
/-- what a call of runCommands leaves -/
def rcP (P Q : Nat → Int → Int) (r : Int) : Prop :=
  ((∀ c : Nat, c ≠ 10 → c ≠ 12 → c ≠ 13 → c < 50 → 9 ≤ c → Q c = P c) ∧ Q 10 0 = P 10 0 ∧ nOK (Q 13)) ∧
  ((∃ x : Int, prsF (P 11) (P 10 0) (skp (P 11) (P 10 0) 0) = (0, x) ∧ r = -10 - x ∧ Q 100 = P 100 ∧ (∀ i : Nat, i < 9 → Q i = P i) ∧ ∀ c : Nat, 50 ≤ c → c < 100 → Q c = P c) ∨
   ((∃ x : Int, prsF (P 11) (P 10 0) (skp (P 11) (P 10 0) 0) = (1, x)) ∧ r = (rcR P).2.1 ∧ Q 100 7 = (rcR P).1 ∧ Q 100 6 = 0 ∧ ag (rcR P).2.2 (mO Q) ∧ kept2 P Q))
