/-- a page of a plate's history, its number first -/
abbrev rpg (k : Nat) (P : Nat → Int → Int) : Nat → Int → Int := pgR P k
