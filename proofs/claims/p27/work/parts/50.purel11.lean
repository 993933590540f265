section PureL11
abbrev ovL (F : Int → Int → Int) : Prop := F 2 0 ≤ F 1 1 ∧ F 1 0 ≤ F 2 1
def lrL (F : Int → Int → Int) : Int → Int → Int := up (up F 1 (up (F 1) 2 (F 1 1))) 2 (up (F 2) 2 (F 2 1))
def rdL (rd : Int) (F : Int → Int → Int) : Int → Int → Int := if rd = 0 then F else lrL F
def itL (rd : Int) (K : Int → Int → Int64) (F : Int → Int → Int) : Nat → Int → Int → Int
  | 0 => F
  | n + 1 => spL K (rdL rd (itL rd K F n))
/-- what Line.step needs -/
def OKL (F : Int → Int → Int) : Prop := (∀ i, sB 10000000 (F i)) ∧ (F 0 1 = 0 ∨ F 0 1 = 1) ∧ (isDL F → 0 ≤ leL F (nmL F) ∧ leL F (nmL F) ≤ 8) ∧ (isDL F → -1000000 < nmL F ∧ nmL F < 1000000)

end PureL11
