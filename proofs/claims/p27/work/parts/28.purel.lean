section PureL
/-- the talker's numbers, the listener's -/
def stL (F : Int → Int → Int) : Int → Int := if F 0 1 = 0 then F 1 else F 2
def nmL (F : Int → Int → Int) : Int := if F 0 1 = 0 then F 1 6 + F 0 2 else F 2 6 + F 0 2
def isDLd (F : Int → Int → Int) (s : Int → Int) (n : Int) : Prop := F 0 6 = 0 ∧ F 0 2 < F 0 4 ∧ n < s 7 ∧ 0 ≤ n ∧ n < s 0 ∧ n < 20
abbrev isDL (F : Int → Int → Int) : Prop := F 0 6 = 0 ∧ F 0 2 < F 0 4 ∧ nmL F < stL F 7 ∧ 0 ≤ nmL F ∧ nmL F < stL F 0 ∧ nmL F < 20
/-- the message that is sent next, -1 if a turn is -/
def nxL (F : Int → Int → Int) : Int := if isDL F then nmL F else -1

end PureL
