section PureL8
def lnF (f le : Int → Int) (m : Int) : Int := if (0 ≤ m ∧ m < f 0) ∧ m < 20 then le m else 0

end PureL8
