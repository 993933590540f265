section PureC
/-- a byte of a message's long, as the class takes it, before the mask -/
def cB0 (b : Int64) (k : Int) : Int := (b.toUInt64 >>> ((iI (8 * k)).toInt64.toUInt64 &&& Int64.toUInt64 63)).toInt64.toInt32.toInt
theorem cB0_e (b : Int64) (k : Int) : (b.toUInt64 >>> ((iI (8 * k)).toInt64.toUInt64 &&& Int64.toUInt64 63)).toInt64.toInt32 = iI (cB0 b k) := (iI_of _).symm
def adF (f : Int → Int) : Int → Int := if 0 ≤ f 0 ∧ f 0 < 20 then up f 0 (f 0 + 1) else f
def adL (f le : Int → Int) (q : Int) : Int → Int := if 0 ≤ f 0 ∧ f 0 < 20 then up le (f 0) q else le
def adC (f : Int → Int) (co : Int → Int64) (b : Int64) : Int → Int64 := if 0 ≤ f 0 ∧ f 0 < 20 then up co (f 0) b else co
def rcG (q : Int) (f : Int → Int) : Int := if (if 0 < (f 7 - f 8) then (f 7 - f 8) else 0) < q then (if 0 < (f 7 - f 8) then (f 7 - f 8) else 0) else q
def rcF (q : Int) (f : Int → Int) : Int → Int := up (up f 7 (f 7 - rcG q f)) 5 (f 5 + rcG q f)
def nhF (f f2 : Int → Int) : Int → Int := if f2 5 - f 10 ≤ 0 then up (up f 6 (f2 1)) 7 (f2 2 + f2 3) else up (up (up (up (up f 6 (f2 1)) 7 (f2 2 + f2 3)) 3 (f 3 - (f2 5 - f 10))) 4 (f 4 - (f2 5 - f 10))) 10 (f2 5)

end PureC
