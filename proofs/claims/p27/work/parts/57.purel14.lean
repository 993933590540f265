section PureL14
def kpC (c : Int) : Int := if c < 10 then c + 1 else 10
def kpS {α : Type} (c : Int) (f : Nat → α) (v : α) : Nat → α := if c < 10 then upN f c.toNat v else upN (rotN f) 9 v

end PureL14
