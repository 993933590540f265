section Pure5
def szF (σ : Int → Int) (d q : Int) : Int := if q = 0 then σ 4 else if q = 1 then σ 5 else if q = 2 then σ 0 else if q = 3 then σ 1 else if q = 4 then σ 2 else if q = 5 then σ 7 else d

end Pure5
