section Pure7
def nxF (σ : Int → Int) (q : Int) : Int := if q = 0 then (if isDataP σ then 0 else 1) else if q = 1 then σ 1 else if q = 2 then (if isDataP σ then (σ ((18 + (11 * (σ 1))) + 6) + σ 2) else σ ((18 + (11 * (σ 1))) + 9)) else if q = 3 then (2 + (7 + dl σ) + escI (pbF σ) (7 + dl σ)) else if q = 4 then σ 3 else if lz σ (σ 3) = 0 then 0 else 1

end Pure7
