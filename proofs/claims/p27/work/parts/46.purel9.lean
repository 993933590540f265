section PureL9
def leL (F : Int → Int → Int) : Int → Int := if F 0 1 = 0 then F 3 else F 4
def coL (F : Int → Int → Int) (K : Int → Int → Int64) : Int → Int64 := if F 0 1 = 0 then K 0 else K 1
def nuL (F : Int → Int → Int) : Int := if isDL F then nmL F else stL F 9
def dlL (F : Int → Int → Int) : Int := if isDL F then leL F (nmL F) else 0
def pbL0 (F : Int → Int → Int) (K : Int → Int → Int64) (k : Int) : Int :=
  if k = 0 then ((if isDL F then 0 else 1) + 2 * F 0 1) % 256
  else if k = 1 then (if isDL F then nmL F else stL F 9) % 256
  else if k = 2 then stL F 1 % 256
  else if k = 3 then (stL F 2 + stL F 3) % 256
  else if k = 4 then stL F 4 % 256
  else if k = 5 then stL F 5 % 256
  else (cB0 (coL F K (nmL F)) (k - 6) % 256) % 256
def pbL (F : Int → Int → Int) (K : Int → Int → Int64) (k : Int) : Int := if k = 6 + dlL F then sumI (pbL0 F K) (6 + dlL F) % 256 else pbL0 F K k

end PureL9
