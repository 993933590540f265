section PureL10
theorem sBF_up {N : Int} {F : Int → Int → Int} {k : Int} {g : Int → Int} (h : ∀ i, sB N (F i)) (hg : sB N g) : ∀ i, sB N (up F k g i) := fun i => by
  unfold up
  split
  · exact hg
  · exact h i
/-- whether the frame that is sent is lost -/
def lsL (F : Int → Int → Int) (K : Int → Int → Int64) : Int := if tlL (K 2) (F 5 0) ∨ F 5 0 = F 0 9 then 1 else 0
def spL (K : Int → Int → Int64) (F : Int → Int → Int) : Int → Int → Int := (if (lsL F K) = 0 then (if isDL F then (sdL (nuL F) (lsL F K) (up F 5 (up (up (up (F 5) 0 ((F 5 0) + 1)) 6 ((F 5 6) + ((2 + (7 + dlL F)) + (escI (pbL F K) (7 + dlL F))))) 7 ((F 5 7) + (escI (pbL F K) (7 + dlL F)))))) else (stLn (lsL F K) (up F 5 (up (up (up (F 5) 0 ((F 5 0) + 1)) 6 ((F 5 6) + ((2 + (7 + dlL F)) + (escI (pbL F K) (7 + dlL F))))) 7 ((F 5 7) + (escI (pbL F K) (7 + dlL F))))))) else (if isDL F then (sdL (nuL F) (lsL F K) (up F 5 (up (up (up (up (F 5) 0 ((F 5 0) + 1)) 6 ((F 5 6) + ((2 + (7 + dlL F)) + (escI (pbL F K) (7 + dlL F))))) 7 ((F 5 7) + (escI (pbL F K) (7 + dlL F)))) 1 ((F 5 1) + 1)))) else (stLn (lsL F K) (up F 5 (up (up (up (up (F 5) 0 ((F 5 0) + 1)) 6 ((F 5 6) + ((2 + (7 + dlL F)) + (escI (pbL F K) (7 + dlL F))))) 7 ((F 5 7) + (escI (pbL F K) (7 + dlL F)))) 1 ((F 5 1) + 1))))))
end PureL10
