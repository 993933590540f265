section PureL17
def rw2 (f bu : Int → Int) : Int → Int := if (if tnV f 0 1 = 0 then tnR f bu 0 1 8 else tnR f bu 0 1 9) = 0 then tnR f bu 0 1 else flR (tnR f bu 0 1) (tnR f bu 0 1 6) 2
def rw3 (f bu : Int → Int) : Int → Int := if tnV f 0 1 = 0 then up (rw2 f bu) 8 1 else up (rw2 f bu) 9 1
def rwR (f bu : Int → Int) : Int → Int := tnR (rw3 f bu) bu 1 9
def rwF (f bu : Int → Int) (F : Int → Int → Int) : Int → Int → Int := if tnV f 0 1 = 0 then up F 1 (up (F 1) 3 (tnV (rw3 f bu) 1 9)) else up F 2 (up (F 2) 3 (tnV (rw3 f bu) 1 9))
theorem RO.at6 {f : Int → Int} (h : RO f) : 0 ≤ f 6 ∧ f 6 ≤ 700 := h.2.2.2.1
theorem rw2_ok {f bu : Int → Int} (h : RO f) (hbu : sB 1000 bu) : RO (rw2 f bu) := by
  have g := tnR_ok (p := 0) (q := 1) h hbu (by decide)
  unfold rw2
  generalize (if tnV f 0 1 = 0 then tnR f bu 0 1 8 else tnR f bu 0 1 9) = z
  split
  · exact g
  · exact flR_ok g g.at6 (by decide)
theorem rw3_ok {f bu : Int → Int} (h : RO f) (hbu : sB 1000 bu) : RO (rw3 f bu) := by
  have g := rw2_ok h hbu
  unfold rw3
  split
  · exact ⟨g.1, g.2.1, g.2.2.1, g.2.2.2.1, g.2.2.2.2.1, Or.inr rfl, g.2.2.2.2.2.2⟩
  · exact ⟨g.1, g.2.1, g.2.2.1, g.2.2.2.1, g.2.2.2.2.1, g.2.2.2.2.2.1, Or.inr rfl, g.2.2.2.2.2.2.2⟩
theorem rwR_ok {f bu : Int → Int} (h : RO f) (hbu : sB 1000 bu) : RO (rwR f bu) := tnR_ok (rw3_ok h hbu) hbu (by decide)
def rlR (f bu : Int → Int) (K : Int → Int → Int64) : Int → Int := if tlL (K 2) (tnV f 0 499) then flR (tnR f bu 0 499) (tnR f bu 0 499 6) 2 else tnR f bu 0 499
theorem rlR_ok {f bu : Int → Int} {K : Int → Int → Int64} (h : RO f) (hbu : sB 1000 bu) : RO (rlR f bu K) := by
  have g := tnR_ok (p := 0) (q := 499) h hbu (by decide)
  unfold rlR
  split
  · exact flR_ok g g.at6 (by decide)
  · exact g
def toL (z : Int) : Int64 := (iI z).toInt64
def shL (x : Int64) (z : Int) : Int64 := x <<< ((iI z).toInt64 &&& 63)
def rlF (f bu : Int → Int) (F : Int → Int → Int) (K : Int → Int → Int64) : Int → Int → Int := tLF K (tnV f 0 499) F
def rlK (f bu : Int → Int) (K : Int → Int → Int64) : Int → Int → Int64 := tLK (tnV f 0 499) K

end PureL17
