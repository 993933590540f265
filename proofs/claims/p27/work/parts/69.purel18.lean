section PureL18
def rm2 (f bu : Int → Int) (F : Int → Int → Int) : Int → Int := if (if tnV f 0 1 = 0 then F 1 0 else F 2 0) < 20 then tnR f bu 0 1 else flR (tnR f bu 0 1) (tnR f bu 0 1 6) 4
def rm3 (f bu : Int → Int) (F : Int → Int → Int) : Int → Int := tnR (rm2 f bu F) bu 0 255
/-- the reader, the bytes, behind n more numbers -/
def rmI (g bu : Int → Int) : Nat → Int → Int
  | 0 => g
  | n + 1 => tnR (rmI g bu n) bu 0 255
def rmB (g : Int → Int) (v : Int) (bu : Int → Int) : Nat → Int64
  | 0 => toL v
  | n + 1 => rmB g v bu n ||| shL (toL (tnV (rmI g bu n) 0 255)) (8 * ((n : Int) + 1))
def rmN (g bu : Int → Int) : Nat := skN (fun k : Nat => ¬ ((k : Int) + 1 < 8 ∧ rmI g bu k 7 = 0 ∧ rmI g bu k 3 = 2)) 7
def rm4 (f bu : Int → Int) (F : Int → Int → Int) : Int → Int := rmI (rm3 f bu F) bu (rmN (rm3 f bu F) bu)
def rmR (f bu : Int → Int) (F : Int → Int → Int) : Int → Int := if rm4 f bu F 7 = 0 ∧ rm4 f bu F 3 = 2 then flR (tnR (rm4 f bu F) bu 0 255) (tnR (rm4 f bu F) bu 0 255 6) 4 else rm4 f bu F
def rmF (f bu : Int → Int) (F : Int → Int → Int) : Int → Int → Int := if ¬ rmR f bu F 7 = 0 then F else if tnV f 0 1 = 0 then up (up F 1 (adF (F 1))) 3 (adL (F 1) (F 3) ((rmN (rm3 f bu F) bu : Int) + 1)) else up (up F 2 (adF (F 2))) 4 (adL (F 2) (F 4) ((rmN (rm3 f bu F) bu : Int) + 1))
def rmK (f bu : Int → Int) (F : Int → Int → Int) (K : Int → Int → Int64) : Int → Int → Int64 := if ¬ rmR f bu F 7 = 0 then K else if tnV f 0 1 = 0 then up K 0 (adC (F 1) (K 0) (rmB (rm3 f bu F) (tnV (rm2 f bu F) 0 255) bu (rmN (rm3 f bu F) bu))) else up K 1 (adC (F 2) (K 1) (rmB (rm3 f bu F) (tnV (rm2 f bu F) 0 255) bu (rmN (rm3 f bu F) bu)))
theorem rm2_ok {f bu : Int → Int} {F : Int → Int → Int} (h : RO f) (hbu : sB 1000 bu) : RO (rm2 f bu F) := by
  have g := tnR_ok (p := 0) (q := 1) h hbu (by decide)
  unfold rm2
  generalize (if tnV f 0 1 = 0 then F 1 0 else F 2 0) = z
  split
  · exact g
  · exact flR_ok g g.at6 (by decide)
theorem rm3_ok {f bu : Int → Int} {F : Int → Int → Int} (h : RO f) (hbu : sB 1000 bu) : RO (rm3 f bu F) := tnR_ok (rm2_ok h hbu) hbu (by decide)
theorem rmI_ok {f bu : Int → Int} {F : Int → Int → Int} (h : RO f) (hbu : sB 1000 bu) : ∀ n : Nat, RO (rmI (rm3 f bu F) bu n) := by
  intro n
  induction n with
  | zero => exact rm3_ok h hbu
  | succ n ih => exact tnR_ok ih hbu (by decide)
theorem rm4_ok {f bu : Int → Int} {F : Int → Int → Int} (h : RO f) (hbu : sB 1000 bu) : RO (rm4 f bu F) := rmI_ok h hbu _
theorem rmR_ok {f bu : Int → Int} {F : Int → Int → Int} (h : RO f) (hbu : sB 1000 bu) : RO (rmR f bu F) := by
  have g := rm4_ok (F := F) h hbu
  have g2 := tnR_ok (p := 0) (q := 255) g hbu (by decide)
  unfold rmR
  split
  · exact flR_ok g2 g2.at6 (by decide)
  · exact g

end PureL18
