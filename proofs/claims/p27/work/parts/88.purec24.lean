section PureC24
def szC (F : Int → Int → Int) (c q : Int) : Int := if q = 0 then F 0 4 else if q = 1 then F 0 5 else if q = 2 then tmL F else if q = 3 then F 0 1 else if q = 4 then F 0 2 else if q = 5 then F 0 7 else c
/-- the world of a TurnLine -/
def tlW (G : GG) (A : Nat → Nat) (B : Nat → Nat → Nat) (lads : Nat → Nat → Nat) (f bu cf cp ff fp : Int → Int) (Q : Nat → Int → Int → Int) (R : Nat → Int → Int → Int64) (LF : Nat → Int → Int → Int) (LK : Nat → Int → Int → Int64) (z : Int → Int) : va_W := [((A 0), .inr (7, [.ref (A 1), .ref ((B 0) 0), .ref ((B 1) 0), .ref ((B 2) 0), .ref (A 3), .ref (A 5), .ref (A 8), .ref (A 10), .ref (A 11)]))] ++ (rdW G (A 1) (A 2) (f) (bu)) ++ (liW G (B 0) (Q 0) (R 0)) ++ (liW G (B 1) (Q 1) (R 1)) ++ (liW G (B 2) (Q 2) (R 2)) ++ (frW G (A 3) (A 4) (cf) (cp)) ++ [((A 5), .inr (0, [.ref ((B 3) 0), .ref ((B 4) 0), .ref (A 6)]))] ++ (liW G (B 3) (Q 3) (R 3)) ++ (liW G (B 4) (Q 4) (R 4)) ++ (frW G (A 6) (A 7) (ff) (fp)) ++ [((A 8), .inr (2, [.ref (A 9), vI (z 0)])), ((A 9), .inl (G.2 4, 10, .inr (.inr (.inr (.inr (fQ (hqF lads)))))))] ++ [((A 10), .inr (4, [.ref ((B 5) 0), vI (z 1)]))] ++ (liW G (B 5) (Q 5) (R 5)) ++ [((A 11), .inr (4, [.ref ((B 6) 0), vI (z 2)]))] ++ (liW G (B 6) (Q 6) (R 6)) ++ (hiLs G lads LF LK 10)
/-- four bytes more -/
def afF (f : Int → Int) : Int → Int := up f 0 (f 0 + 4)
def afB (e : Int → Int → Int) (f : Int → Int) (v : Int) (b : Int → Int) : Int → Int := up (up (up (up b (f 0) (e v 24)) (f 0 + 1) (e v 16)) (f 0 + 2) (e v 8)) (f 0 + 3) (e v 0)
theorem pbL_in (F : Int → Int → Int) (K : Int → Int → Int64) (k : Int) : 0 ≤ pbL F K k ∧ pbL F K k < 256 := by
  unfold pbL
  split
  · exact ⟨by omega, by omega⟩
  · unfold pbL0
    (repeat' split) <;> exact ⟨by omega, by omega⟩
/-- next -/
def nxC (K : Int → Int → Int64) (F : Int → Int → Int) (q : Int) : Int := if q = 0 then (if isDL F then 0 else 1) else if q = 1 then F 0 1 else if q = 2 then nuL F else if q = 3 then 2 + (7 + dlL F) + escI (pbL F K) (7 + dlL F) else if q = 4 then F 5 0 else if tlL (K 2) (F 5 0) then 1 else 0
/-- a text read -/
def paT (f bu : Int → Int) (ln : Int) (F : Int → Int → Int) (K : Int → Int → Int64) : TX := itT bu (hdT f bu ln F K) (itN bu (hdT f bu ln F K))
def pdF (x : TX) : Int → Int → Int := up (up x.2.1 1 (up (x.2.1 1) 7 (x.2.1 2 3))) 2 (up (x.2.1 2) 7 (x.2.1 1 3))
/-- the bytes of what is accepted, and efficiency -/
def clQ (q : Int) : Int := if q ≤ 20 then (if 0 ≤ q then q else 0) else 20
def gdC (F : Int → Int → Int) : Int := sumI (lnF (F 1) (F 3)) (clQ (F 2 1)) + sumI (lnF (F 2) (F 4)) (clQ (F 1 1))
def efC (F : Int → Int → Int) : UInt64 := if F 5 6 ≤ 0 then FP.dconst0 else FP.ddiv (FP.i2d (iI (gdC F))) (FP.i2d (iI (F 5 6)))
def gdM (σ : Int → Int) : Int := sumI (fun m => σ (40 + 20 * 0 + m)) (σ 30) + sumI (fun m => σ (40 + 20 * 1 + m)) (σ 19)
def efM (σ : Int → Int) : UInt64 := if σ 14 = 0 then FP.dconst0 else FP.ddiv (FP.i2d (iI (gdM σ))) (FP.i2d (iI (σ 14)))
theorem dd_nz {z : Int} (hs : sm z) (hz : ¬ z = 0) : iI z ≠ 0 := fun h => hz ((iI_eq hs (by decide)).mp (h.trans iI_0))

end PureC24
