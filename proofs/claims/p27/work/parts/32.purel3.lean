section PureL3
theorem iI_div64 {a : Int} (h0 : 0 ≤ a) (h1 : a < 2000) : iI a / iI 64 = iI (a / 64) := by
  obtain ⟨n, rfl⟩ := Int.eq_ofNat_of_zero_le h0
  have := pk_div (a := n) (d := 64) (by omega) (by decide) (by decide)
  rw [iI_nI, iI_nI] at this
  exact this.trans (by rw [iI_nI]; congr 1)
theorem iI_rem64 {a : Int} (h0 : 0 ≤ a) (h1 : a < 2000) : iI a - iI a / iI 64 * iI 64 = iI (a % 64) := by
  obtain ⟨n, rfl⟩ := Int.eq_ofNat_of_zero_le h0
  have := pk_rem (a := n) (d := 64) (by omega) (by decide) (by decide)
  rw [iI_nI, iI_nI] at this
  exact this.trans (by rw [iI_nI]; congr 1)
/-- the bit k of a word, as the class compares it with 0 -/
def tlV (w : Int64) (k : Int) : Int := (lg_cmp ((w.toUInt64 >>> ((iI k).toInt64.toUInt64 &&& Int64.toUInt64 63)).toInt64 &&& 1) 0).toInt
theorem tlV_e {w : Int64} {k : Int} : Value.int (lg_cmp ((w.toUInt64 >>> ((iI k).toInt64.toUInt64 &&& Int64.toUInt64 63)).toInt64 &&& Int64.ofNat ((1 : Fin 2) : Nat)) (Int64.ofNat ((0 : Fin 2) : Nat))) = vI (tlV w k) := by
  unfold tlV
  rw [vI, iI_of]
  rfl
abbrev tlL (told : Int → Int64) (f : Int) : Prop := (0 ≤ f ∧ f < 2000) ∧ ¬ tlV (told (f / 64)) (f % 64) = 0
def orB (w : Int64) (k : Int) : Int64 := w ||| ((1 : Int64) <<< ((iI k).toInt64 &&& 63))
theorem orB_e {w : Int64} {k : Int} : (w ||| (Int64.ofNat ((1 : Fin 2) : Nat) <<< ((iI k).toInt64 &&& 63))) = orB w k := rfl
def tLF (K : Int → Int → Int64) (f : Int) (F : Int → Int → Int) : Int → Int → Int := if (0 ≤ f ∧ f < 2000) ∧ ¬ tlL (K 2) f then up F 0 (up (F 0) 7 (F 0 7 + 1)) else F
def tLK (f : Int) (K : Int → Int → Int64) : Int → Int → Int64 := if (0 ≤ f ∧ f < 2000) ∧ ¬ tlL (K 2) f then up K 2 (up (K 2) (f / 64) (orB (K 2 (f / 64)) (f % 64))) else K

end PureL3
