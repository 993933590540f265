section Pure8
/-- the k-th byte of a long -/
def byB (b : Int64) (k : Int) : Int := ((b.toUInt64 >>> ((iI (8 * k)).toInt64.toUInt64 &&& Int64.toUInt64 63)).toInt64 &&& 255).toInt32.toInt
def putB (b : Int64) (s m : Int) (σ : Int → Int) : Nat → Int → Int
  | 0 => σ
  | k + 1 => up (putB b s m σ k) ((80 + (8 * ((20 * s) + m))) + (k : Int)) (byB b (k : Int))
def ptF (b : Int64) (s q : Int) (σ : Int → Int) : Int → Int :=
  up (putB b s (σ ((18 + (11 * s)) + 0)) (up σ ((40 + (20 * s)) + σ ((18 + (11 * s)) + 0)) q) q.toNat) ((18 + (11 * s)) + 0) (putB b s (σ ((18 + (11 * s)) + 0)) (up σ ((40 + (20 * s)) + σ ((18 + (11 * s)) + 0)) q) q.toNat ((18 + (11 * s)) + 0) + 1)
/-- the byte of an int behind an arithmetic shift -/
def b8 (a sh : Int) : Int := (iI a >>> (iI sh &&& 31)).toInt8.toInt32.toInt
theorem b8_b (a sh : Int) : (iI (iI a >>> (iI sh &&& 31)).toInt).toInt8.toInt32 = iI (b8 a sh) := by
  unfold b8
  rw [iI_of, iI_of]
theorem b8_nar {a sh : Int} : vp_nar .byte (iI (b8 a sh)) = iI (b8 a sh) := by
  unfold b8
  rw [iI_of]
  exact pk_vb _
/-- the first k places are 0 -/
def zrF (σ : Int → Int) (k : Int) : Int → Int := fun j => if 0 ≤ j ∧ j < k then 0 else σ j
theorem zrF_0 {σ : Int → Int} : zrF σ 0 = σ := by
  funext j
  exact if_neg (by omega)
theorem zrF_s {σ : Int → Int} {k : Int} (h : 0 ≤ k) : zrF σ (k + 1) = up (zrF σ k) k 0 := by
  funext j
  unfold zrF up
  by_cases e : j = k
  · rw [if_pos e, if_pos (by omega)]
  · rw [if_neg e]
    by_cases e2 : 0 ≤ j ∧ j < k
    · rw [if_pos (by omega)]; exact (if_pos e2).symm
    · rw [if_neg (by omega)]; exact (if_neg e2).symm
def emF (σ : Int → Int) : Int → Int := up (up (zrF σ 441) 21 4) 32 4

end Pure8
