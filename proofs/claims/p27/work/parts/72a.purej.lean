section PureJ
theorem ishl0 {n : Int} : (iI n <<< (iI 0 &&& 31)) = iI n := by
  rw [show (iI 0 &&& (31 : Int32)) = 0 by decide +kernel]
  exact Int32.shiftLeft_zero
/-- how many digits; the number's digits -/
def szI (v : Int) : Int := if v < 10 then 1 else if v < 100 then 2 else 3
def wdI (f : Int → Int) (v e : Int) : Int → Int := if v < 10 then up f (e + (-1)) (48 + v % 10) else if v < 100 then up (up f (e + (-1)) (48 + v % 10)) (e + (-1) + (-1)) (48 + v / 10) else up (up (up f (e + (-1)) (48 + v % 10)) (e + (-1) + (-1)) (48 + v / 10 % 10)) (e + (-1) + (-1) + (-1)) (48 + v / 100)
def btO (f : Int → Int) : Prop := ∀ j : Int, 0 ≤ f j ∧ f j < 128
theorem szI_v {v : Int} : (v < 10 ∧ szI v = 1) ∨ (10 ≤ v ∧ v < 100 ∧ szI v = 2) ∨ (100 ≤ v ∧ szI v = 3) := by
  unfold szI
  (repeat' split) <;> omega
theorem wd_1 {f : Int → Int} {v e : Int} (h0 : 0 ≤ v) (h : v < 10) : up f (e + (-1)) (dg1 v.toNat) = wdI f v e := by
  have e1 : dg1 v.toNat = 48 + v % 10 := by unfold dg1; rw [Int.toNat_of_nonneg h0]
  unfold wdI
  rw [if_pos h, e1]
theorem wd_2 {f : Int → Int} {v e : Int} (h0 : 0 ≤ v) (h : ¬ v < 10) (h2 : v < 100) : up (up f (e + (-1)) (dg1 v.toNat)) (e + (-1) + (-1)) (dg2 v.toNat) = wdI f v e := by
  have e1 : dg1 v.toNat = 48 + v % 10 := by unfold dg1; rw [Int.toNat_of_nonneg h0]
  have e2 : dg2 v.toNat = 48 + v / 10 := by unfold dg2; rw [Int.toNat_of_nonneg h0]
  unfold wdI
  rw [if_neg h, if_pos h2, e1, e2]
theorem wd_3 {f : Int → Int} {v e : Int} (h0 : 0 ≤ v) (h1 : v ≤ 255) (h2 : ¬ v < 100) : up (up (up f (e + (-1)) (dg1 ((((0 - v / 100) * 100) - (0 - v))).toNat)) (e + (-1) + (-1)) (dg2 ((((0 - v / 100) * 100) - (0 - v))).toNat)) (e + (-1) + (-1) + (-1)) (dg1 ((0 - (0 - v / 100))).toNat) = wdI f v e := by
  have e1 : dg1 ((((0 - v / 100) * 100) - (0 - v))).toNat = 48 + v % 10 := by unfold dg1; rw [Int.toNat_of_nonneg (by omega)]; omega
  have e2 : dg2 ((((0 - v / 100) * 100) - (0 - v))).toNat = 48 + v / 10 % 10 := by unfold dg2; rw [Int.toNat_of_nonneg (by omega)]; omega
  have e3 : dg1 ((0 - (0 - v / 100))).toNat = 48 + v / 100 := by unfold dg1; rw [Int.toNat_of_nonneg (by omega)]; omega
  unfold wdI
  rw [if_neg (by omega), if_neg h2, e1, e2, e3]
theorem dv100 {v : Int} (h0 : 0 ≤ v) (h1 : v ≤ 255) : iI (0 - v) / iI 100 = iI (0 - v / 100) := by
  obtain ⟨n, rfl⟩ := Int.eq_ofNat_of_zero_le h0
  have g : (List.range 256).all (fun n => decide (iI (0 - (n : Int)) / iI 100 = iI (0 - (n : Int) / 100))) = true := by decide +kernel
  exact of_decide_eq_true (List.all_eq_true.mp g n (List.mem_range.mpr (by omega)))
theorem nar_b {z : Int} (h : 0 ≤ z ∧ z < 128) : vp_nar .byte (iI z) = iI z := by
  obtain ⟨n, rfl⟩ := Int.eq_ofNat_of_zero_le h.1
  have g : (List.range 128).all (fun n => decide (vp_nar .byte (iI (n : Int)) = iI (n : Int))) = true := by decide +kernel
  exact of_decide_eq_true (List.all_eq_true.mp g n (List.mem_range.mpr (by omega)))

end PureJ
