section PureS
theorem ch_all {z : Int} (h0 : 0 ≤ z) (h1 : z < 128) : ((iI z).toUInt32 % 65536).toInt32 = iI z ∧ narrow .char (vI z) = vI z := by
  obtain ⟨n, rfl⟩ := Int.eq_ofNat_of_zero_le h0
  have hn : n < 128 := by omega
  have g : (List.range 128).all (fun n => decide (((iI (n : Int)).toUInt32 % 65536).toInt32 = iI (n : Int)) && decide (narrow .char (vI (n : Int)) = vI (n : Int))) = true := by decide +kernel
  have m := List.all_eq_true.mp g n (List.mem_range.mpr hn)
  simp only [Bool.and_eq_true, decide_eq_true_eq] at m
  exact m
theorem ch_16 {z : Int} (h0 : 0 ≤ z) (h1 : z < 128) : ((iI z).toUInt32 % 65536).toInt32 = iI z := (ch_all h0 h1).1
theorem ch_nar {z : Int} (h0 : 0 ≤ z) (h1 : z < 128) : narrow .char (vI z) = vI z := (ch_all h0 h1).2

end PureS
