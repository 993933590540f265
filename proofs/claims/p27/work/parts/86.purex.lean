section PureX
theorem thn : ∀ n ∈ ["java/lang/RuntimeException", "java/lang/Exception"], Bundle.fit n = true := fun n h => List.all_eq_true.mp (show ["java/lang/RuntimeException", "java/lang/Exception"].all Bundle.fit = true by decide +kernel) n h
theorem tho_c {a : String} {i : Nat} {b : String} {at0 : List Cond} (h : ∀ w ∈ at0, vx_ot w = true) : ∀ w ∈ Cond.classLink a i b :: Cond.initialized b :: at0, vx_ot w = true := by
  intro w hw
  rcases List.mem_cons.mp hw with rfl | hw
  · rfl
  · rcases List.mem_cons.mp hw with rfl | hw
    · rfl
    · exact h w hw

end PureX
