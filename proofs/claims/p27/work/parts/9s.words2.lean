section LawWords2
theorem wsL_law_x0 : ∀ w ∈ (vx_atS RX7 76 "java/lang/IllegalArgumentException" ["java/lang/RuntimeException", "java/lang/Exception"]).filter goodWord, w ∈ lw_tb2 := by decide +kernel
theorem wsL_law_x1 : ∀ w ∈ (vx_atS RX7 148 "java/lang/IndexOutOfBoundsException" ["java/lang/RuntimeException", "java/lang/Exception"]).filter goodWord, w ∈ lw_tb2 := by decide +kernel
theorem wsL_law_x2 : ∀ w ∈ (vx_atS RX7 217 "java/lang/IllegalStateException" ["java/lang/RuntimeException", "java/lang/Exception"]).filter goodWord, w ∈ lw_tb2 := by decide +kernel
theorem wsL_law_tl : ∀ w ∈ wsL_law, w ∈ lw_tb2 := fun w h => (List.mem_append.mp h).elim (fun h => (List.mem_append.mp h).elim (fun h => (List.mem_append.mp h).elim (fun h => wsL_law0_tl w h) (fun h => wsL_law_x0 w h)) (fun h => wsL_law_x1 w h)) (fun h => wsL_law_x2 w h)
end LawWords2
