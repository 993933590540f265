section Chg
/-- one of a station's numbers read, accepted-of-the-host, capacity, wanted is another one -/
theorem J_chg {σ : Int → Int} (h : J σ) {j v : Int} (hj : j = 20 ∨ j = 21 ∨ j = 22 ∨ j = 31 ∨ j = 32 ∨ j = 33)
    (g20 : j = 20 → 0 ≤ v ∧ v ≤ σ 19) (g31 : j = 31 → 0 ≤ v ∧ v ≤ σ 30)
    (g21 : j = 21 → σ 22 + 1 ≤ v ∧ v ≤ 9) (g32 : j = 32 → σ 33 + 1 ≤ v ∧ v ≤ 9)
    (g22 : j = 22 → σ 22 ≤ v ∧ v + 1 ≤ σ 21) (g33 : j = 33 → σ 33 ≤ v ∧ v + 1 ≤ σ 32) : J (up σ j v) := by
  obtain ⟨h0, h1, h2, h3, h4, h5, h6⟩ := h
  simp only [J0, JS, JA, JP, Int.reduceAdd] at h0 h1 h2 h3 h4
  refine ⟨?_, ?_, ?_, ?_, ?_, JR_c h5 (fun i a => up_n (by omega)), by rw [up_n (by omega)]; exact h6⟩
  all_goals
    simp only [J0, JS, JA, JP, Int.reduceAdd]
    rcases hj with rfl | rfl | rfl | rfl | rfl | rfl <;>
      simp only [up, Int.reduceEq, if_true, if_false] <;>
      first
      | assumption
      | (refine ⟨?_, ?_, ?_, ?_, ?_, ?_, ?_, ?_, ?_, ?_⟩ <;> omega)
      | (split at h3 <;> rename_i c <;> simp only [c, if_true, if_false] <;> omega)
/-- the same numbers in a Line -/
theorem RN_chg {F : Int → Int → Int} {σ : Int → Int} (h : RN F σ) {s p v : Int} (hs : s = 0 ∨ s = 1) (hp : 0 ≤ p ∧ p ≤ 10) : RN (up F (1 + s) (up (F (1 + s)) p v)) (up σ (18 + 11 * s + p) v) := by
  obtain ⟨⟨a1, a2, a3, a4, a5⟩, b, c, d⟩ := h
  refine ⟨?_, ?_, ?_, ?_⟩
  · rw [up_n (show (0 : Int) ≠ 1 + s by omega), up_n (show (1 : Int) ≠ 18 + 11 * s + p by omega), up_n (show (2 : Int) ≠ 18 + 11 * s + p by omega), up_n (show (4 : Int) ≠ 18 + 11 * s + p by omega), up_n (show (5 : Int) ≠ 18 + 11 * s + p by omega), up_n (show (6 : Int) ≠ 18 + 11 * s + p by omega)]
    exact ⟨a1, a2, a3, a4, a5⟩
  · intro i i0 i1
    rcases hs with rfl | rfl
    · rw [show (1 : Int) + 0 = 1 from rfl, up_s]
      by_cases e : i = p
      · rw [e, up_s, show 18 + 11 * 0 + p = 18 + 11 * (0 : Int) + p from rfl, show (18 : Int) + p = 18 + 11 * 0 + p by omega, up_s]
      · rw [up_n e, up_n (by omega)]; exact b i i0 i1
    · rw [show (1 : Int) + 1 = 2 from rfl, up_n (show (1 : Int) ≠ 2 by decide), up_n (by omega)]; exact b i i0 i1
  · intro i i0 i1
    rcases hs with rfl | rfl
    · rw [show (1 : Int) + 0 = 1 from rfl, up_n (show (2 : Int) ≠ 1 by decide), up_n (by omega)]; exact c i i0 i1
    · rw [show (1 : Int) + 1 = 2 from rfl, up_s]
      by_cases e : i = p
      · rw [e, up_s, show (29 : Int) + p = 18 + 11 * 1 + p by omega, up_s]
      · rw [up_n e, up_n (by omega)]; exact c i i0 i1
  · intro i i0 i1
    rw [up_n (show (5 : Int) ≠ 1 + s by omega), up_n (by omega)]; exact d i i0 i1
theorem GOOD_chg {F : Int → Int → Int} {K : Int → Int → Int64} {σ : Int → Int} (h : GOOD F K σ) {s p v : Int} (hs : s = 0 ∨ s = 1) (hp : 1 ≤ p ∧ p ≤ 10) (hJ : J (up σ (18 + 11 * s + p) v)) : GOOD (up F (1 + s) (up (F (1 + s)) p v)) K (up σ (18 + 11 * s + p) v) := by
  obtain ⟨⟨r1, r2, r3, r4⟩, j, e4, e7, e3, et, e9, ee, el⟩ := h
  have u : ∀ i, (i ≤ 18 ∨ i = 29 ∨ 40 ≤ i) → up σ (18 + 11 * s + p) v i = σ i := fun i c => up_n (by omega)
  have w : ∀ i, (i = 0 ∨ 3 ≤ i) → up F (1 + s) (up (F (1 + s)) p v) i = F i := fun i c => up_n (by omega)
  have lzu : ∀ f, lz (up σ (18 + 11 * s + p) v) f = lz σ f := fun f => lz_c (u 7 (by decide)) (fun i c => u i (by omega))
  refine ⟨⟨RN_chg r1 hs (by omega), RT_c r2 (w 3 (by decide)) (w 4 (by decide)) (fun i c => u i (by omega)), ?_, ?_⟩, hJ, ?_, ?_, ?_, ?_, ?_, ?_, ?_⟩
  · intro f hf
    rw [u 3 (by decide)] at hf
    rw [lzu, w 0 (by decide)]
    exact r3 f hf
  · refine RB_c r4 ?_
    intro i i2 c
    by_cases e : i = 1 + s
    · rw [e, up_s]
      by_cases e2 : i2 = p
      · exact absurd (Or.inr (Or.inl ⟨by omega, by omega, by omega⟩)) c
      · rw [up_n e2]
    · rw [up_n e]
  · rw [u 4 (by decide)]; exact e4
  · rw [u 7 (by decide)]; exact e7
  · rw [u 3 (by decide)]; exact e3
  · intro i a b
    rw [u 7 (by decide)] at b
    rw [u _ (by omega)]
    exact et i a b
  · rw [w 0 (by decide)]; exact e9
  · rw [w 0 (by decide), u 7 (by decide)]; exact ee
  · intro f hf
    rw [lzu]
    exact el f hf
theorem GOOD_rd {F : Int → Int → Int} {K : Int → Int → Int64} {σ : Int → Int} (h : GOOD F K σ) {s q : Int} (hs : 0 ≤ s ∧ s ≤ 1) (hq : 1 ≤ q) (hr : q ≤ σ (18 + 11 * s + 1) - σ (18 + 11 * s + 2)) : GOOD (up F (1 + s) (up (F (1 + s)) 2 (F (1 + s) 2 + q))) K (up σ ((18 + (11 * s)) + 2) ((σ ((18 + (11 * s)) + 2)) + q)) := by
  have hs2 : s = 0 ∨ s = 1 := by omega
  have e : F (1 + s) 2 = σ (18 + 11 * s + 2) := by
    rcases hs2 with rfl | rfl
    · exact h.1.1.2.1 2 (by decide) (by decide)
    · exact h.1.1.2.2.1 2 (by decide) (by decide)
  rw [e]
  refine GOOD_chg h hs2 (by decide) ?_
  have hj := h.2.1
  have h1 := hj.2.1
  have h2 := hj.2.2.1
  simp only [JS, Int.reduceAdd] at h1 h2
  rcases hs2 with rfl | rfl <;> simp only [Int.reduceAdd, Int.reduceMul] at hr ⊢ <;> exact J_chg hj (by decide) (by omega) (by omega) (by omega) (by omega) (by omega) (by omega)
theorem GOOD_ak {F : Int → Int → Int} {K : Int → Int → Int64} {σ : Int → Int} (h : GOOD F K σ) {s q : Int} (hs : 0 ≤ s ∧ s ≤ 1) (hq : 1 ≤ q) (hr : ¬ σ (18 + 11 * s + 3) - σ (18 + 11 * s + 4) - q < 1) : GOOD (up F (1 + s) (up (F (1 + s)) 4 (F (1 + s) 4 + q))) K (up σ ((18 + (11 * s)) + 4) ((σ ((18 + (11 * s)) + 4)) + q)) := by
  have hs2 : s = 0 ∨ s = 1 := by omega
  have e : F (1 + s) 4 = σ (18 + 11 * s + 4) := by
    rcases hs2 with rfl | rfl
    · exact h.1.1.2.1 4 (by decide) (by decide)
    · exact h.1.1.2.2.1 4 (by decide) (by decide)
  rw [e]
  refine GOOD_chg h hs2 (by decide) ?_
  have hj := h.2.1
  have h1 := hj.2.1
  have h2 := hj.2.2.1
  simp only [JS, Int.reduceAdd] at h1 h2
  rcases hs2 with rfl | rfl <;> simp only [Int.reduceAdd, Int.reduceMul] at hr ⊢ <;> exact J_chg hj (by decide) (by omega) (by omega) (by omega) (by omega) (by omega) (by omega)
theorem GOOD_gr {F : Int → Int → Int} {K : Int → Int → Int64} {σ : Int → Int} (h : GOOD F K σ) {s q : Int} (hs : 0 ≤ s ∧ s ≤ 1) (hq : 1 ≤ q) (hr : ¬ (9 < σ (18 + 11 * s + 3) + q ∨ 0 < σ (18 + 11 * s + 4))) : GOOD (up F (1 + s) (up (F (1 + s)) 3 (F (1 + s) 3 + q))) K (up σ ((18 + (11 * s)) + 3) ((σ ((18 + (11 * s)) + 3)) + q)) := by
  have hs2 : s = 0 ∨ s = 1 := by omega
  have e : F (1 + s) 3 = σ (18 + 11 * s + 3) := by
    rcases hs2 with rfl | rfl
    · exact h.1.1.2.1 3 (by decide) (by decide)
    · exact h.1.1.2.2.1 3 (by decide) (by decide)
  rw [e]
  refine GOOD_chg h hs2 (by decide) ?_
  have hj := h.2.1
  have h1 := hj.2.1
  have h2 := hj.2.2.1
  simp only [JS, Int.reduceAdd] at h1 h2
  rcases hs2 with rfl | rfl <;> simp only [Int.reduceAdd, Int.reduceMul] at hr ⊢ <;> exact J_chg hj (by decide) (by omega) (by omega) (by omega) (by omega) (by omega) (by omega)
end Chg
