section PureL13
theorem enV_p {rd : Int} {K : Int → Int → Int64} {F : Int → Int → Int} {q : Int} (h : 0 < enV rd K F q) : enV rd K F q = (enK rd K F q : Int) ∧ (enK rd K F q : Int) ≤ q := by
  unfold enV at h ⊢
  split at h
  · rename_i c; rw [if_pos c]; exact ⟨rfl, c⟩
  · omega
theorem tm_in {F : Int → Int → Int} (h : ∀ i, sB 100000000 (F i)) : -200000000 < tmL F ∧ tmL F < 200000000 := by
  have a := h 5 6
  have b := h 5 8
  unfold tmL
  exact ⟨by omega, by omega⟩
/-- the trial that loses the n-th frame to come -/
def woT (K : Int → Int → Int64) (F : Int → Int → Int) (n : Nat) : Int → Int → Int := up (lrL (itL 1 K F n)) 0 (up (lrL (itL 1 K F n) 0) 9 (lrL (itL 1 K F n) 5 0))
def woD (K : Int → Int → Int64) (F : Int → Int → Int) (n : Nat) : Int := tmL (itL 1 K (woT K F n) (enK 1 K (woT K F n) (600 - (n : Int)))) - tmL (itL 1 K F (enK 1 K F 600))
def woL (K : Int → Int → Int64) (F : Int → Int → Int) : Nat → Int × Int
  | 0 => (-1, 0)
  | n + 1 => if ¬ enV 1 K (woT K F n) (600 - (n : Int)) = -1 ∧ ((woL K F n).1 = -1 ∨ (woL K F n).2 < woD K F n) then (lrL (itL 1 K F n) 5 0, woD K F n) else woL K F n
def wsL (K : Int → Int → Int64) (F : Int → Int → Int) : Int := if enV 1 K F 600 ≤ 0 then -1 else (woL K F (enK 1 K F 600)).1
theorem woD_sm {K : Int → Int → Int64} {F : Int → Int → Int} {n : Nat} (h : FOK 1 K F 600) (hw : FOK 1 K (woT K F n) (600 - (n : Int))) (h1 : (enK 1 K F 600 : Int) ≤ 600) (h2 : (enK 1 K (woT K F n) (600 - (n : Int)) : Int) ≤ 600 - (n : Int)) : sm (woD K F n) := by
  have a := tm_in (h _ h1).1
  have b := tm_in (hw _ h2).1
  unfold woD
  exact ⟨by omega, by omega⟩
theorem woL_sm {K : Int → Int → Int64} {F : Int → Int → Int} (h : FOK 1 K F 600) (hw : ∀ n : Nat, n < 600 → FOK 1 K (woT K F n) (600 - (n : Int))) (h1 : (enK 1 K F 600 : Int) ≤ 600) : ∀ n : Nat, n ≤ 600 → sm (woL K F n).1 ∧ sm (woL K F n).2 := by
  intro n
  induction n with
  | zero => intro _; exact (show sm (-1) ∧ sm 0 from by decide)
  | succ n ih =>
    intro hn
    by_cases c : ¬ enV 1 K (woT K F n) (600 - (n : Int)) = -1 ∧ ((woL K F n).1 = -1 ∨ (woL K F n).2 < woD K F n)
    · have e : woL K F (n + 1) = (lrL (itL 1 K F n) 5 0, woD K F n) := if_pos c
      have e1 : (woL K F (n + 1)).1 = lrL (itL 1 K F n) 5 0 := by rw [e]
      have e2 : (woL K F (n + 1)).2 = woD K F n := by rw [e]
      rw [e1, e2]
      have a := (h n (by omega)).1 5 0
      have a2 : lrL (itL 1 K F n) 5 0 = itL 1 K F n 5 0 := rfl
      rw [a2]
      exact ⟨⟨by omega, by omega⟩, woD_sm h (hw n (by omega)) h1 (enV_n.mp c.1)⟩
    · rw [show woL K F (n + 1) = woL K F n from if_neg c]
      exact ih (by omega)

end PureL13
