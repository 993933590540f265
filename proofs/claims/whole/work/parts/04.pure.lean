section Pure
def sB (N : Int) (σ : Int → Int) : Prop := ∀ i, -N < σ i ∧ σ i < N
theorem sB_mono {N N' : Int} {σ : Int → Int} (h : N ≤ N') (hs : sB N σ) : sB N' σ := fun i => by
  have := hs i
  exact ⟨by omega, by omega⟩
theorem sB_up {N : Int} {σ : Int → Int} {i v : Int} (hs : sB N σ) (hv : -N < v ∧ v < N) : sB N (up σ i v) := fun j => by
  unfold up
  split
  · exact hv
  · exact hs j
abbrev isDataP (σ : Int → Int) : Prop := σ 6 = 0 ∧ σ 2 < σ 4 ∧ (σ ((18 + (11 * (σ 1))) + 6) + σ 2) < σ ((18 + (11 * (σ 1))) + 0) ∧ (σ ((18 + (11 * (σ 1))) + 6) + σ 2) < σ ((18 + (11 * (σ 1))) + 7)
abbrev isOverP (σ : Int → Int) : Prop := σ 19 = σ 29 ∧ σ 30 = σ 18
def teF (s : Int) (σ : Int → Int) : Int → Int := (if 0 < ((σ ((18 + (11 * s)) + 5)) - (σ ((18 + (11 * (1 - s))) + 10))) then (up (up (up (up (up (σ) ((18 + (11 * (1 - s))) + 6) (σ ((18 + (11 * s)) + 1))) ((18 + (11 * (1 - s))) + 7) ((σ ((18 + (11 * s)) + 2)) + (σ ((18 + (11 * s)) + 3)))) ((18 + (11 * (1 - s))) + 3) ((σ ((18 + (11 * (1 - s))) + 3)) - ((σ ((18 + (11 * s)) + 5)) - (σ ((18 + (11 * (1 - s))) + 10))))) ((18 + (11 * (1 - s))) + 4) ((σ ((18 + (11 * (1 - s))) + 4)) - ((σ ((18 + (11 * s)) + 5)) - (σ ((18 + (11 * (1 - s))) + 10))))) ((18 + (11 * (1 - s))) + 10) (σ ((18 + (11 * s)) + 5))) else (up (up (σ) ((18 + (11 * (1 - s))) + 6) (σ ((18 + (11 * s)) + 1))) ((18 + (11 * (1 - s))) + 7) ((σ ((18 + (11 * s)) + 2)) + (σ ((18 + (11 * s)) + 3)))))
end Pure
