section Rel
/-- ranges of the reference's now -/
def J0 (σ : Int → Int) : Prop := (σ 1 = 0 ∨ σ 1 = 1) ∧ (σ 6 = 0 ∨ σ 6 = 1) ∧ (0 ≤ σ 2 ∧ σ 2 ≤ 7) ∧ (0 ≤ σ 4 ∧ σ 4 ≤ 7) ∧ (1 ≤ σ 5 ∧ σ 5 ≤ 99) ∧ (0 ≤ σ 7 ∧ σ 7 ≤ 41)
/-- a station's numbers, at o; those of the other one at u -/
def JS (σ : Int → Int) (o u : Int) : Prop := (0 ≤ σ o ∧ σ o ≤ 20) ∧ (0 ≤ σ (o + 1) ∧ σ (o + 1) ≤ σ u) ∧ (0 ≤ σ (o + 2) ∧ σ (o + 2) ≤ σ (o + 1)) ∧ (0 ≤ σ (o + 4) ∧ 1 ≤ σ (o + 3) - σ (o + 4) ∧ σ (o + 3) ≤ 9) ∧ (0 ≤ σ (o + 6) ∧ σ (o + 6) ≤ 20) ∧ (0 ≤ σ (o + 7) ∧ σ (o + 7) ≤ 29) ∧ (0 ≤ σ (o + 8) ∧ σ (o + 8) ≤ 20) ∧ (0 ≤ σ (o + 9) ∧ σ (o + 9) ≤ σ 3) ∧ (0 ≤ σ (o + 5) ∧ σ (o + 5) ≤ 29 * σ 3) ∧ 0 ≤ σ (o + 10)
/-- what is returned and not noted yet -/
def JP (σ : Int → Int) : Prop := if σ 1 = 0 then σ 34 = σ 28 ∧ 0 ≤ σ 23 - σ 39 ∧ σ 23 - σ 39 ≤ σ 33 else σ 23 = σ 39 ∧ 0 ≤ σ 34 - σ 28 ∧ σ 34 - σ 28 ≤ σ 22
def JA (σ : Int → Int) : Prop := σ 8 = σ 3 ∧ (0 ≤ σ 9 ∧ σ 9 ≤ σ 3) ∧ (0 ≤ σ 10 ∧ σ 10 ≤ σ 3) ∧ (0 ≤ σ 11 ∧ σ 11 ≤ σ 3) ∧ (0 ≤ σ 12 ∧ σ 12 ≤ σ 3) ∧ (0 ≤ σ 13 ∧ σ 13 ≤ σ 3) ∧ (0 ≤ σ 14 ∧ σ 14 ≤ 32 * σ 3) ∧ (0 ≤ σ 15 ∧ σ 15 ≤ 15 * σ 3) ∧ (0 ≤ σ 16 ∧ σ 16 ≤ 99 * σ 3) ∧ (0 ≤ σ 17 ∧ σ 17 ≤ σ 3) ∧ σ 0 = σ 14 + σ 16
def JR (σ : Int → Int) : Prop := (∀ j, 40 ≤ j → j < 80 → 0 ≤ σ j ∧ σ j ≤ 8) ∧ (∀ j, 80 ≤ j → j < 400 → 0 ≤ σ j ∧ σ j ≤ 255) ∧ (∀ j, 400 ≤ j → j < 441 → -10000 ≤ σ j ∧ σ j ≤ 10000) ∧ ∀ j, j < 0 ∨ 441 ≤ j → σ j = 0
def J (σ : Int → Int) : Prop := J0 σ ∧ JS σ 18 29 ∧ JS σ 29 18 ∧ JP σ ∧ JA σ ∧ JR σ ∧ 0 ≤ σ 3
/-- the places of a Line that the reference has too -/
def Rl (i j : Int) : Prop := (i = 0 ∧ (j = 1 ∨ j = 2 ∨ j = 4 ∨ j = 5 ∨ j = 6)) ∨ ((i = 1 ∨ i = 2) ∧ 0 ≤ j ∧ j ≤ 10) ∨ (i = 5 ∧ 0 ≤ j ∧ j ≤ 9)
def RN (F : Int → Int → Int) (σ : Int → Int) : Prop := (F 0 1 = σ 1 ∧ F 0 2 = σ 2 ∧ F 0 4 = σ 4 ∧ F 0 5 = σ 5 ∧ F 0 6 = σ 6) ∧ (∀ p, 0 ≤ p → p ≤ 10 → F 1 p = σ (18 + p)) ∧ (∀ p, 0 ≤ p → p ≤ 10 → F 2 p = σ (29 + p)) ∧ ∀ i, 0 ≤ i → i ≤ 9 → F 5 i = σ (8 + i)
def RT (F : Int → Int → Int) (K : Int → Int → Int64) (σ : Int → Int) : Prop := (∀ m, 0 ≤ m → m < σ 18 → F 3 m = σ (40 + m)) ∧ (∀ m, 0 ≤ m → m < σ 29 → F 4 m = σ (60 + m)) ∧ (∀ m k, 0 ≤ m → m < σ 18 → 0 ≤ k → k < σ (40 + m) → cB0 (K 0 m) k % 256 = σ (80 + 8 * m + k)) ∧ (∀ m k, 0 ≤ m → m < σ 29 → 0 ≤ k → k < σ (60 + m) → cB0 (K 1 m) k % 256 = σ (240 + 8 * m + k))
def RK (F : Int → Int → Int) (K : Int → Int → Int64) (σ : Int → Int) : Prop := ∀ f, σ 3 ≤ f → ((tlL (K 2) f ∨ f = F 0 9) ↔ ¬ lz σ f = 0)
def RB (F : Int → Int → Int) : Prop := (∀ j, 0 ≤ F 3 j ∧ F 3 j ≤ 8) ∧ (∀ j, 0 ≤ F 4 j ∧ F 4 j ≤ 8) ∧ ∀ i j, ¬ Rl i j → -10000 ≤ F i j ∧ F i j ≤ 10000
def REL (F : Int → Int → Int) (K : Int → Int → Int64) (σ : Int → Int) : Prop := RN F σ ∧ RT F K σ ∧ RK F K σ ∧ RB F
/-- a Line outside forecasts -/
def GOOD (F : Int → Int → Int) (K : Int → Int → Int64) (σ : Int → Int) : Prop := REL F K σ ∧ J σ ∧ 1 ≤ σ 4 ∧ σ 7 ≤ 40 ∧ σ 3 ≤ 2000 ∧ (∀ j, 0 ≤ j → j < σ 7 → 0 ≤ σ (400 + j) ∧ σ (400 + j) < 2000) ∧ F 0 9 = -1 ∧ F 0 7 = σ 7 ∧ ∀ f, 0 ≤ f → (tlL (K 2) f ↔ ¬ lz σ f = 0)
/-- a block of 441 places -/
def blk (h : Int → Int) (n : Int) : Int → Int := fun j => if 0 ≤ j ∧ j < 441 then h (441 * n + j) else 0
/-- class and reference hold the same -/
def TI (f bu : Int → Int) (Q : Nat → Int → Int → Int) (R : Nat → Int → Int → Int64) (LF : Nat → Int → Int → Int) (LK : Nat → Int → Int → Int64) (z : Int → Int) (M : Int → Int → Int) : Prop :=
  GOOD (Q 0) (R 0) (M 2) ∧ (Q 1 = liI ∧ R 1 = fun _ _ => 0) ∧
  ((0 ≤ z 0 ∧ z 0 ≤ 10) ∧ M 0 14 = z 0 ∧ (∀ n : Nat, (n : Int) < z 0 → GOOD (LF n) (LK n) (blk (M 5) n)) ∧ ∀ n : Nat, LF n 0 6 = 0 ∨ LF n 0 6 = 1) ∧
  (z 1 = M 7 0 ∧ z 2 = M 7 1 ∧ (∀ j, M 7 j = 0 ∨ M 7 j = 1) ∧ (z 1 = 1 → GOOD (Q 5) (R 5) (blk (M 6) 0)) ∧ (z 2 = 1 → GOOD (Q 6) (R 6) (blk (M 6) 1)) ∧ (Q 5 0 6 = 0 ∨ Q 5 0 6 = 1) ∧ (Q 6 0 6 = 0 ∨ Q 6 0 6 = 1)) ∧
  (RO f ∧ RM (M 0) ∧ f 0 = M 0 2 ∧ sB 129 bu ∧ sB 129 (M 1) ∧ (∀ j, 0 ≤ j → j < f 0 → bu j = M 1 j) ∧ M 0 24 = 0)
/-- what a Line's numbers are at most -/
theorem J_B {σ : Int → Int} (h : J σ) (h3 : σ 3 ≤ 5000) : sB 1000000 σ := by
  simp only [J, J0, JS, JA, JR, Int.reduceAdd] at h
  obtain ⟨⟨a1, a2, a3, a4, a5, a6⟩, ⟨b1, b2, b3, b4, b5, b6, b7, b8, b9, b10⟩, ⟨c1, c2, c3, c4, c5, c6, c7, c8, c9, c10⟩, d, ⟨e1, e2, e3, e4, e5, e6, e7, e8, e9, e10, e11⟩, ⟨g1, g2, g3, g4⟩, g5⟩ := h
  have hd : σ 28 ≤ 29 * σ 3 ∧ σ 39 ≤ 29 * σ 3 := by
    unfold JP at d
    split at d <;> exact ⟨by omega, by omega⟩
  intro j
  by_cases h1 : j < 0 ∨ 441 ≤ j
  · rw [g4 j h1]; decide
  · by_cases h2 : 400 ≤ j
    · have := g3 j h2 (by omega); exact ⟨by omega, by omega⟩
    · by_cases h4 : 80 ≤ j
      · have := g2 j h4 (by omega); exact ⟨by omega, by omega⟩
      · by_cases h5 : 40 ≤ j
        · have := g1 j h5 (by omega); exact ⟨by omega, by omega⟩
        · rcases (show j = 0 ∨ j = 1 ∨ j = 2 ∨ j = 3 ∨ j = 4 ∨ j = 5 ∨ j = 6 ∨ j = 7 ∨ j = 8 ∨ j = 9 ∨ j = 10 ∨ j = 11 ∨ j = 12 ∨ j = 13 ∨ j = 14 ∨ j = 15 ∨ j = 16 ∨ j = 17 ∨ j = 18 ∨ j = 19 ∨ j = 20 ∨ j = 21 ∨ j = 22 ∨ j = 23 ∨ j = 24 ∨ j = 25 ∨ j = 26 ∨ j = 27 ∨ j = 28 ∨ j = 29 ∨ j = 30 ∨ j = 31 ∨ j = 32 ∨ j = 33 ∨ j = 34 ∨ j = 35 ∨ j = 36 ∨ j = 37 ∨ j = 38 ∨ j = 39 by omega) with rfl | rfl | rfl | rfl | rfl | rfl | rfl | rfl | rfl | rfl | rfl | rfl | rfl | rfl | rfl | rfl | rfl | rfl | rfl | rfl | rfl | rfl | rfl | rfl | rfl | rfl | rfl | rfl | rfl | rfl | rfl | rfl | rfl | rfl | rfl | rfl | rfl | rfl | rfl | rfl <;>
          exact ⟨by omega, by omega⟩
end Rel
