section Pure10
/-- byteAt of the reference -/
def bM (s B : Int → Int) (k : Int) : Int := if k < s 3 then B k % 256 else -1
def uM (B : Int → Int) : Int → Int := fun i => B i % 256
theorem bM_in {s B : Int → Int} {k : Int} : -1 ≤ bM s B k ∧ bM s B k ≤ 255 := by
  unfold bM
  split <;> exact ⟨by omega, by omega⟩
theorem bM_lt {s B : Int → Int} {k : Int} (h : ¬ bM s B k = -1) : k < s 3 := by
  unfold bM at h
  split at h
  · assumption
  · exact absurd rfl h
theorem bM_sp {s B : Int → Int} {k : Int} : spP (bM s B k) ↔ k < s 3 ∧ spP (B k % 256) := by
  unfold bM
  split <;> omega
theorem bM_ltP {s B : Int → Int} {k : Int} : ltP (bM s B k) ↔ k < s 3 ∧ ltP (B k % 256) := by
  unfold bM
  split <;> omega
theorem bM_dgP {s B : Int → Int} {k : Int} : dgP (bM s B k) ↔ k < s 3 ∧ dgP (B k % 256) := by
  unfold bM
  split <;> omega
/-- where the next token starts -/
def stM (s B : Int → Int) : Int := runE spP (uM B) (s 3) (s 5)
def sM1 (s B : Int → Int) : Int → Int := up (up (up s 4 (stM s B)) 5 (stM s B)) 6 4
/-- the number that the first three digits tell -/
def dgM (s B : Int → Int) (st : Int) : Nat → Int
  | 0 => 0
  | k + 1 => if k < 3 then 10 * dgM s B st k + bM s B (st + (k : Int)) - 48 else dgM s B st k
def ntM (s B : Int → Int) : Int → Int :=
  if bM s B (stM s B) = -1 then up (sM1 s B) 6 0
  else if ltP (bM s B (stM s B)) then up (up (sM1 s B) 5 (runE ltP (uM B) (s 3) (stM s B))) 6 (if runE ltP (uM B) (s 3) (stM s B) - stM s B ≤ 8 then 1 else 4)
  else if dgP (bM s B (stM s B)) then up (up (up (sM1 s B) 7 (dgM s B (stM s B) (runE dgP (uM B) (s 3) (stM s B) - stM s B).toNat)) 5 (runE dgP (uM B) (s 3) (stM s B))) 6 (if runE dgP (uM B) (s 3) (stM s B) - stM s B ≤ 3 then 2 else 4)
  else up (up (sM1 s B) 5 (stM s B + 1)) 6 (if bM s B (stM s B) = 59 then 3 else 4)
/-- what holds of the reference's reader -/
def RM (s : Int → Int) : Prop := (0 ≤ s 4 ∧ s 4 ≤ s 5 ∧ s 5 ≤ s 3 ∧ s 3 ≤ 700) ∧ (0 ≤ s 6 ∧ s 6 ≤ 4) ∧ (0 ≤ s 7 ∧ s 7 ≤ 999) ∧ (0 ≤ s 8 ∧ s 8 ≤ 4) ∧ (0 ≤ s 9 ∧ s 9 ≤ 700) ∧ (s 17 = 0 ∨ s 17 = 1) ∧ (s 18 = 0 ∨ s 18 = 1)
def RM1 (s : Int → Int) : Prop := (0 ≤ s 5 ∧ s 5 ≤ s 3 ∧ s 3 ≤ 700) ∧ (0 ≤ s 6 ∧ s 6 ≤ 4) ∧ (0 ≤ s 7 ∧ s 7 ≤ 999) ∧ (0 ≤ s 8 ∧ s 8 ≤ 4) ∧ (0 ≤ s 9 ∧ s 9 ≤ 700) ∧ (s 17 = 0 ∨ s 17 = 1) ∧ (s 18 = 0 ∨ s 18 = 1)
theorem RM_b3 {s : Int → Int} (h : RM s) : 0 ≤ s 3 ∧ s 3 ≤ 700 := by have := h.1; omega
theorem RM_b4 {s : Int → Int} (h : RM s) : 0 ≤ s 4 ∧ s 4 ≤ 700 := by have := h.1; omega
theorem RM_b5 {s : Int → Int} (h : RM s) : 0 ≤ s 5 ∧ s 5 ≤ 700 := by have := h.1; omega
theorem RM_b6 {s : Int → Int} (h : RM s) : 0 ≤ s 6 ∧ s 6 ≤ 4 := h.2.1
theorem RM_b7 {s : Int → Int} (h : RM s) : 0 ≤ s 7 ∧ s 7 ≤ 999 := h.2.2.1
theorem RM_b8 {s : Int → Int} (h : RM s) : 0 ≤ s 8 ∧ s 8 ≤ 4 := h.2.2.2.1
theorem RM_b9 {s : Int → Int} (h : RM s) : 0 ≤ s 9 ∧ s 9 ≤ 700 := h.2.2.2.2.1
theorem RM_b17 {s : Int → Int} (h : RM s) : s 17 = 0 ∨ s 17 = 1 := h.2.2.2.2.2.1
theorem RM_b18 {s : Int → Int} (h : RM s) : s 18 = 0 ∨ s 18 = 1 := h.2.2.2.2.2.2
theorem RM.one {s : Int → Int} (h : RM s) : RM1 s := ⟨⟨by have := h.1; omega, h.1.2.2.1, h.1.2.2.2⟩, h.2⟩
theorem RM_mk {s : Int → Int} {x3 x4 x5 x6 x7 x8 x9 y0 y1 : Int} (e3 : s 3 = x3) (e4 : s 4 = x4) (e5 : s 5 = x5) (e6 : s 6 = x6) (e7 : s 7 = x7) (e8 : s 8 = x8) (e9 : s 9 = x9) (f0 : s 17 = y0) (f1 : s 18 = y1)
    (h1 : 0 ≤ x4 ∧ x4 ≤ x5 ∧ x5 ≤ x3 ∧ x3 ≤ 700) (h2 : 0 ≤ x6 ∧ x6 ≤ 4) (h3 : 0 ≤ x7 ∧ x7 ≤ 999) (h4 : 0 ≤ x8 ∧ x8 ≤ 4) (h5 : 0 ≤ x9 ∧ x9 ≤ 700) (h6 : y0 = 0 ∨ y0 = 1) (h7 : y1 = 0 ∨ y1 = 1) : RM s := by
  subst e3 e4 e5 e6 e7 e8 e9 f0 f1
  exact ⟨h1, h2, h3, h4, h5, h6, h7⟩
theorem dgM_in {s B : Int → Int} {st : Int} : ∀ k : Nat, (∀ j : Nat, j < k → dgP (bM s B (st + (j : Int)))) → 0 ≤ dgM s B st k ∧ (k = 0 → dgM s B st k ≤ 0) ∧ (k = 1 → dgM s B st k ≤ 9) ∧ (k = 2 → dgM s B st k ≤ 99) ∧ dgM s B st k ≤ 999 := by
  intro k
  induction k with
  | zero => intro _; exact ⟨Int.le_refl _, fun _ => Int.le_refl _, fun h => absurd h (by omega), fun h => absurd h (by omega), (show (0 : Int) ≤ 999 by decide)⟩
  | succ k ih =>
    intro hd
    obtain ⟨i1, i2, i3, i4, i5⟩ := ih (fun j hj => hd j (by omega))
    obtain ⟨d1, d2⟩ := hd k (by omega)
    by_cases c : k < 3
    · have e : dgM s B st (k + 1) = 10 * dgM s B st k + bM s B (st + (k : Int)) - 48 := if_pos c
      rw [e]
      rcases (show k = 0 ∨ k = 1 ∨ k = 2 by omega) with rfl | rfl | rfl
      · have := i2 rfl; exact ⟨by omega, by omega, by omega, by omega, by omega⟩
      · have := i3 rfl; exact ⟨by omega, by omega, by omega, by omega, by omega⟩
      · have := i4 rfl; exact ⟨by omega, by omega, by omega, by omega, by omega⟩
    · have e : dgM s B st (k + 1) = dgM s B st k := if_neg c
      rw [e]
      exact ⟨i1, fun h => absurd h (by omega), fun h => absurd h (by omega), fun h => absurd h (by omega), i5⟩
theorem ntM_ok {s B : Int → Int} (h : RM1 s) (_hB : sB 1000 B) : RM (ntM s B) := by
  obtain ⟨⟨a1, a2, a3⟩, ⟨a5, a6⟩, ⟨a7, a8⟩, ⟨a9, a10⟩, ⟨a11, a12⟩, a13, a14⟩ := h
  have r : s 5 ≤ stM s B ∧ stM s B ≤ s 3 := runE_in a2
  unfold ntM
  by_cases c1 : bM s B (stM s B) = -1
  · rw [if_pos c1]
    exact RM_mk (x3 := s 3) (x4 := stM s B) (x5 := stM s B) (x6 := 0) (x7 := s 7) (x8 := s 8) (x9 := s 9) (y0 := s 17) (y1 := s 18) rfl rfl rfl rfl rfl rfl rfl rfl rfl ⟨by omega, by omega, by omega, by omega⟩ (by decide) ⟨a7, a8⟩ ⟨a9, a10⟩ ⟨a11, a12⟩ a13 a14
  · rw [if_neg c1]
    have hlt := bM_lt c1
    by_cases c2 : ltP (bM s B (stM s B))
    · rw [if_pos c2]
      have q : stM s B ≤ runE ltP (uM B) (s 3) (stM s B) ∧ runE ltP (uM B) (s 3) (stM s B) ≤ s 3 := runE_in r.2
      refine RM_mk (x3 := s 3) (x4 := stM s B) (x5 := runE ltP (uM B) (s 3) (stM s B)) (x6 := if runE ltP (uM B) (s 3) (stM s B) - stM s B ≤ 8 then 1 else 4) (x7 := s 7) (x8 := s 8) (x9 := s 9) (y0 := s 17) (y1 := s 18) rfl rfl rfl rfl rfl rfl rfl rfl rfl ⟨by omega, by omega, by omega, by omega⟩ ?_ ⟨a7, a8⟩ ⟨a9, a10⟩ ⟨a11, a12⟩ a13 a14
      split <;> decide
    · rw [if_neg c2]
      by_cases c3 : dgP (bM s B (stM s B))
      · rw [if_pos c3]
        have q : stM s B ≤ runE dgP (uM B) (s 3) (stM s B) ∧ runE dgP (uM B) (s 3) (stM s B) ≤ s 3 := runE_in r.2
        have d := dgM_in (s := s) (B := B) (st := stM s B) (runE dgP (uM B) (s 3) (stM s B) - stM s B).toNat (fun j hj => bM_dgP.mpr ⟨by omega, runE_p (p := dgP) (bu := uM B) (n := s 3) (by omega)⟩)
        refine RM_mk (x3 := s 3) (x4 := stM s B) (x5 := runE dgP (uM B) (s 3) (stM s B)) (x6 := if runE dgP (uM B) (s 3) (stM s B) - stM s B ≤ 3 then 2 else 4) (x7 := dgM s B (stM s B) (runE dgP (uM B) (s 3) (stM s B) - stM s B).toNat) (x8 := s 8) (x9 := s 9) (y0 := s 17) (y1 := s 18) rfl rfl rfl rfl rfl rfl rfl rfl rfl ⟨by omega, by omega, by omega, by omega⟩ ?_ ⟨d.1, d.2.2.2.2⟩ ⟨a9, a10⟩ ⟨a11, a12⟩ a13 a14
        split <;> decide
      · rw [if_neg c3]
        refine RM_mk (x3 := s 3) (x4 := stM s B) (x5 := stM s B + 1) (x6 := if bM s B (stM s B) = 59 then 3 else 4) (x7 := s 7) (x8 := s 8) (x9 := s 9) (y0 := s 17) (y1 := s 18) rfl rfl rfl rfl rfl rfl rfl rfl rfl ⟨by omega, by omega, by omega, by omega⟩ ?_ ⟨a7, a8⟩ ⟨a9, a10⟩ ⟨a11, a12⟩ a13 a14
        split <;> decide

end Pure10
