section PureL15
abbrev spP (v : Int) : Prop := v = 32 ∨ v = 10
abbrev ltP (v : Int) : Prop := 97 ≤ v ∧ v ≤ 122
abbrev dgP (v : Int) : Prop := 48 ≤ v ∧ v ≤ 57
/-- where a run of such bytes from s on ends, n at the latest -/
def runE (p : Int → Prop) [DecidablePred p] (bu : Int → Int) (n s : Int) : Int := s + (skN (fun j : Nat => ¬ (s + (j : Int) < n ∧ p (bu (s + (j : Int))))) (n - s).toNat : Int)
theorem skN_le {p : Nat → Prop} [DecidablePred p] : ∀ m : Nat, skN p m ≤ m := by
  intro m
  induction m with
  | zero => exact Nat.le_refl _
  | succ m ih =>
    show (if p (skN p m) then skN p m else m + 1) ≤ m + 1
    split <;> omega
theorem skN_s {p : Nat → Prop} [DecidablePred p] : ∀ m : Nat, (∀ j, j < skN p m → ¬ p j) ∧ (p (skN p m) ∨ skN p m = m) := by
  intro m
  induction m with
  | zero => exact ⟨fun j hj => absurd hj (Nat.not_lt_zero j), Or.inr rfl⟩
  | succ m ih =>
    have hl := skN_le (p := p) m
    by_cases c : p (skN p m)
    · rw [show skN p (m + 1) = skN p m from if_pos c]
      exact ⟨ih.1, Or.inl c⟩
    · rw [show skN p (m + 1) = m + 1 from if_neg c]
      have em : skN p m = m := by rcases ih.2 with h | h; exact absurd h c; exact h
      refine ⟨fun j hj => ?_, Or.inr rfl⟩
      by_cases e : j = m
      · rw [e, ← em]; exact c
      · exact ih.1 j (by omega)
theorem runE_in {p : Int → Prop} [DecidablePred p] {bu : Int → Int} {n s : Int} (h : s ≤ n) : s ≤ runE p bu n s ∧ runE p bu n s ≤ n := by
  have := skN_le (p := fun j : Nat => ¬ (s + (j : Int) < n ∧ p (bu (s + (j : Int))))) (n - s).toNat
  unfold runE
  exact ⟨by omega, by omega⟩
/-- the number that the first k digits tell -/
def dgV (bu : Int → Int) (s : Int) : Nat → Int
  | 0 => 0
  | k + 1 => 10 * dgV bu s k + bu (s + (k : Int)) - 48
/-- what holds of a reader -/
def RO (f : Int → Int) : Prop := (0 ≤ f 4 ∧ f 4 ≤ f 2 ∧ f 2 ≤ f 1 ∧ f 1 ≤ 700) ∧ (0 ≤ f 3 ∧ f 3 ≤ 4) ∧ (f 3 = 2 → 0 ≤ f 5 ∧ f 5 ≤ 999) ∧ (0 ≤ f 6 ∧ f 6 ≤ 700) ∧ (0 ≤ f 7 ∧ f 7 ≤ 10000) ∧ (f 8 = 0 ∨ f 8 = 1) ∧ (f 9 = 0 ∨ f 9 = 1) ∧ (0 ≤ f 0 ∧ f 0 ≤ 700)
/-- .. before it has its first token -/
def RO1 (f : Int → Int) : Prop := (0 ≤ f 4 ∧ f 4 ≤ 700 ∧ 0 ≤ f 2 ∧ f 2 ≤ f 1 ∧ f 1 ≤ 700) ∧ (0 ≤ f 3 ∧ f 3 ≤ 4) ∧ (f 3 = 2 → 0 ≤ f 5 ∧ f 5 ≤ 999) ∧ (0 ≤ f 6 ∧ f 6 ≤ 700) ∧ (0 ≤ f 7 ∧ f 7 ≤ 10000) ∧ (f 8 = 0 ∨ f 8 = 1) ∧ (f 9 = 0 ∨ f 9 = 1) ∧ (0 ≤ f 0 ∧ f 0 ≤ 700)
theorem RO.one {f : Int → Int} (h : RO f) : RO1 f := ⟨⟨h.1.1, by have := h.1; omega, by have := h.1; omega, h.1.2.2.1, h.1.2.2.2⟩, h.2⟩
def plR (f bu : Int → Int) : Int → Int := up (up f 2 (runE ltP bu (f 1) (f 2))) 3 (if 8 < runE ltP bu (f 1) (f 2) - f 4 then 4 else 1)
def pdR (f bu : Int → Int) : Int → Int := up (up (up f 5 (dgV bu (f 2) (runE dgP bu (f 1) (f 2) - f 2).toNat)) 2 (runE dgP bu (f 1) (f 2))) 3 (if 3 < runE dgP bu (f 1) (f 2) - f 4 then 4 else 2)
def skR (f bu : Int → Int) : Int → Int := up (up f 2 (runE spP bu (f 1) (f 2))) 4 (runE spP bu (f 1) (f 2))
def avR (f bu : Int → Int) : Int → Int := if f 1 ≤ runE spP bu (f 1) (f 2) then up (skR f bu) 3 0 else if bu (runE spP bu (f 1) (f 2)) = 59 then up (up (skR f bu) 3 3) 2 (runE spP bu (f 1) (f 2) + 1) else if ltP (bu (runE spP bu (f 1) (f 2))) then plR (skR f bu) bu else if dgP (bu (runE spP bu (f 1) (f 2))) then pdR (skR f bu) bu else up (skR f bu) 3 4

theorem sbX_up {f : Int → Int} {k v : Int} (h : sbX f) (hv : -1073741824 < v ∧ v < 1073741824) : sbX (up f k v) := fun i h0 h1 h2 => by
  unfold up
  split
  · exact hv
  · exact h i h0 h1 h2
theorem sbX_up5 {f : Int → Int} {v : Int} (h : sbX f) : sbX (up f 5 v) := fun i h0 h1 h2 => by
  rw [up_n h2]
  exact h i h0 h1 h2
theorem RO1_sb {f : Int → Int} (h : RO1 f) : sbX f := fun i h0 h1 h2 => by
  obtain ⟨⟨a1, a1b, a2, a3, a4⟩, ⟨a5, a6⟩, a7, ⟨a8, a9⟩, ⟨a10, a11⟩, a12, a13, a14, a15⟩ := h
  rcases (show i = 0 ∨ i = 1 ∨ i = 2 ∨ i = 3 ∨ i = 4 ∨ i = 6 ∨ i = 7 ∨ i = 8 ∨ i = 9 by omega) with rfl | rfl | rfl | rfl | rfl | rfl | rfl | rfl | rfl <;> exact ⟨by omega, by omega⟩
theorem RO_sb {f : Int → Int} (h : RO f) : sbX f := RO1_sb h.one
theorem RO_mk {f : Int → Int} {x0 x1 x2 x3 x4 x5 x6 x7 x8 x9 : Int} (e0 : f 0 = x0) (e1 : f 1 = x1) (e2 : f 2 = x2) (e3 : f 3 = x3) (e4 : f 4 = x4) (e5 : f 5 = x5) (e6 : f 6 = x6) (e7 : f 7 = x7) (e8 : f 8 = x8) (e9 : f 9 = x9)
    (h1 : 0 ≤ x4 ∧ x4 ≤ x2 ∧ x2 ≤ x1 ∧ x1 ≤ 700) (h2 : 0 ≤ x3 ∧ x3 ≤ 4) (h3 : x3 = 2 → 0 ≤ x5 ∧ x5 ≤ 999) (h4 : 0 ≤ x6 ∧ x6 ≤ 700) (h5 : 0 ≤ x7 ∧ x7 ≤ 10000) (h6 : x8 = 0 ∨ x8 = 1) (h7 : x9 = 0 ∨ x9 = 1) (h8 : 0 ≤ x0 ∧ x0 ≤ 700) : RO f := by
  subst e0 e1 e2 e3 e4 e5 e6 e7 e8 e9
  exact ⟨h1, h2, h3, h4, h5, h6, h7, h8⟩
theorem dgV_in {bu : Int → Int} {s : Int} : ∀ k : Nat, k ≤ 3 → (∀ j : Nat, j < k → dgP (bu (s + (j : Int)))) → 0 ≤ dgV bu s k ∧ (k = 0 → dgV bu s k ≤ 0) ∧ (k = 1 → dgV bu s k ≤ 9) ∧ (k = 2 → dgV bu s k ≤ 99) ∧ dgV bu s k ≤ 999 := by
  intro k
  induction k with
  | zero => intro _ _; exact ⟨Int.le_refl _, fun _ => Int.le_refl _, fun h => absurd h (by omega), fun h => absurd h (by omega), (show (0 : Int) ≤ 999 by decide)⟩
  | succ k ih =>
    intro hk hd
    obtain ⟨i1, i2, i3, i4, i5⟩ := ih (by omega) (fun j hj => hd j (by omega))
    have d := hd k (by omega)
    obtain ⟨d1, d2⟩ := d
    have e : dgV bu s (k + 1) = 10 * dgV bu s k + bu (s + (k : Int)) - 48 := rfl
    rw [e]
    rcases (show k = 0 ∨ k = 1 ∨ k = 2 by omega) with rfl | rfl | rfl
    · have := i2 rfl; exact ⟨by omega, by omega, by omega, by omega, by omega⟩
    · have := i3 rfl; exact ⟨by omega, by omega, by omega, by omega, by omega⟩
    · have := i4 rfl; exact ⟨by omega, by omega, by omega, by omega, by omega⟩
theorem runE_p {p : Int → Prop} [DecidablePred p] {bu : Int → Int} {n s : Int} {j : Nat} (h : s + (j : Int) < runE p bu n s) : p (bu (s + (j : Int))) := by
  have := (skN_s (p := fun j : Nat => ¬ (s + (j : Int) < n ∧ p (bu (s + (j : Int))))) (n - s).toNat).1 j (by unfold runE at h; omega)
  exact (Classical.not_not.mp this).2
theorem skR_ok {f bu : Int → Int} (h : RO1 f) : RO (skR f bu) := by
  obtain ⟨⟨a1, a1b, a2, a3, a4⟩, ⟨a5, a6⟩, a7, ⟨a8, a9⟩, ⟨a10, a11⟩, a12, a13, a14, a15⟩ := h
  have r := runE_in (p := spP) (bu := bu) (n := f 1) (s := f 2) a3
  exact RO_mk (f := skR f bu) (x0 := f 0) (x1 := f 1) (x2 := runE spP bu (f 1) (f 2)) (x3 := f 3) (x4 := runE spP bu (f 1) (f 2)) (x5 := f 5) (x6 := f 6) (x7 := f 7) (x8 := f 8) (x9 := f 9) rfl rfl rfl rfl rfl rfl rfl rfl rfl rfl ⟨by omega, by omega, by omega, by omega⟩ ⟨a5, a6⟩ a7 ⟨a8, a9⟩ ⟨a10, a11⟩ a12 a13 ⟨a14, a15⟩
theorem plR_ok {f bu : Int → Int} (h : RO f) (_hbu : sB 1000 bu) : RO (plR f bu) := by
  obtain ⟨⟨a1, a2, a3, a4⟩, ⟨a5, a6⟩, a7, ⟨a8, a9⟩, ⟨a10, a11⟩, a12, a13, a14, a15⟩ := h
  have r := runE_in (p := ltP) (bu := bu) (n := f 1) (s := f 2) a3
  refine RO_mk (f := plR f bu) (x0 := f 0) (x1 := f 1) (x2 := runE ltP bu (f 1) (f 2)) (x3 := if 8 < runE ltP bu (f 1) (f 2) - f 4 then 4 else 1) (x4 := f 4) (x5 := f 5) (x6 := f 6) (x7 := f 7) (x8 := f 8) (x9 := f 9) rfl rfl rfl rfl rfl rfl rfl rfl rfl rfl ⟨by omega, by omega, by omega, by omega⟩ ?_ ?_ ⟨a8, a9⟩ ⟨a10, a11⟩ a12 a13 ⟨a14, a15⟩
  · split <;> decide
  · intro h; split at h <;> exact absurd h (by decide)
theorem pdR_ok {f bu : Int → Int} (h : RO f) (_hbu : sB 1000 bu) : RO (pdR f bu) := by
  obtain ⟨⟨a1, a2, a3, a4⟩, ⟨a5, a6⟩, a7, ⟨a8, a9⟩, ⟨a10, a11⟩, a12, a13, a14, a15⟩ := h
  have r := runE_in (p := dgP) (bu := bu) (n := f 1) (s := f 2) a3
  refine RO_mk (f := pdR f bu) (x0 := f 0) (x1 := f 1) (x2 := runE dgP bu (f 1) (f 2)) (x3 := if 3 < runE dgP bu (f 1) (f 2) - f 4 then 4 else 2) (x4 := f 4) (x5 := dgV bu (f 2) (runE dgP bu (f 1) (f 2) - f 2).toNat) (x6 := f 6) (x7 := f 7) (x8 := f 8) (x9 := f 9) rfl rfl rfl rfl rfl rfl rfl rfl rfl rfl ⟨by omega, by omega, by omega, by omega⟩ ?_ ?_ ⟨a8, a9⟩ ⟨a10, a11⟩ a12 a13 ⟨a14, a15⟩
  · split <;> decide
  · intro h
    split at h
    · exact absurd h (by decide)
    · have q := dgV_in (bu := bu) (s := f 2) (runE dgP bu (f 1) (f 2) - f 2).toNat (by omega) (fun j hj => runE_p (n := f 1) (by omega))
      exact ⟨q.1, q.2.2.2.2⟩
theorem avR_ok {f bu : Int → Int} (h : RO1 f) (hbu : sB 1000 bu) : RO (avR f bu) := by
  have hs := skR_ok (bu := bu) h
  unfold avR
  obtain ⟨⟨a1, a1b, a2, a3, a4⟩, ⟨a5, a6⟩, a7, ⟨a8, a9⟩, ⟨a10, a11⟩, a12, a13, a14, a15⟩ := h
  have r := runE_in (p := spP) (bu := bu) (n := f 1) (s := f 2) a3
  by_cases c1 : f 1 ≤ runE spP bu (f 1) (f 2)
  · rw [if_pos c1]
    exact RO_mk (x0 := f 0) (x1 := f 1) (x2 := runE spP bu (f 1) (f 2)) (x3 := 0) (x4 := runE spP bu (f 1) (f 2)) (x5 := f 5) (x6 := f 6) (x7 := f 7) (x8 := f 8) (x9 := f 9) rfl rfl rfl rfl rfl rfl rfl rfl rfl rfl ⟨by omega, by omega, by omega, by omega⟩ (by decide) (fun h => absurd h (by decide)) ⟨a8, a9⟩ ⟨a10, a11⟩ a12 a13 ⟨a14, a15⟩
  · rw [if_neg c1]
    by_cases c2 : bu (runE spP bu (f 1) (f 2)) = 59
    · rw [if_pos c2]
      exact RO_mk (x0 := f 0) (x1 := f 1) (x2 := runE spP bu (f 1) (f 2) + 1) (x3 := 3) (x4 := runE spP bu (f 1) (f 2)) (x5 := f 5) (x6 := f 6) (x7 := f 7) (x8 := f 8) (x9 := f 9) rfl rfl rfl rfl rfl rfl rfl rfl rfl rfl ⟨by omega, by omega, by omega, by omega⟩ (by decide) (fun h => absurd h (by decide)) ⟨a8, a9⟩ ⟨a10, a11⟩ a12 a13 ⟨a14, a15⟩
    · rw [if_neg c2]
      by_cases c3 : ltP (bu (runE spP bu (f 1) (f 2)))
      · rw [if_pos c3]; exact plR_ok hs hbu
      · rw [if_neg c3]
        by_cases c4 : dgP (bu (runE spP bu (f 1) (f 2)))
        · rw [if_pos c4]; exact pdR_ok hs hbu
        · rw [if_neg c4]
          exact RO_mk (x0 := f 0) (x1 := f 1) (x2 := runE spP bu (f 1) (f 2)) (x3 := 4) (x4 := runE spP bu (f 1) (f 2)) (x5 := f 5) (x6 := f 6) (x7 := f 7) (x8 := f 8) (x9 := f 9) rfl rfl rfl rfl rfl rfl rfl rfl rfl rfl ⟨by omega, by omega, by omega, by omega⟩ (by decide) (fun h => absurd h (by decide)) ⟨a8, a9⟩ ⟨a10, a11⟩ a12 a13 ⟨a14, a15⟩

end PureL15
