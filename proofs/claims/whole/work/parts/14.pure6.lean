section Pure6
theorem up_id {f : Int → Int} {i v : Int} (h : f i = v) : up f i v = f := by
  funext j
  unfold up
  split
  · rename_i e; rw [e, h]
  · rfl
theorem deF_in {f : Int} {σ : Int → Int} (hs : sB 1000000 σ) (h1 : GOk 1 (-1) (σ 4) σ) (h2 : GOk 1 f (σ 4) σ) : -4000000 < deF f σ ∧ deF f σ < 4000000 := by
  have a := goT_in hs h1
  have b := goT_in hs h2
  unfold deF
  (repeat' split) <;> exact ⟨by omega, by omega⟩
/-- worstFrame: the best frame and its delay after k of them -/
def wfB (σ : Int → Int) : Nat → Int × Int
  | 0 => (-1, 0)
  | k + 1 => if deF (σ 3 + (k : Int)) σ = -10001 ∨ (¬ (wfB σ k).1 = -1 ∧ deF (σ 3 + (k : Int)) σ ≤ (wfB σ k).2) then wfB σ k else (σ 3 + (k : Int), deF (σ 3 + (k : Int)) σ)
def wfF (σ : Int → Int) : Int := if goO 1 (-1) (σ 4) σ then (wfB σ (goK 1 (gsF 1 (-1) (σ 4) σ))).1 else -1
theorem wfB_in {σ : Int → Int} (hs : sB 1000000 σ) (hgo : ∀ rd lost b : Int, (rd = 0 ∨ rd = 1) → (-1 ≤ lost ∧ lost ≤ 10000) → (0 ≤ b ∧ b ≤ 7) → GOk rd lost b σ) (h4 : 1 ≤ σ 4 ∧ σ 4 ≤ 7) (h30 : 0 ≤ σ 3 ∧ σ 3 ≤ 5000) : ∀ k : Nat, (k : Int) ≤ 600 → (-2000000 < (wfB σ k).1 ∧ (wfB σ k).1 < 2000000) ∧ (-4000000 < (wfB σ k).2 ∧ (wfB σ k).2 < 4000000) := by
  intro k
  induction k with
  | zero => intro _; exact (show ((-2000000 : Int) < -1 ∧ (-1 : Int) < 2000000) ∧ ((-4000000 : Int) < 0 ∧ (0 : Int) < 4000000) by decide)
  | succ k ih =>
    intro hk
    have i := ih (by omega)
    have b3 := hs 3
    have d := deF_in (f := σ 3 + (k : Int)) hs (hgo 1 (-1) (σ 4) (by decide) (by decide) (by omega)) (hgo 1 (σ 3 + (k : Int)) (σ 4) (by decide) ⟨by omega, by omega⟩ (by omega))
    unfold wfB
    split
    · exact i
    · exact ⟨⟨by show -2000000 < σ 3 + (k : Int); omega, by show σ 3 + (k : Int) < 2000000; omega⟩, d⟩
/-- bestBurst: the best burst and its ticks after k of them -/
def bbB (σ : Int → Int) : Nat → Int × Int
  | 0 => (-1, 0)
  | k + 1 => if ¬ goO 1 (-1) ((k : Int) + 1) σ ∨ (¬ (bbB σ k).1 = -1 ∧ (bbB σ k).2 ≤ goT 1 (-1) ((k : Int) + 1) σ) then bbB σ k else ((k : Int) + 1, goT 1 (-1) ((k : Int) + 1) σ)
theorem bbB_in {σ : Int → Int} (hs : sB 1000000 σ) (hgo : ∀ rd lost b : Int, (rd = 0 ∨ rd = 1) → (-1 ≤ lost ∧ lost ≤ 10000) → (0 ≤ b ∧ b ≤ 7) → GOk rd lost b σ) : ∀ k : Nat, k ≤ 7 → (-10 < (bbB σ k).1 ∧ (bbB σ k).1 < 10) ∧ (-4000000 < (bbB σ k).2 ∧ (bbB σ k).2 < 4000000) := by
  intro k
  induction k with
  | zero => intro _; exact (show ((-10 : Int) < -1 ∧ (-1 : Int) < 10) ∧ ((-4000000 : Int) < 0 ∧ (0 : Int) < 4000000) by decide)
  | succ k ih =>
    intro hk
    have i := ih (by omega)
    have d := goT_in hs (hgo 1 (-1) ((k : Int) + 1) (by decide) (by decide) (by omega))
    unfold bbB
    split
    · exact i
    · exact ⟨⟨by show -10 < (k : Int) + 1; omega, by show (k : Int) + 1 < 10; omega⟩, by show -4000000 < goT 1 (-1) ((k : Int) + 1) σ; omega, by show goT 1 (-1) ((k : Int) + 1) σ < 4000000; omega⟩

end Pure6
