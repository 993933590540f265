section PureL12
theorem Ct.post {G : GG} {l : Launch} {y : MethodName} {wy : List Cond} {fr lo mc ms : Nat} {args : List Value} {ws : va_W} {Po Po' : Option Value → va_W → Prop} (h : Ct G l y wy fr lo mc ms args ws Po) (hi : ∀ r w, Po r w → Po' r w) : Ct G l y wy fr lo mc ms args ws Po' := fun sz =>
  MetFree.mono (h sz) (fun _ _ h => h) (fun _ _ _ _ _ h => h) (fun _ _ _ _ _ h => ⟨by obtain ⟨r, w, e, p, q⟩ := h.1; exact ⟨r, w, e, hi _ _ p, q⟩, h.2⟩)
/-- the first of 0 .. m - 1 that is so; m if none is -/
def skN (p : Nat → Prop) [DecidablePred p] : Nat → Nat
  | 0 => 0
  | m + 1 => if p (skN p m) then skN p m else m + 1
theorem skN_u {p : Nat → Prop} [DecidablePred p] : ∀ (m n : Nat), (∀ j, j < n → ¬ p j) → n ≤ m → (p n ∨ n = m) → n = skN p m := by
  intro m
  induction m with
  | zero => intro n _ h _; show n = 0; omega
  | succ m ih =>
    intro n hno h hp
    show n = if p (skN p m) then skN p m else m + 1
    by_cases hn : n ≤ m
    · have hpn : p n := by rcases hp with h | h; exact h; exact absurd h (by omega)
      rw [← ih n hno hn (Or.inl hpn), if_pos hpn]
    · have : n = m + 1 := by omega
      subst this
      rw [← ih m (fun j hj => hno j (by omega)) (Nat.le_refl _) (Or.inr rfl), if_neg (hno m (by omega))]
/-- where a forecast ends: its frames, q + 1 if it does not -/
def enK (rd : Int) (K : Int → Int → Int64) (F : Int → Int → Int) (q : Int) : Nat := skN (fun j => ovL (itL rd K F j)) (q + 1).toNat
def enV (rd : Int) (K : Int → Int → Int64) (F : Int → Int → Int) (q : Int) : Int := if (enK rd K F q : Int) ≤ q then (enK rd K F q : Int) else -1
theorem enV_n {rd : Int} {K : Int → Int → Int64} {F : Int → Int → Int} {q : Int} : ¬ enV rd K F q = -1 ↔ (enK rd K F q : Int) ≤ q := by
  unfold enV
  split <;> omega
theorem enV_sm {rd : Int} {K : Int → Int → Int64} {F : Int → Int → Int} {q : Int} (h : q < 1000000) : sm (enV rd K F q) := by
  unfold enV
  split <;> exact ⟨by omega, by omega⟩
def tmL (F : Int → Int → Int) : Int := F 5 6 + F 5 8
/-- what a forecast of at most q frames needs -/
def FOK (rd : Int) (K : Int → Int → Int64) (F : Int → Int → Int) (q : Int) : Prop := ∀ j : Nat, (j : Int) ≤ q → (∀ i, sB 100000000 (itL rd K F j i)) ∧ OKL (rdL rd (itL rd K F j)) ∧ (itL rd K F j 0 6 = 0 ∨ itL rd K F j 0 6 = 1)
/-- the ticks of a forecast; -1 if it does not end -/
def tkL (rd : Int) (K : Int → Int → Int64) (F : Int → Int → Int) : Int := if (enK rd K F 600 : Int) ≤ 600 then tmL (itL rd K F (enK rd K F 600)) - tmL F else -1
def dyL (K : Int → Int → Int64) (F : Int → Int → Int) (lost : Int) : Int := if tkL 1 K F = -1 ∨ tkL 1 K (up F 0 (up (F 0) 9 lost)) = -1 then -10001 else tkL 1 K (up F 0 (up (F 0) 9 lost)) - tkL 1 K F
def bbL (K : Int → Int → Int64) (F : Int → Int → Int) : Nat → Int × Int
  | 0 => (-1, -1)
  | n + 1 => if ¬ tkL 1 K (up F 0 (up (F 0) 4 ((n : Int) + 1))) = -1 ∧ ((bbL K F n).1 = -1 ∨ tkL 1 K (up F 0 (up (F 0) 4 ((n : Int) + 1))) < (bbL K F n).2) then ((n : Int) + 1, tkL 1 K (up F 0 (up (F 0) 4 ((n : Int) + 1)))) else bbL K F n
theorem bbL_sm {K : Int → Int → Int64} {F : Int → Int → Int} (h : ∀ n : Int, 1 ≤ n → n ≤ 7 → sm (tkL 1 K (up F 0 (up (F 0) 4 n)))) : ∀ n : Nat, n ≤ 7 → sm (bbL K F n).1 ∧ sm (bbL K F n).2 := by
  intro n
  induction n with
  | zero => intro _; exact (show sm (-1) ∧ sm (-1) from by decide)
  | succ n ih =>
    intro hn
    by_cases c : ¬ tkL 1 K (up F 0 (up (F 0) 4 ((n : Int) + 1))) = -1 ∧ ((bbL K F n).1 = -1 ∨ tkL 1 K (up F 0 (up (F 0) 4 ((n : Int) + 1))) < (bbL K F n).2)
    · have e : bbL K F (n + 1) = ((n : Int) + 1, tkL 1 K (up F 0 (up (F 0) 4 ((n : Int) + 1)))) := if_pos c
      have e1 : (bbL K F (n + 1)).1 = (n : Int) + 1 := by rw [e]
      have e2 : (bbL K F (n + 1)).2 = tkL 1 K (up F 0 (up (F 0) 4 ((n : Int) + 1))) := by rw [e]
      rw [e1, e2]
      have hq := h ((n : Int) + 1) (by omega) (by omega)
      have hn1 : sm ((n : Int) + 1) := ⟨by omega, by omega⟩
      exact ⟨hn1, hq⟩
    · rw [show bbL K F (n + 1) = _ from if_neg c]
      exact ih (by omega)

end PureL12
