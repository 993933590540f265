section PureL16
def eqK (bu : Int → Int) (s : Int) (b : List Int32) : Nat → Bool
  | 0 => true
  | n + 1 => eqK bu s b n && decide (bu (s + (n : Int)) = chK b (n : Int))
theorem eqK_t {bu : Int → Int} {s : Int} {b : List Int32} {n : Nat} : eqK bu s b n = true ↔ ∀ j : Nat, j < n → bu (s + (j : Int)) = chK b (j : Int) := by
  induction n with
  | zero => exact ⟨fun _ j hj => absurd hj (Nat.not_lt_zero j), fun _ => rfl⟩
  | succ n ih =>
    show (eqK bu s b n && decide _) = true ↔ _
    rw [Bool.and_eq_true, ih, decide_eq_true_eq]
    constructor
    · intro h j hj
      by_cases e : j = n
      · rw [e]; exact h.2
      · exact h.1 j (by omega)
    · intro h
      exact ⟨fun j hj => h j (by omega), h n (by omega)⟩
/-- whether the token is this word -/
abbrev isWd (f bu : Int → Int) (b : List Int32) : Prop := f 3 = 1 ∧ f 2 - f 4 = (b.length : Int) ∧ eqK bu (f 4) b b.length = true
def flR (f : Int → Int) (o k : Int) : Int → Int := if f 7 = 0 then up f 7 (8 * o + k) else f
def tsR (f bu : Int → Int) : Int → Int := if f 7 = 0 ∧ f 3 = 3 then avR f bu else flR f (f 4) 1
def twR (f bu : Int → Int) (b : List Int32) : Int → Int := if isWd f bu b then avR f bu else flR f (f 4) 1
def tnV (f : Int → Int) (p q : Int) : Int := if ¬ f 7 = 0 then p else if ¬ f 3 = 2 then p else if f 5 < p ∨ q < f 5 then p else f 5
def tnR (f bu : Int → Int) (p q : Int) : Int → Int := if ¬ f 7 = 0 then f else if ¬ f 3 = 2 then flR f (f 4) 1 else if f 5 < p ∨ q < f 5 then flR f (f 4) 3 else avR (up f 6 (f 4)) bu
theorem RO_up7 {f : Int → Int} {v : Int} (h : RO f) (hv : 0 ≤ v ∧ v ≤ 10000) : RO (up f 7 v) := ⟨h.1, h.2.1, h.2.2.1, h.2.2.2.1, hv, h.2.2.2.2.2⟩
theorem RO_up6 {f : Int → Int} {v : Int} (h : RO f) (hv : 0 ≤ v ∧ v ≤ 700) : RO (up f 6 v) := ⟨h.1, h.2.1, h.2.2.1, hv, h.2.2.2.2⟩
theorem flR_ok {f : Int → Int} {o k : Int} (h : RO f) (ho : 0 ≤ o ∧ o ≤ 700) (hk : 0 ≤ k ∧ k ≤ 7) : RO (flR f o k) := by
  unfold flR
  split
  · exact RO_up7 h ⟨by omega, by omega⟩
  · exact h
theorem RO.at4 {f : Int → Int} (h : RO f) : 0 ≤ f 4 ∧ f 4 ≤ 700 := by
  obtain ⟨⟨a1, a2, a3, a4⟩, _⟩ := h
  exact ⟨a1, by omega⟩
theorem tsR_ok {f bu : Int → Int} (h : RO f) (hbu : sB 1000 bu) : RO (tsR f bu) := by
  unfold tsR
  split
  · exact avR_ok h.one hbu
  · exact flR_ok h h.at4 (by decide)
theorem twR_ok {f bu : Int → Int} {b : List Int32} (h : RO f) (hbu : sB 1000 bu) : RO (twR f bu b) := by
  unfold twR
  split
  · exact avR_ok h.one hbu
  · exact flR_ok h h.at4 (by decide)
theorem tnR_ok {f bu : Int → Int} {p q : Int} (h : RO f) (hbu : sB 1000 bu) (_hp : 0 ≤ p ∧ p ≤ q ∧ q ≤ 1000) : RO (tnR f bu p q) := by
  unfold tnR
  split
  · exact h
  · split
    · exact flR_ok h h.at4 (by decide)
    · split
      · exact flR_ok h h.at4 (by decide)
      · exact avR_ok (RO_up6 h h.at4).one hbu
theorem tnV_in {f : Int → Int} {p q : Int} (_h : RO f) (hp : 0 ≤ p ∧ p ≤ q ∧ q ≤ 1000) : p ≤ tnV f p q ∧ tnV f p q ≤ q := by
  unfold tnV
  split
  · omega
  · split
    · omega
    · split <;> omega

end PureL16
