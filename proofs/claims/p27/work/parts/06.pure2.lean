section Pure2
theorem iI_nI (n : Nat) : nI n = iI (n : Int) := by
  unfold nI iI
  first | exact (Int32.ofInt_eq_ofNat).symm | rfl | simp
theorem iI_and255 (a : Int) : iI a &&& iI 255 = iI (a % 256) := by
  have h := pk_and (iI a) (m := iI 255) 8 (by decide +kernel)
  have e : (iI a).toBitVec.toNat = (a % 4294967296).toNat := by
    unfold iI
    show (BitVec.ofInt 32 a).toNat = _
    rw [BitVec.toNat_ofInt]
    rfl
  rw [h, iI_nI, e]
  congr 1
  omega
theorem ior01 {a b : Int} (ha : a = 0 ∨ a = 1) (hb : b = 0 ∨ b = 1) : iI a ||| iI b = iI (if b = 1 then 1 else a) := by
  rcases ha with rfl | rfl <;> rcases hb with rfl | rfl <;> decide +kernel
def xr (z : Int) : Int := if z = 126 then 94 else 93
theorem ixor32 {a : Int} (ha : a = 125 ∨ a = 126) : iI a ^^^ iI 32 = iI (xr a) := by
  rcases ha with rfl | rfl <;> decide +kernel
abbrev isMk (z : Int) : Prop := z = 126 ∨ z = 125
def sumN (f : Int → Int) : Nat → Int
  | 0 => 0
  | n + 1 => sumN f n + f n
def sumI (f : Int → Int) (k : Int) : Int := sumN f k.toNat
theorem sumI_0 {f : Int → Int} : sumI f 0 = 0 := rfl
theorem sumI_s {f : Int → Int} {k : Int} (h : 0 ≤ k) : sumI f (k + 1) = sumI f k + f k := by
  obtain ⟨n, rfl⟩ := Int.eq_ofNat_of_zero_le h
  unfold sumI
  rw [show ((n : Int) + 1).toNat = n + 1 by omega, show ((n : Int)).toNat = n by omega]
  rfl
theorem sumI_c {f g : Int → Int} {k : Int} (h : ∀ j, 0 ≤ j → j < k → f j = g j) : sumI f k = sumI g k := by
  unfold sumI
  have : ∀ n : Nat, (n : Int) ≤ k → sumN f n = sumN g n := by
    intro n
    induction n with
    | zero => intro _; rfl
    | succ n ih => intro hn; show sumN f n + f n = sumN g n + g n; rw [ih (by omega), h n (by omega) (by omega)]
  by_cases hk : 0 ≤ k
  · exact this _ (by omega)
  · rw [show k.toNat = 0 by omega]; rfl
/-- how many of the first k are marked -/
def escI (f : Int → Int) (k : Int) : Int := sumI (fun j => bI (isMk (f j))) k
theorem escI_0 {f : Int → Int} : escI f 0 = 0 := rfl
theorem escI_s {f : Int → Int} {k : Int} (h : 0 ≤ k) : escI f (k + 1) = escI f k + bI (isMk (f k)) := sumI_s h
theorem escI_c {f g : Int → Int} {k : Int} (h : ∀ j, 0 ≤ j → j < k → f j = g j) : escI f k = escI g k := sumI_c (fun j h0 h1 => by rw [h j h0 h1])
theorem escI_in {f : Int → Int} {k : Int} (h : 0 ≤ k) : 0 ≤ escI f k ∧ escI f k ≤ k := by
  obtain ⟨n, rfl⟩ := Int.eq_ofNat_of_zero_le h
  induction n with
  | zero => exact ⟨by rw [show ((0 : Nat) : Int) = 0 from rfl, escI_0]; decide, by rw [show ((0 : Nat) : Int) = 0 from rfl, escI_0]; decide⟩
  | succ n ih =>
    have := ih (by omega)
    have e := escI_s (f := f) (k := (n : Int)) (by omega)
    have b := bI_in (p := isMk (f n))
    rw [show ((n + 1 : Nat) : Int) = (n : Int) + 1 by omega, e]
    exact ⟨by omega, by omega⟩
/-- the length of the message that is next, 0 for a turn -/
def dl (σ : Int → Int) : Int := if isDataP σ then σ ((40 + (20 * (σ 1))) + (σ ((18 + (11 * (σ 1))) + 6) + σ 2)) else 0
/-- the plain bytes but for the sum -/
def pb0 (σ : Int → Int) (k : Int) : Int :=
  if k = 0 then ((if isDataP σ then 0 else 1) + 2 * σ 1) % 256
  else if k = 1 then (if isDataP σ then σ ((18 + (11 * (σ 1))) + 6) + σ 2 else σ ((18 + (11 * (σ 1))) + 9)) % 256
  else if k = 2 then σ ((18 + (11 * (σ 1))) + 1) % 256
  else if k = 3 then (σ ((18 + (11 * (σ 1))) + 2) + σ ((18 + (11 * (σ 1))) + 3)) % 256
  else if k = 4 then σ ((18 + (11 * (σ 1))) + 4) % 256
  else if k = 5 then σ ((18 + (11 * (σ 1))) + 5) % 256
  else σ ((80 + (8 * ((20 * (σ 1)) + (σ ((18 + (11 * (σ 1))) + 6) + σ 2)))) + (k - 6)) % 256
def pbF (σ : Int → Int) (k : Int) : Int := if k = 6 + dl σ then sumI (pb0 σ) (6 + dl σ) % 256 else pb0 σ k
theorem pb0_in (σ : Int → Int) (k : Int) : 0 ≤ pb0 σ k ∧ pb0 σ k < 256 := by
  unfold pb0
  (repeat' split) <;> exact ⟨by omega, by omega⟩
theorem pbF_in (σ : Int → Int) (k : Int) : 0 ≤ pbF σ k ∧ pbF σ k < 256 := by
  unfold pbF
  split
  · exact ⟨by omega, by omega⟩
  · exact pb0_in σ k
/-- the bytes on the line up to the k-th plain one -/
def LSp (li f : Int → Int) (k : Int) : Prop := li 0 = 126 ∧ ∀ j, 0 ≤ j → j < k → (isMk (f j) → li (1 + j + escI f j) = 125 ∧ li (1 + j + escI f j + 1) = xr (f j)) ∧ (¬ isMk (f j) → li (1 + j + escI f j) = f j)
theorem escI_mono {f : Int → Int} {j k : Int} (h0 : 0 ≤ j) (h : j ≤ k) : escI f j ≤ escI f k := by
  obtain ⟨d, rfl⟩ : ∃ d : Nat, k = j + d := ⟨(k - j).toNat, by omega⟩
  induction d with
  | zero => rw [show j + ((0 : Nat) : Int) = j by omega]; exact Int.le_refl _
  | succ n ih =>
    have := ih (by omega)
    have e := escI_s (f := f) (k := j + (n : Int)) (by omega)
    have b := bI_in (p := isMk (f (j + n)))
    rw [show j + ((n + 1 : Nat) : Int) = (j + (n : Int)) + 1 by omega, e]
    omega
theorem LSp_up {li f : Int → Int} {k i v : Int} (hk : 0 ≤ k) (h : LSp li f k) (hi : 1 + k + escI f k ≤ i) : LSp (up li i v) f k := by
  have e0 := escI_in (f := f) hk
  refine ⟨by rw [up_n (by omega)]; exact h.1, fun j h0 h1 => ?_⟩
  have m := escI_mono (f := f) (j := j + 1) (k := k) (by omega) (by omega)
  rw [escI_s h0] at m
  constructor
  · intro hm
    rw [bI_t hm] at m
    rw [up_n (by omega), up_n (by omega)]
    exact (h.2 j h0 h1).1 hm
  · intro hm
    rw [bI_f hm] at m
    rw [up_n (by omega)]
    exact (h.2 j h0 h1).2 hm
theorem LSp_s {li f : Int → Int} {k : Int} (h : LSp li f k) (h1 : isMk (f k) → li (1 + k + escI f k) = 125 ∧ li (1 + k + escI f k + 1) = xr (f k)) (h2 : ¬ isMk (f k) → li (1 + k + escI f k) = f k) : LSp li f (k + 1) := by
  refine ⟨h.1, fun j g0 g1 => ?_⟩
  by_cases hj : j = k
  · subst hj; exact ⟨h1, h2⟩
  · exact h.2 j g0 (by omega)
theorem LSp_f {li f g : Int → Int} {k : Int} (h : LSp li f k) (e : ∀ j, 0 ≤ j → j < k → f j = g j) : LSp li g k := by
  refine ⟨h.1, fun j h0 h1 => ?_⟩
  have := h.2 j h0 h1
  rw [e j h0 h1, escI_c (g := g) (fun i a b => e i a (by omega))] at this
  exact this
def lostN (σ : Int → Int) (f : Int) : Nat → Int
  | 0 => 0
  | n + 1 => if σ (400 + n) = f then 1 else lostN σ f n
def lostK (σ : Int → Int) (f k : Int) : Int := lostN σ f k.toNat
/-- 1 if the frame f is in the list of those told to be lost, else 0 -/
def lz (σ : Int → Int) (f : Int) : Int := lostK σ f (σ 7)
theorem lostK_s {σ : Int → Int} {f k : Int} (h : 0 ≤ k) : lostK σ f (k + 1) = if σ (400 + k) = f then 1 else lostK σ f k := by
  obtain ⟨n, rfl⟩ := Int.eq_ofNat_of_zero_le h
  unfold lostK
  rw [show ((n : Int) + 1).toNat = n + 1 by omega, show ((n : Int)).toNat = n by omega]
  rfl
theorem lostN_01 (σ : Int → Int) (f : Int) (n : Nat) : lostN σ f n = 0 ∨ lostN σ f n = 1 := by
  induction n with
  | zero => exact Or.inl rfl
  | succ n ih =>
    show (if σ (400 + n) = f then 1 else lostN σ f n) = 0 ∨ (if σ (400 + n) = f then 1 else lostN σ f n) = 1
    split
    · exact Or.inr rfl
    · exact ih
theorem lz_01 (σ : Int → Int) (f : Int) : lz σ f = 0 ∨ lz σ f = 1 := lostN_01 σ f _
theorem lost_or {σ : Int → Int} {f k : Int} (h : 0 ≤ k) : iI (lostK σ f k) ||| iI (bI (σ (400 + k) = f)) = iI (lostK σ f (k + 1)) := by
  rw [ior01 (a := lostK σ f k) (lostN_01 σ f _) (by unfold bI; split <;> simp), lostK_s h]
  by_cases e : σ (400 + k) = f
  · rw [bI_t e, if_pos rfl, if_pos e]
  · rw [bI_f e, if_neg e, if_neg (by decide)]
theorem lz_iff {σ : Int → Int} {f : Int} : lz σ f = 1 ↔ ∃ k : Int, 0 ≤ k ∧ k < σ 7 ∧ σ (400 + k) = f := by
  have key : ∀ n : Nat, lostN σ f n = 1 ↔ ∃ k : Int, 0 ≤ k ∧ k < n ∧ σ (400 + k) = f := by
    intro n
    induction n with
    | zero => exact ⟨fun h => absurd h (by show ¬ (0 : Int) = 1; decide), fun ⟨k, h0, h1, _⟩ => absurd h1 (by omega)⟩
    | succ n ih =>
      show (if σ (400 + n) = f then 1 else lostN σ f n) = 1 ↔ _
      by_cases e : σ (400 + n) = f
      · rw [if_pos e]
        exact ⟨fun _ => ⟨n, by omega, by omega, e⟩, fun _ => rfl⟩
      · rw [if_neg e, ih]
        refine ⟨fun ⟨k, h0, h1, h2⟩ => ⟨k, h0, by omega, h2⟩, fun ⟨k, h0, h1, h2⟩ => ⟨k, h0, ?_, h2⟩⟩
        by_cases hk : k = n
        · subst hk; exact absurd h2 e
        · omega
  unfold lz lostK
  rw [key]
  refine ⟨fun ⟨k, h0, h1, h2⟩ => ⟨k, h0, by omega, h2⟩, fun ⟨k, h0, h1, h2⟩ => ⟨k, h0, by omega, h2⟩⟩
end Pure2
