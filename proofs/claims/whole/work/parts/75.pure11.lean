section Pure11
theorem up_same {α : Type} {f : Int → α} {i : Int} : up f i (f i) = f := by
  funext j
  unfold up
  split
  · rename_i e; rw [e]
  · rfl
theorem bI_01 {p : Prop} [Decidable p] : bI p = 0 ∨ bI p = 1 := by
  unfold bI
  split
  · exact Or.inr rfl
  · exact Or.inl rfl
/-- an error, told at the token -/
def fM (s : Int → Int) (k : Int) : Int → Int := if s 8 = 0 then up (up s 8 k) 9 (s 4) else s
def muM (s : Int → Int) (c k : Int) : Int → Int := if c = 0 then fM s k else s
theorem muM_e {s : Int → Int} {c k : Int} (h : ¬ s 8 = 0) : muM s c k = s := by
  unfold muM
  by_cases hc : c = 0
  · rw [if_pos hc]; exact if_neg h
  · rw [if_neg hc]
theorem fM_ok {s : Int → Int} {k : Int} (h : RM s) (hk : 1 ≤ k ∧ k ≤ 4) : RM (fM s k) := by
  unfold fM
  split
  · exact ⟨h.1, h.2.1, h.2.2.1, ⟨show 0 ≤ k by omega, hk.2⟩, ⟨h.1.1, by have := h.1; show s 4 ≤ 700; omega⟩, h.2.2.2.2.2⟩
  · exact h
theorem muM_ok {s : Int → Int} {c k : Int} (h : RM s) (hk : 1 ≤ k ∧ k ≤ 4) : RM (muM s c k) := by
  unfold muM
  split
  · exact fM_ok h hk
  · exact h
def goM (s B : Int → Int) : Int → Int := if s 8 = 0 then ntM s B else s
theorem goM_ok {s B : Int → Int} (h : RM s) (hB : sB 1000 B) : RM (goM s B) := by
  unfold goM
  split
  · exact ntM_ok h.one hB
  · exact h
def lkM (s : Int → Int) (p q : Int) : Int → Int := if s 6 = 2 then (if p ≤ s 7 ∧ s 7 ≤ q then s else fM s 3) else fM s 1
def lkV (s : Int → Int) (p q : Int) : Int := if s 8 = 0 ∧ s 6 = 2 ∧ p ≤ s 7 ∧ s 7 ≤ q then s 7 else p
def tkM (s B : Int → Int) (p q : Int) : Int → Int := goM (lkM s p q) B
theorem lk1 {s : Int → Int} {p q : Int} (h : ¬ (s 8 = 0 ∧ ¬ bI (s 6 = 2) = 0)) : lkM s p q = muM s (bI (s 6 = 2)) 1 ∧ lkV s p q = p := by
  by_cases c : s 6 = 2
  · have h8 : ¬ s 8 = 0 := fun e => h ⟨e, by rw [bI_t c]; decide⟩
    refine ⟨?_, if_neg (fun g => h8 g.1)⟩
    rw [muM_e h8]
    unfold lkM
    rw [if_pos c]
    split
    · rfl
    · exact if_neg h8
  · refine ⟨?_, if_neg (fun g => c g.2.1)⟩
    unfold lkM muM
    rw [if_neg c, bI_f c, if_pos rfl]
theorem lk2 {s : Int → Int} (h : s 8 = 0 ∧ ¬ bI (s 6 = 2) = 0) : muM s (bI (s 6 = 2)) 1 = s := if_neg h.2
theorem lk3 {s : Int → Int} {p q : Int} (h : s 8 = 0 ∧ ¬ bI (s 6 = 2) = 0) (g : ¬ (s 8 = 0 ∧ ¬ bI (p ≤ s 7 ∧ s 7 ≤ q) = 0)) : lkM s p q = muM s (bI (p ≤ s 7 ∧ s 7 ≤ q)) 3 ∧ lkV s p q = p := by
  have c := bI_n0.mp h.2
  have d : ¬ (p ≤ s 7 ∧ s 7 ≤ q) := fun e => g ⟨h.1, by rw [bI_t e]; decide⟩
  refine ⟨?_, if_neg (fun e => d e.2.2)⟩
  unfold lkM muM
  rw [if_pos c, if_neg d, bI_f d, if_pos rfl]
theorem lk4 {s : Int → Int} {p q : Int} (h : s 8 = 0 ∧ ¬ bI (s 6 = 2) = 0) (g : s 8 = 0 ∧ ¬ bI (p ≤ s 7 ∧ s 7 ≤ q) = 0) : lkM s p q = muM s (bI (p ≤ s 7 ∧ s 7 ≤ q)) 3 ∧ lkV s p q = (muM s (bI (p ≤ s 7 ∧ s 7 ≤ q)) 3) 7 := by
  have c := bI_n0.mp h.2
  have d := bI_n0.mp g.2
  have e : muM s (bI (p ≤ s 7 ∧ s 7 ≤ q)) 3 = s := if_neg g.2
  rw [e]
  refine ⟨?_, if_pos ⟨h.1, c, d⟩⟩
  unfold lkM
  rw [if_pos c, if_pos d]
theorem lkM_ok {s : Int → Int} {p q : Int} (h : RM s) : RM (lkM s p q) := by
  unfold lkM
  split
  · split
    · exact h
    · exact fM_ok h (by decide)
  · exact fM_ok h (by decide)
theorem lkV_in {s : Int → Int} {p q : Int} (hp : 0 ≤ p ∧ p ≤ q ∧ q ≤ 1000) : p ≤ lkV s p q ∧ lkV s p q ≤ q := by
  unfold lkV
  split <;> omega
theorem tkM_ok {s B : Int → Int} {p q : Int} (h : RM s) (hB : sB 1000 B) : RM (tkM s B p q) := goM_ok (lkM_ok h) hB
abbrev wdM (s B : Int → Int) (b : List Int32) : Prop := s 8 = 0 ∧ s 6 = 1 ∧ s 5 - s 4 = (b.length : Int) ∧ eqK B (s 4) b b.length = true

end Pure11
