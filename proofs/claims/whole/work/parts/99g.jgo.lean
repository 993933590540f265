section JGo
theorem J_OKs {σ : Int → Int} (h : J σ) (h3 : σ 3 ≤ 5000) : OKs σ := by
  have hB := J_B h h3
  have hd := dl_in h
  refine ⟨h.1.1, hB, h.1.2.2.2.2.2, fun c => ?_, fun _ => hd⟩
  obtain ⟨d1, d2, d3, d4⟩ := c
  obtain ⟨hJ0, hJS, hJU, hJP, hJA, hJR, hJ3⟩ := h
  simp only [J0, JS, Int.reduceAdd] at hJ0 hJS hJU
  rcases hJ0.1 with h1 | h1
  · rw [h1] at d3 ⊢
    simp only [Int.reduceAdd, Int.reduceMul] at d3 ⊢
    exact ⟨by omega, by omega⟩
  · rw [h1] at d3 ⊢
    simp only [Int.reduceAdd, Int.reduceMul] at d3 ⊢
    exact ⟨by omega, by omega⟩
theorem J_rd {σ : Int → Int} (h : J σ) : J (rdF σ) := by
  obtain ⟨hJ0, hJS, hJU, hJP, hJA, hJR, hJ3⟩ := h
  simp only [J0, JS, JA, Int.reduceAdd] at hJ0 hJS hJU hJA
  refine ⟨hJ0, ?_, ?_, hJP, hJA, JR_c hJR (fun j hj => ?_), hJ3⟩
  · simp only [JS, rdF, up, Int.reduceAdd, Int.reduceEq, reduceIte, if_true, if_false]; and_intros <;> omega
  · simp only [JS, rdF, up, Int.reduceAdd, Int.reduceEq, reduceIte, if_true, if_false]; and_intros <;> omega
  · unfold rdF; repeat rw [up_n (by omega)]
theorem J_4 {σ : Int → Int} {b : Int} (h : J σ) (hb : 0 ≤ b ∧ b ≤ 7) : J (up σ 4 b) := by
  obtain ⟨hJ0, hJS, hJU, hJP, hJA, hJR, hJ3⟩ := h
  refine ⟨⟨hJ0.1, hJ0.2.1, hJ0.2.2.1, hb, hJ0.2.2.2.2⟩, hJS, hJU, hJP, hJA, JR_c hJR (fun j hj => up_n (by omega)), hJ3⟩
theorem J_gs1 {rd b : Int} {σ : Int → Int} (h : J σ) (hb : 0 ≤ b ∧ b ≤ 7) : J (gs1 rd b σ) := by
  unfold gs1
  split
  · exact J_4 h hb
  · exact J_rd (J_4 h hb)
theorem J_told {σ : Int → Int} {f : Int} (h : J σ) (h7 : σ 7 ≤ 40) (hf : -10000 ≤ f ∧ f ≤ 10000) : J (up (up σ (400 + σ 7) f) 7 (σ 7 + 1)) := by
  obtain ⟨hJ0, hJS, hJU, hJP, hJA, hJR, hJ3⟩ := h
  have h70 := hJ0.2.2.2.2.2.1
  have e : ∀ j, j < 400 → j ≠ 7 → up (up σ (400 + σ 7) f) 7 (σ 7 + 1) j = σ j := fun j a b => by rw [up_n b, up_n (by omega)]
  have e7 : up (up σ (400 + σ 7) f) 7 (σ 7 + 1) 7 = σ 7 + 1 := up_s
  generalize hτ : up (up σ (400 + σ 7) f) 7 (σ 7 + 1) = τ at e e7 ⊢
  obtain ⟨h1, h2, h3, h4⟩ := hJR
  refine ⟨?_, ?_, ?_, ?_, ?_, ⟨fun j a b => ?_, fun j a b => ?_, fun j a b => ?_, fun j a => ?_⟩, ?_⟩
  · simp only [J0, e7, e 1 (by decide) (by decide), e 6 (by decide) (by decide), e 2 (by decide) (by decide), e 4 (by decide) (by decide), e 5 (by decide) (by decide)] at hJ0 ⊢
    and_intros <;> omega
  · simp only [JS, Int.reduceAdd] at hJS ⊢
    rw [e 18 (by decide) (by decide), e 19 (by decide) (by decide), e 20 (by decide) (by decide), e 21 (by decide) (by decide), e 22 (by decide) (by decide), e 23 (by decide) (by decide), e 24 (by decide) (by decide), e 25 (by decide) (by decide), e 26 (by decide) (by decide), e 27 (by decide) (by decide), e 28 (by decide) (by decide), e 29 (by decide) (by decide), e 3 (by decide) (by decide)]
    exact hJS
  · simp only [JS, Int.reduceAdd] at hJU ⊢
    rw [e 29 (by decide) (by decide), e 30 (by decide) (by decide), e 31 (by decide) (by decide), e 32 (by decide) (by decide), e 33 (by decide) (by decide), e 34 (by decide) (by decide), e 35 (by decide) (by decide), e 36 (by decide) (by decide), e 37 (by decide) (by decide), e 38 (by decide) (by decide), e 39 (by decide) (by decide), e 18 (by decide) (by decide), e 3 (by decide) (by decide)]
    exact hJU
  · unfold JP at hJP ⊢
    rw [e 1 (by decide) (by decide), e 34 (by decide) (by decide), e 28 (by decide) (by decide), e 23 (by decide) (by decide), e 39 (by decide) (by decide), e 33 (by decide) (by decide), e 22 (by decide) (by decide)]
    exact hJP
  · simp only [JA] at hJA ⊢
    rw [e 8 (by decide) (by decide), e 3 (by decide) (by decide), e 9 (by decide) (by decide), e 10 (by decide) (by decide), e 11 (by decide) (by decide), e 12 (by decide) (by decide), e 13 (by decide) (by decide), e 14 (by decide) (by decide), e 15 (by decide) (by decide), e 16 (by decide) (by decide), e 17 (by decide) (by decide), e 0 (by decide) (by decide)]
    exact hJA
  · rw [e j (by omega) (by omega)]; exact h1 j a b
  · rw [e j (by omega) (by omega)]; exact h2 j a b
  · rw [← hτ, up_n (by omega)]
    unfold up
    split
    · exact hf
    · exact h3 j a b
  · rw [← hτ, up_n (by omega), up_n (by omega)]; exact h4 j a
  · rw [e 3 (by decide) (by decide)]; exact hJ3
theorem J_gs {rd lost b : Int} {σ : Int → Int} (h : J σ) (h7 : σ 7 ≤ 40) (hl : -10000 ≤ lost ∧ lost ≤ 10000) (hb : 0 ≤ b ∧ b ≤ 7) : J (gsF rd lost b σ) := by
  have g := J_gs1 (rd := rd) h hb
  have g7 : gs1 rd b σ 7 = σ 7 := gs1_at (by decide) (by decide) (by decide)
  unfold gsF
  split
  · exact g
  · split
    · exact J_told g (by omega) hl
    · exact g
theorem J_it {r : Int} {σ : Int → Int} (hr : r = 0 ∨ r = 1) (h : J σ) : ∀ n : Nat, J (itF r σ n) := by
  intro n
  induction n with
  | zero => exact h
  | succ n ih =>
    show J (stepF r (itF r σ n))
    rcases hr with rfl | rfl
    · exact J_step ih
    · rw [stepF_1]; exact J_rd (J_step ih)
/-- a step sends one frame -/
theorem step_3 {σ : Int → Int} (h : J σ) : stepF 0 σ 3 = σ 3 + 1 := by
  have h0 := h.1.1
  have p3 : ∀ l b e, preM l b e σ 3 = σ 3 + 1 := fun _ _ _ => rfl
  by_cases c : isDataP σ
  · rw [stepF_d c]
    rcases h0 with h1 | h1
    · rw [h1, sdF_0 (show preM _ _ _ σ 1 = 0 from h1)]
      split
      · unfold sb0 te0
        split <;> rfl
      · rfl
    · rw [h1, sdF_1 (show preM _ _ _ σ 1 = 1 from h1)]
      split
      · unfold sb1 te1
        split <;> rfl
      · rfl
  · rw [stepF_t c]
    by_cases hz : lz σ (σ 3) = 0
    · rw [hz]
      rcases h0 with h1 | h1
      · rw [h1, stF_0]
        split
        · show tb0 (te0 _) 3 = _
          unfold tb0 te0
          split <;> rfl
        · unfold tb0 te0
          split <;> rfl
      · rw [h1, stF_1]
        split
        · show tb1 (te1 _) 3 = _
          unfold tb1 te1
          split <;> rfl
        · unfold tb1 te1
          split <;> rfl
    · rcases h0 with h1 | h1
      · rw [h1, stF_0l hz]; rfl
      · rw [h1, stF_1l hz]; rfl
theorem it_3 {r : Int} {σ : Int → Int} (hr : r = 0 ∨ r = 1) (h : J σ) : ∀ n : Nat, itF r σ n 3 = σ 3 + n := by
  intro n
  induction n with
  | zero => show σ 3 = σ 3 + ((0 : Nat) : Int); omega
  | succ n ih =>
    have hj := J_it hr h n
    have e : stepF r (itF r σ n) 3 = itF r σ n 3 + 1 := by
      rcases hr with rfl | rfl
      · exact step_3 hj
      · rw [stepF_1]; exact step_3 hj
    show stepF r (itF r σ n) 3 = _
    rw [e, ih]
    omega
theorem gs_3 {rd lost b : Int} {σ : Int → Int} (h7 : 0 ≤ σ 7) : gsF rd lost b σ 3 = σ 3 := by
  have e : gs1 rd b σ 3 = σ 3 := gs1_at (by decide) (by decide) (by decide)
  have g7 : gs1 rd b σ 7 = σ 7 := gs1_at (by decide) (by decide) (by decide)
  unfold gsF
  split
  · exact e
  · split
    · rw [up_n (by decide), up_n (by omega)]; exact e
    · exact e
theorem J_GOk {rd lost b : Int} {σ : Int → Int} (hr : rd = 0 ∨ rd = 1) (h : J σ) (h7 : σ 7 ≤ 40) (h3 : σ 3 ≤ 2000) (hl : -10000 ≤ lost ∧ lost ≤ 10000) (hb : 0 ≤ b ∧ b ≤ 7) : GOk rd lost b σ := by
  have g := J_gs (rd := rd) (lost := lost) h h7 hl hb
  have g3 : gsF rd lost b σ 3 = σ 3 := gs_3 h.1.2.2.2.2.2.1
  have j := J_it hr g
  have k := it_3 hr g
  refine ⟨fun n hn => J_OKs (j n) (by rw [k n]; omega), fun n hn => J_B (j n) (by rw [k n]; omega), fun n hn => by rw [k n]; omega⟩
end JGo
