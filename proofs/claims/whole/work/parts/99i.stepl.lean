section StepL
theorem hi_d0 {σ : Int → Int} {z l b e : Int} (h1 : σ 1 = 0) {j : Int} (hj : j = 7 ∨ j = 18 ∨ j = 29 ∨ 40 ≤ j) : sdF 0 z (preM l b e σ) j = σ j := by
  rw [sdF_0 (show preM l b e σ 1 = 0 from h1)]
  split
  · unfold sb0 te0
    split
    · simp only [sa0, preM]; repeat rw [up_n (by omega)]
    · simp only [sa0, preM]; repeat rw [up_n (by omega)]
  · simp only [sa0, preM]; repeat rw [up_n (by omega)]
theorem hi_t0 {σ : Int → Int} {z l b e : Int} {j : Int} (hj : j = 7 ∨ j = 18 ∨ j = 29 ∨ 40 ≤ j) : stF 0 z (preM l b e σ) j = σ j := by
  by_cases hz : z = 0
  · subst hz
    rw [stF_0]
    split
    · rw [up_n (by omega), up_n (by omega)]
      unfold tb0 te0
      split
      · simp only [ta, preM]; repeat rw [up_n (by omega)]
      · simp only [ta, preM]; repeat rw [up_n (by omega)]
    · unfold tb0 te0
      split
      · simp only [ta, preM]; repeat rw [up_n (by omega)]
      · simp only [ta, preM]; repeat rw [up_n (by omega)]
  · rw [stF_0l hz]
    simp only [ta, preM]; repeat rw [up_n (by omega)]
theorem hi_d1 {σ : Int → Int} {z l b e : Int} (h1 : σ 1 = 1) {j : Int} (hj : j = 7 ∨ j = 18 ∨ j = 29 ∨ 40 ≤ j) : sdF 1 z (preM l b e σ) j = σ j := by
  rw [sdF_1 (show preM l b e σ 1 = 1 from h1)]
  split
  · unfold sb1 te1
    split
    · simp only [sa1, preM]; repeat rw [up_n (by omega)]
    · simp only [sa1, preM]; repeat rw [up_n (by omega)]
  · simp only [sa1, preM]; repeat rw [up_n (by omega)]
theorem hi_t1 {σ : Int → Int} {z l b e : Int} {j : Int} (hj : j = 7 ∨ j = 18 ∨ j = 29 ∨ 40 ≤ j) : stF 1 z (preM l b e σ) j = σ j := by
  by_cases hz : z = 0
  · subst hz
    rw [stF_1]
    split
    · rw [up_n (by omega), up_n (by omega)]
      unfold tb1 te1
      split
      · simp only [ta, preM]; repeat rw [up_n (by omega)]
      · simp only [ta, preM]; repeat rw [up_n (by omega)]
    · unfold tb1 te1
      split
      · simp only [ta, preM]; repeat rw [up_n (by omega)]
      · simp only [ta, preM]; repeat rw [up_n (by omega)]
  · rw [stF_1l hz]
    simp only [ta, preM]; repeat rw [up_n (by omega)]
theorem step_hi {σ : Int → Int} (h : J σ) {j : Int} (hj : j = 7 ∨ j = 18 ∨ j = 29 ∨ 40 ≤ j) : stepF 0 σ j = σ j := by
  have h0 := h.1.1
  by_cases c : isDataP σ
  · rw [stepF_d c]
    rcases h0 with h1 | h1
    · rw [h1]; exact hi_d0 h1 hj
    · rw [h1]; exact hi_d1 h1 hj
  · rw [stepF_t c]
    rcases h0 with h1 | h1
    · rw [h1]; exact hi_t0 hj
    · rw [h1]; exact hi_t1 hj
/-- what a step leaves of a Line -/
def FrL (X F : Int → Int → Int) : Prop := ∀ i j, ¬ Rl i j → X i j = F i j
theorem FrL.rf {F : Int → Int → Int} : FrL F F := fun _ _ _ => rfl
theorem FrL.tr {X Y F : Int → Int → Int} (h : FrL X Y) (g : FrL Y F) : FrL X F := fun i j c => (h i j c).trans (g i j c)
theorem FrL.u {X F : Int → Int → Int} {k : Int} {g : Int → Int} (h : FrL X F) (hg : ∀ j, ¬ Rl k j → g j = F k j) : FrL (up X k g) F := fun i j c => by
  unfold up
  split
  · rename_i e; subst e; exact hg j c
  · exact h i j c
theorem nh_fr {k : Int} {f f2 : Int → Int} {g : Int → Int} (hk : k = 1 ∨ k = 2) (hf : ∀ j, ¬ Rl k j → f j = g j) : ∀ j, ¬ Rl k j → nhF f f2 j = g j := fun j c => by
  have hj : ¬ (0 ≤ j ∧ j ≤ 10) := fun h => c (Or.inr (Or.inl ⟨hk, h.1, h.2⟩))
  unfold nhF
  split
  · rw [up_n (by omega), up_n (by omega)]; exact hf j c
  · rw [up_n (by omega), up_n (by omega), up_n (by omega), up_n (by omega), up_n (by omega)]; exact hf j c
theorem rc_fr {k : Int} {q : Int} {f : Int → Int} {g : Int → Int} (hk : k = 1 ∨ k = 2) (hf : ∀ j, ¬ Rl k j → f j = g j) : ∀ j, ¬ Rl k j → rcF q f j = g j := fun j c => by
  have hj : ¬ (0 ≤ j ∧ j ≤ 10) := fun h => c (Or.inr (Or.inl ⟨hk, h.1, h.2⟩))
  unfold rcF
  rw [up_n (by omega), up_n (by omega)]; exact hf j c
theorem up_fr {k i v : Int} {f g : Int → Int} (hi : Rl k i) (hf : ∀ j, ¬ Rl k j → f j = g j) : ∀ j, ¬ Rl k j → up f i v j = g j := fun j c => by
  rw [up_n (fun e => c (by rw [e]; exact hi))]; exact hf j c
theorem id_fr {k : Int} {g : Int → Int} : ∀ j, ¬ Rl k j → g j = g j := fun _ _ => rfl
theorem fr_sd {n z : Int} {F : Int → Int → Int} : FrL (sdL n z F) F := by
  unfold sdL
  (repeat' split) <;>
    (repeat' first
      | exact FrL.rf
      | apply FrL.u
      | exact id_fr
      | (refine up_fr (by unfold Rl; omega) ?_)
      | (refine nh_fr (by omega) ?_))
theorem fr_st {z : Int} {F : Int → Int → Int} : FrL (stLn z F) F := by
  unfold stLn
  (repeat' split) <;>
    (repeat' first
      | exact FrL.rf
      | apply FrL.u
      | exact id_fr
      | (refine up_fr (by unfold Rl; omega) ?_)
      | (refine nh_fr (by omega) ?_)
      | (refine rc_fr (by omega) ?_))
theorem fr_5 {F : Int → Int → Int} {A : Int → Int} (h : ∀ j, ¬ (0 ≤ j ∧ j ≤ 9) → A j = F 5 j) : FrL (up F 5 A) F := FrL.u FrL.rf (fun j c => h j (fun g => c (Or.inr (Or.inr ⟨rfl, g.1, g.2⟩))))
theorem fr_sp {K : Int → Int → Int64} {F : Int → Int → Int} : FrL (spL K F) F := by
  unfold spL
  (repeat' split)
  · exact fr_sd.tr (fr_5 (fun j c => by rw [up_n (by omega), up_n (by omega), up_n (by omega)]))
  · exact fr_st.tr (fr_5 (fun j c => by rw [up_n (by omega), up_n (by omega), up_n (by omega)]))
  · exact fr_sd.tr (fr_5 (fun j c => by rw [up_n (by omega), up_n (by omega), up_n (by omega), up_n (by omega)]))
  · exact fr_st.tr (fr_5 (fun j c => by rw [up_n (by omega), up_n (by omega), up_n (by omega), up_n (by omega)]))
theorem RN_pre {F : Int → Int → Int} {σ A : Int → Int} {l b e : Int} (h : RN F σ) (hA : ∀ i, 0 ≤ i → i ≤ 9 → A i = preM l b e σ (8 + i)) : RN (up F 5 A) (preM l b e σ) := by
  refine ⟨h.1, fun p p0 p1 => ?_, fun p p0 p1 => ?_, fun i i0 i1 => hA i i0 i1⟩
  · rw [show preM l b e σ (18 + p) = σ (18 + p) by unfold preM; repeat rw [up_n (by omega)]]
    exact h.2.1 p p0 p1
  · rw [show preM l b e σ (29 + p) = σ (29 + p) by unfold preM; repeat rw [up_n (by omega)]]
    exact h.2.2.1 p p0 p1
theorem pre_0 {F : Int → Int → Int} {σ : Int → Int} {b e : Int} (h : RN F σ) : ∀ i, 0 ≤ i → i ≤ 9 → up (up (up (F 5) 0 (F 5 0 + 1)) 6 (F 5 6 + b)) 7 (F 5 7 + e) i = preM 0 b e σ (8 + i) := by
  intro i i0 i1
  have d := h.2.2.2
  have d0 := d 0 (by decide) (by decide)
  have d6 := d 6 (by decide) (by decide)
  have d7 := d 7 (by decide) (by decide)
  have d1 := d 1 (by decide) (by decide)
  simp only [Int.reduceAdd] at d0 d6 d7 d1
  rcases (show i = 0 ∨ i = 1 ∨ i = 2 ∨ i = 3 ∨ i = 4 ∨ i = 5 ∨ i = 6 ∨ i = 7 ∨ i = 8 ∨ i = 9 by omega) with rfl | rfl | rfl | rfl | rfl | rfl | rfl | rfl | rfl | rfl
  · show F 5 0 + 1 = σ 8 + 1; omega
  · show F 5 1 = σ 9 + 0; omega
  · exact d 2 (by decide) (by decide)
  · exact d 3 (by decide) (by decide)
  · exact d 4 (by decide) (by decide)
  · exact d 5 (by decide) (by decide)
  · show F 5 6 + b = σ 14 + b; omega
  · show F 5 7 + e = σ 15 + e; omega
  · exact d 8 (by decide) (by decide)
  · exact d 9 (by decide) (by decide)
theorem pre_1 {F : Int → Int → Int} {σ : Int → Int} {b e : Int} (h : RN F σ) : ∀ i, 0 ≤ i → i ≤ 9 → up (up (up (up (F 5) 0 (F 5 0 + 1)) 6 (F 5 6 + b)) 7 (F 5 7 + e)) 1 (F 5 1 + 1) i = preM 1 b e σ (8 + i) := by
  intro i i0 i1
  have d := h.2.2.2
  have d0 := d 0 (by decide) (by decide)
  have d6 := d 6 (by decide) (by decide)
  have d7 := d 7 (by decide) (by decide)
  have d1 := d 1 (by decide) (by decide)
  simp only [Int.reduceAdd] at d0 d6 d7 d1
  rcases (show i = 0 ∨ i = 1 ∨ i = 2 ∨ i = 3 ∨ i = 4 ∨ i = 5 ∨ i = 6 ∨ i = 7 ∨ i = 8 ∨ i = 9 by omega) with rfl | rfl | rfl | rfl | rfl | rfl | rfl | rfl | rfl | rfl
  · show F 5 0 + 1 = σ 8 + 1; omega
  · show F 5 1 + 1 = σ 9 + 1; omega
  · exact d 2 (by decide) (by decide)
  · exact d 3 (by decide) (by decide)
  · exact d 4 (by decide) (by decide)
  · exact d 5 (by decide) (by decide)
  · show F 5 6 + b = σ 14 + b; omega
  · show F 5 7 + e = σ 15 + e; omega
  · exact d 8 (by decide) (by decide)
  · exact d 9 (by decide) (by decide)
theorem st_eq {F : Int → Int → Int} {σ : Int → Int} (h : RN F σ) (h1 : σ 1 = 0 ∨ σ 1 = 1) : ∀ p, 0 ≤ p → p ≤ 10 → stL F p = σ (18 + 11 * σ 1 + p) := by
  intro p p0 p1
  have q := h.1.1
  unfold stL
  rcases h1 with h1 | h1
  · rw [if_pos (by omega), h1]; exact h.2.1 p p0 p1
  · rw [if_neg (by omega), h1]; exact h.2.2.1 p p0 p1
theorem nm_eq {F : Int → Int → Int} {σ : Int → Int} (h : RN F σ) (h1 : σ 1 = 0 ∨ σ 1 = 1) : nmL F = σ (18 + 11 * σ 1 + 6) + σ 2 := by
  have q := h.1.1
  have q2 := h.1.2.1
  have a := h.2.1 6 (by decide) (by decide)
  have b := h.2.2.1 6 (by decide) (by decide)
  unfold nmL
  rcases h1 with h1 | h1
  · rw [if_pos (by omega), h1, q2, a]; rfl
  · rw [if_neg (by omega), h1, q2, b]; rfl
theorem isD_eq {F : Int → Int → Int} {σ : Int → Int} (h : RN F σ) (hj : J σ) : isDL F ↔ isDataP σ := by
  have h1 := hj.1.1
  have e := nm_eq h h1
  have s7 := st_eq h h1 7 (by decide) (by decide)
  have s0 := st_eq h h1 0 (by decide) (by decide)
  obtain ⟨hJ0, hJS, hJU, hJP, hJA, hJR, hJ3⟩ := hj
  simp only [J0, JS, Int.reduceAdd] at hJ0 hJS hJU
  have hn : 0 ≤ nmL F ∧ σ (18 + 11 * σ 1 + 0) ≤ 20 := by
    rw [e]
    rcases h1 with h1 | h1
    · rw [h1]; simp only [Int.reduceAdd, Int.reduceMul]; omega
    · rw [h1]; simp only [Int.reduceAdd, Int.reduceMul]; omega
  obtain ⟨g1, g2, g4, g5, g6⟩ := h.1
  unfold isDL isDataP
  rw [← e, ← s7, ← s0] at *
  constructor
  · rintro ⟨a1, a2, a3, a4, a5, a6⟩
    exact ⟨by omega, by omega, a5, a3⟩
  · rintro ⟨a1, a2, a3, a4⟩
    exact ⟨by omega, by omega, a4, hn.1, a3, by omega⟩
end StepL
