section Lossless
def UN (σ : Int → Int) : Int := σ 18 - σ 30 + (σ 29 - σ 19)
/-- the next number of the talker is what the listener wants -/
def cln (σ : Int → Int) : Prop := σ 6 = 0 ∧ (if σ 1 = 0 then σ 24 + σ 2 = σ 30 else σ 35 + σ 2 = σ 19)
/-- the listener has messages that are not accepted -/
def lsn (σ : Int → Int) : Prop := if σ 1 = 0 then σ 19 < σ 29 else σ 30 < σ 18
/-- a bound of the frames to the end -/
def PB (σ : Int → Int) (k : Int) : Prop := (cln σ → k ≤ 3 * UN σ ∧ (lsn σ → k ≤ 3 * UN σ - 1) ∧ (isDataP σ → k ≤ 3 * UN σ - 2)) ∧ (¬ cln σ → k ≤ 137 - σ 2)
theorem ev_d0 {σ : Int → Int} {l b e : Int} (h1 : σ 1 = 0) : sdF 0 0 (preM l b e σ) 1 = 0 ∧ sdF 0 0 (preM l b e σ) 2 = σ 2 + 1 ∧ sdF 0 0 (preM l b e σ) 4 = σ 4 ∧ sdF 0 0 (preM l b e σ) 6 = σ 6 ∧ sdF 0 0 (preM l b e σ) 18 = σ 18 ∧ sdF 0 0 (preM l b e σ) 29 = σ 29 ∧ sdF 0 0 (preM l b e σ) 19 = σ 19 ∧ sdF 0 0 (preM l b e σ) 24 = σ 24 ∧ sdF 0 0 (preM l b e σ) 30 = σ 30 + bI (σ 24 + σ 2 = σ 30) := by
  rw [sdF_0 (show preM l b e σ 1 = 0 from h1), if_pos rfl]
  unfold sb0 te0
  split
  · exact ⟨h1, rfl, rfl, rfl, rfl, rfl, rfl, rfl, rfl⟩
  · exact ⟨h1, rfl, rfl, rfl, rfl, rfl, rfl, rfl, rfl⟩
theorem ev_t0 {σ : Int → Int} {l b e : Int} (hw : 0 ≤ σ 22) : stF 0 0 (preM l b e σ) 1 = 1 ∧ stF 0 0 (preM l b e σ) 2 = 0 ∧ stF 0 0 (preM l b e σ) 4 = σ 4 ∧ stF 0 0 (preM l b e σ) 6 = 0 ∧ stF 0 0 (preM l b e σ) 18 = σ 18 ∧ stF 0 0 (preM l b e σ) 29 = σ 29 ∧ stF 0 0 (preM l b e σ) 19 = σ 19 ∧ stF 0 0 (preM l b e σ) 30 = σ 30 ∧ stF 0 0 (preM l b e σ) 35 = σ 19 ∧ σ 20 + σ 21 - σ 22 ≤ stF 0 0 (preM l b e σ) 36 := by
  rw [stF_0]
  have k7 : te0 (ta 0 (preM l b e σ)) 36 = σ 20 + σ 21 := by unfold te0; split <;> rfl
  have k4 : te0 (ta 0 (preM l b e σ)) 22 = σ 22 := by unfold te0; split <;> rfl
  have k6 : te0 (ta 0 (preM l b e σ)) 35 = σ 19 := by unfold te0; split <;> rfl
  have kk : ∀ j, j = 4 ∨ j = 6 ∨ j = 18 ∨ j = 29 ∨ j = 19 ∨ j = 30 → te0 (ta 0 (preM l b e σ)) j = ta 0 (preM l b e σ) j := by
    intro j hj
    unfold te0
    split
    · repeat rw [up_n (by omega)]
    · repeat rw [up_n (by omega)]
  have hk : tk0 (te0 (ta 0 (preM l b e σ))) ≤ σ 22 := by unfold tk0; rw [k4]; split <;> omega
  generalize tk0 (te0 (ta 0 (preM l b e σ))) = k at hk ⊢
  have e4 := kk 4 (by omega)
  have e6 := kk 6 (by omega)
  have e18 := kk 18 (by omega)
  have e29 := kk 29 (by omega)
  have e19 := kk 19 (by omega)
  have e30 := kk 30 (by omega)
  generalize te0 (ta 0 (preM l b e σ)) = τ at k7 k4 k6 e4 e6 e18 e29 e19 e30 ⊢
  by_cases c : 0 < k
  · rw [if_pos c]
    refine ⟨rfl, rfl, e4, e6, e18, e29, e19, e30, k6, ?_⟩
    show _ ≤ τ 36 - k
    omega
  · rw [if_neg c]
    refine ⟨rfl, rfl, e4, e6, e18, e29, e19, e30, k6, ?_⟩
    show _ ≤ τ 36
    omega
/-- data: one frame less -/
theorem PB_d0 {σ τ : Int → Int} {k : Int} (h : J σ) (h1 : σ 1 = 0) (hd : isDataP σ) (e : τ 1 = 0 ∧ τ 2 = σ 2 + 1 ∧ τ 4 = σ 4 ∧ τ 6 = σ 6 ∧ τ 18 = σ 18 ∧ τ 29 = σ 29 ∧ τ 19 = σ 19 ∧ τ 24 = σ 24 ∧ τ 30 = σ 30 + bI (σ 24 + σ 2 = σ 30)) (hk : PB τ k) : PB σ (k + 1) := by
  obtain ⟨e1, e2, e4, e6, e18, e29, ea, ek, eb⟩ := e
  have hj := h
  obtain ⟨hJ0, hJS, hJU, hJP, hJA, hJR, hJ3⟩ := hj
  simp only [J0, JS, Int.reduceAdd] at hJ0 hJS hJU
  obtain ⟨p1, p2⟩ := hk
  unfold cln lsn UN at p1
  unfold cln at p2
  unfold PB cln lsn UN
  have hτ : τ 1 = 0 := by omega
  have hσ : σ 1 = 0 := by omega
  simp only [hτ, reduceIte, if_true, if_false] at p1 p2
  simp only [hσ, reduceIte, if_true, if_false]
  by_cases c : σ 24 + σ 2 = σ 30
  · rw [bI_t c] at eb
    have q := p1 ⟨by rw [e6]; exact hd.1, by omega⟩
    exact ⟨fun _ => ⟨by omega, fun _ => by omega, fun _ => by omega⟩, fun x => absurd ⟨hd.1, c⟩ x⟩
  · rw [bI_f c] at eb
    refine ⟨fun x => absurd x.2 c, fun _ => ?_⟩
    have d2 := hd.2.1
    by_cases cc : τ 6 = 0 ∧ τ 24 + τ 2 = τ 30
    · have q := (p1 cc).1
      omega
    · have q := p2 cc
      omega
/-- a turn: one frame less -/
theorem PB_t0 {σ τ : Int → Int} {k : Int} (h : J σ) (h1 : σ 1 = 0) (h4 : 1 ≤ σ 4) (hr : σ 20 = σ 19) (hd : ¬ isDataP σ) (ho : ¬ isOverP σ) (e : τ 1 = 1 ∧ τ 2 = 0 ∧ τ 4 = σ 4 ∧ τ 6 = 0 ∧ τ 18 = σ 18 ∧ τ 29 = σ 29 ∧ τ 19 = σ 19 ∧ τ 30 = σ 30 ∧ τ 35 = σ 19 ∧ σ 20 + σ 21 - σ 22 ≤ τ 36) (hk : PB τ k) : PB σ (k + 1) := by
  obtain ⟨e1, e2, e4, e6, e18, e29, e19, e30, ek, el⟩ := e
  have hj := h
  obtain ⟨hJ0, hJS, hJU, hJP, hJA, hJR, hJ3⟩ := hj
  simp only [J0, JS, Int.reduceAdd] at hJ0 hJS hJU
  have ho2 : ¬ (σ 19 = σ 29 ∧ σ 30 = σ 18) := ho
  obtain ⟨p1, p2⟩ := hk
  have iD : σ 19 < σ 29 → isDataP τ := fun x => by
    unfold isDataP
    rw [e1]
    simp only [Int.reduceAdd, Int.reduceMul]
    omega
  unfold cln lsn UN at p1
  unfold cln at p2
  unfold PB cln lsn UN
  have hτ : ¬ τ 1 = 0 := by omega
  have hσ : σ 1 = 0 := by omega
  simp only [hτ, reduceIte, if_true, if_false] at p1 p2
  simp only [hσ, reduceIte, if_true, if_false]
  have q := p1 ⟨e6, by omega⟩
  by_cases x : σ 19 < σ 29
  · have q2 := q.2.2 (iD x)
    exact ⟨fun _ => ⟨by omega, fun _ => by omega, fun y => absurd y hd⟩, fun _ => by omega⟩
  · have q2 := q.2.1 (by omega)
    exact ⟨fun _ => ⟨by omega, fun y => absurd y x, fun y => absurd y hd⟩, fun _ => by omega⟩
theorem ev_d1 {σ : Int → Int} {l b e : Int} (h1 : σ 1 = 1) : sdF 1 0 (preM l b e σ) 1 = 1 ∧ sdF 1 0 (preM l b e σ) 2 = σ 2 + 1 ∧ sdF 1 0 (preM l b e σ) 4 = σ 4 ∧ sdF 1 0 (preM l b e σ) 6 = σ 6 ∧ sdF 1 0 (preM l b e σ) 18 = σ 18 ∧ sdF 1 0 (preM l b e σ) 29 = σ 29 ∧ sdF 1 0 (preM l b e σ) 30 = σ 30 ∧ sdF 1 0 (preM l b e σ) 35 = σ 35 ∧ sdF 1 0 (preM l b e σ) 19 = σ 19 + bI (σ 35 + σ 2 = σ 19) := by
  rw [sdF_1 (show preM l b e σ 1 = 1 from h1), if_pos rfl]
  unfold sb1 te1
  split
  · exact ⟨h1, rfl, rfl, rfl, rfl, rfl, rfl, rfl, rfl⟩
  · exact ⟨h1, rfl, rfl, rfl, rfl, rfl, rfl, rfl, rfl⟩
theorem ev_t1 {σ : Int → Int} {l b e : Int} (hw : 0 ≤ σ 33) : stF 1 0 (preM l b e σ) 1 = 0 ∧ stF 1 0 (preM l b e σ) 2 = 0 ∧ stF 1 0 (preM l b e σ) 4 = σ 4 ∧ stF 1 0 (preM l b e σ) 6 = 0 ∧ stF 1 0 (preM l b e σ) 18 = σ 18 ∧ stF 1 0 (preM l b e σ) 29 = σ 29 ∧ stF 1 0 (preM l b e σ) 19 = σ 19 ∧ stF 1 0 (preM l b e σ) 30 = σ 30 ∧ stF 1 0 (preM l b e σ) 24 = σ 30 ∧ σ 31 + σ 32 - σ 33 ≤ stF 1 0 (preM l b e σ) 25 := by
  rw [stF_1]
  have k7 : te1 (ta 0 (preM l b e σ)) 25 = σ 31 + σ 32 := by unfold te1; split <;> rfl
  have k4 : te1 (ta 0 (preM l b e σ)) 33 = σ 33 := by unfold te1; split <;> rfl
  have k6 : te1 (ta 0 (preM l b e σ)) 24 = σ 30 := by unfold te1; split <;> rfl
  have kk : ∀ j, j = 4 ∨ j = 6 ∨ j = 18 ∨ j = 29 ∨ j = 19 ∨ j = 30 → te1 (ta 0 (preM l b e σ)) j = ta 0 (preM l b e σ) j := by
    intro j hj
    unfold te1
    split
    · repeat rw [up_n (by omega)]
    · repeat rw [up_n (by omega)]
  have hk : tk1 (te1 (ta 0 (preM l b e σ))) ≤ σ 33 := by unfold tk1; rw [k4]; split <;> omega
  generalize tk1 (te1 (ta 0 (preM l b e σ))) = k at hk ⊢
  have e4 := kk 4 (by omega)
  have e6 := kk 6 (by omega)
  have e18 := kk 18 (by omega)
  have e29 := kk 29 (by omega)
  have e19 := kk 19 (by omega)
  have e30 := kk 30 (by omega)
  generalize te1 (ta 0 (preM l b e σ)) = τ at k7 k4 k6 e4 e6 e18 e29 e19 e30 ⊢
  by_cases c : 0 < k
  · rw [if_pos c]
    refine ⟨rfl, rfl, e4, e6, e18, e29, e19, e30, k6, ?_⟩
    show _ ≤ τ 25 - k
    omega
  · rw [if_neg c]
    refine ⟨rfl, rfl, e4, e6, e18, e29, e19, e30, k6, ?_⟩
    show _ ≤ τ 25
    omega
/-- data: one frame less -/
theorem PB_d1 {σ τ : Int → Int} {k : Int} (h : J σ) (h1 : σ 1 = 1) (hd : isDataP σ) (e : τ 1 = 1 ∧ τ 2 = σ 2 + 1 ∧ τ 4 = σ 4 ∧ τ 6 = σ 6 ∧ τ 18 = σ 18 ∧ τ 29 = σ 29 ∧ τ 30 = σ 30 ∧ τ 35 = σ 35 ∧ τ 19 = σ 19 + bI (σ 35 + σ 2 = σ 19)) (hk : PB τ k) : PB σ (k + 1) := by
  obtain ⟨e1, e2, e4, e6, e18, e29, ea, ek, eb⟩ := e
  have hj := h
  obtain ⟨hJ0, hJS, hJU, hJP, hJA, hJR, hJ3⟩ := hj
  simp only [J0, JS, Int.reduceAdd] at hJ0 hJS hJU
  obtain ⟨p1, p2⟩ := hk
  unfold cln lsn UN at p1
  unfold cln at p2
  unfold PB cln lsn UN
  have hτ : ¬ τ 1 = 0 := by omega
  have hσ : ¬ σ 1 = 0 := by omega
  simp only [hτ, reduceIte, if_true, if_false] at p1 p2
  simp only [hσ, reduceIte, if_true, if_false]
  by_cases c : σ 35 + σ 2 = σ 19
  · rw [bI_t c] at eb
    have q := p1 ⟨by rw [e6]; exact hd.1, by omega⟩
    exact ⟨fun _ => ⟨by omega, fun _ => by omega, fun _ => by omega⟩, fun x => absurd ⟨hd.1, c⟩ x⟩
  · rw [bI_f c] at eb
    refine ⟨fun x => absurd x.2 c, fun _ => ?_⟩
    have d2 := hd.2.1
    by_cases cc : τ 6 = 0 ∧ τ 35 + τ 2 = τ 19
    · have q := (p1 cc).1
      omega
    · have q := p2 cc
      omega
/-- a turn: one frame less -/
theorem PB_t1 {σ τ : Int → Int} {k : Int} (h : J σ) (h1 : σ 1 = 1) (h4 : 1 ≤ σ 4) (hr : σ 31 = σ 30) (hd : ¬ isDataP σ) (ho : ¬ isOverP σ) (e : τ 1 = 0 ∧ τ 2 = 0 ∧ τ 4 = σ 4 ∧ τ 6 = 0 ∧ τ 18 = σ 18 ∧ τ 29 = σ 29 ∧ τ 19 = σ 19 ∧ τ 30 = σ 30 ∧ τ 24 = σ 30 ∧ σ 31 + σ 32 - σ 33 ≤ τ 25) (hk : PB τ k) : PB σ (k + 1) := by
  obtain ⟨e1, e2, e4, e6, e18, e29, e19, e30, ek, el⟩ := e
  have hj := h
  obtain ⟨hJ0, hJS, hJU, hJP, hJA, hJR, hJ3⟩ := hj
  simp only [J0, JS, Int.reduceAdd] at hJ0 hJS hJU
  have ho2 : ¬ (σ 19 = σ 29 ∧ σ 30 = σ 18) := ho
  obtain ⟨p1, p2⟩ := hk
  have iD : σ 30 < σ 18 → isDataP τ := fun x => by
    unfold isDataP
    rw [e1]
    simp only [Int.reduceAdd, Int.reduceMul]
    omega
  unfold cln lsn UN at p1
  unfold cln at p2
  unfold PB cln lsn UN
  have hτ : τ 1 = 0 := by omega
  have hσ : ¬ σ 1 = 0 := by omega
  simp only [hτ, reduceIte, if_true, if_false] at p1 p2
  simp only [hσ, reduceIte, if_true, if_false]
  have q := p1 ⟨e6, by omega⟩
  by_cases x : σ 30 < σ 18
  · have q2 := q.2.2 (iD x)
    exact ⟨fun _ => ⟨by omega, fun _ => by omega, fun y => absurd y hd⟩, fun _ => by omega⟩
  · have q2 := q.2.1 (by omega)
    exact ⟨fun _ => ⟨by omega, fun y => absurd y x, fun y => absurd y hd⟩, fun _ => by omega⟩
theorem PB_0 {σ : Int → Int} (h : J σ) (ho : ¬ isOverP σ) : PB σ 0 := by
  obtain ⟨hJ0, hJS, hJU, hJP, hJA, hJR, hJ3⟩ := h
  simp only [J0, JS, Int.reduceAdd] at hJ0 hJS hJU
  have ho2 : ¬ (σ 19 = σ 29 ∧ σ 30 = σ 18) := ho
  unfold PB UN
  exact ⟨fun _ => ⟨by omega, fun _ => by omega, fun _ => by omega⟩, fun _ => by omega⟩
theorem PB_m {σ : Int → Int} {k : Int} (h : J σ) (hk : PB σ k) : k ≤ 137 := by
  obtain ⟨hJ0, hJS, hJU, hJP, hJA, hJR, hJ3⟩ := h
  simp only [J0, JS, Int.reduceAdd] at hJ0 hJS hJU
  unfold PB UN at hk
  by_cases c : cln σ
  · have := (hk.1 c).1; omega
  · have := hk.2 c; omega
theorem PB_step {σ : Int → Int} {k : Int} (h : J σ) (h4 : 1 ≤ σ 4) (hr : σ 20 = σ 19 ∧ σ 31 = σ 30) (ho : ¬ isOverP σ) (hz : lz σ (σ 3) = 0) (hk : PB (stepF 1 σ) k) : PB σ (k + 1) := by
  have hw0 : 0 ≤ σ 22 := h.2.1.2.2.2.1.1
  have hw1 : 0 ≤ σ 33 := h.2.2.1.2.2.2.1.1
  have er : ∀ j, j ≠ 20 → j ≠ 31 → stepF 1 σ j = stepF 0 σ j := fun j a b => by rw [stepF_1]; unfold rdF; rw [up_n b, up_n a]
  by_cases c : isDataP σ
  · rcases h.1.1 with h1 | h1
    · refine PB_d0 h h1 c ?_ hk
      rw [er 1 (by decide) (by decide), er 2 (by decide) (by decide), er 4 (by decide) (by decide), er 6 (by decide) (by decide), er 18 (by decide) (by decide), er 29 (by decide) (by decide), er 19 (by decide) (by decide), er 24 (by decide) (by decide), er 30 (by decide) (by decide), stepF_d c, hz, h1]
      exact ev_d0 h1
    · refine PB_d1 h h1 c ?_ hk
      rw [er 1 (by decide) (by decide), er 2 (by decide) (by decide), er 4 (by decide) (by decide), er 6 (by decide) (by decide), er 18 (by decide) (by decide), er 29 (by decide) (by decide), er 30 (by decide) (by decide), er 35 (by decide) (by decide), er 19 (by decide) (by decide), stepF_d c, hz, h1]
      exact ev_d1 h1
  · rcases h.1.1 with h1 | h1
    · refine PB_t0 h h1 h4 hr.1 c ho ?_ hk
      rw [er 1 (by decide) (by decide), er 2 (by decide) (by decide), er 4 (by decide) (by decide), er 6 (by decide) (by decide), er 18 (by decide) (by decide), er 29 (by decide) (by decide), er 19 (by decide) (by decide), er 30 (by decide) (by decide), er 35 (by decide) (by decide), er 36 (by decide) (by decide), stepF_t c, hz, h1]
      exact ev_t0 hw0
    · refine PB_t1 h h1 h4 hr.2 c ho ?_ hk
      rw [er 1 (by decide) (by decide), er 2 (by decide) (by decide), er 4 (by decide) (by decide), er 6 (by decide) (by decide), er 18 (by decide) (by decide), er 29 (by decide) (by decide), er 19 (by decide) (by decide), er 30 (by decide) (by decide), er 24 (by decide) (by decide), er 25 (by decide) (by decide), stepF_t c, hz, h1]
      exact ev_t1 hw1
theorem step_4 {σ : Int → Int} (h : J σ) : stepF 0 σ 4 = σ 4 := by
  have hw0 : 0 ≤ σ 22 := h.2.1.2.2.2.1.1
  have hw1 : 0 ≤ σ 33 := h.2.2.1.2.2.2.1.1
  by_cases c : isDataP σ
  · rw [stepF_d c]
    rcases h.1.1 with h1 | h1
    · rw [h1, sdF_0 (show preM _ _ _ σ 1 = 0 from h1)]
      split
      · unfold sb0 te0
        split <;> rfl
      · rfl
    · rw [h1, sdF_1 (show preM _ _ _ σ 1 = 1 from h1)]
      split
      · unfold sb1 te1
        split <;> rfl
      · rfl
  · rw [stepF_t c]
    by_cases hz : lz σ (σ 3) = 0
    · rw [hz]
      rcases h.1.1 with h1 | h1
      · rw [h1]; exact (ev_t0 hw0).2.2.1
      · rw [h1]; exact (ev_t1 hw1).2.2.1
    · rcases h.1.1 with h1 | h1
      · rw [h1, stF_0l hz]; rfl
      · rw [h1, stF_1l hz]; rfl
/-- a run without losses -/
theorem lossless {σ : Int → Int} (h : J σ) (h4 : 1 ≤ σ 4) : ∀ n : Nat, (∀ j : Nat, j < n → ¬ isOverP (itF 1 (rdF σ) j) ∧ lz (itF 1 (rdF σ) j) (itF 1 (rdF σ) j 3) = 0) → (n : Int) ≤ 138 ∧ itF 1 (rdF σ) n 0 ≤ σ 0 + 32 * n := by
  have hj := J_it (Or.inr rfl) (J_rd h)
  have h4' : ∀ n : Nat, itF 1 (rdF σ) n 4 = σ 4 := by
    intro n
    induction n with
    | zero => rfl
    | succ n ih => show stepF 1 (itF 1 (rdF σ) n) 4 = _; rw [stepF_1]; exact (step_4 (hj n)).trans ih
  have hrd : ∀ n : Nat, itF 1 (rdF σ) n 20 = itF 1 (rdF σ) n 19 ∧ itF 1 (rdF σ) n 31 = itF 1 (rdF σ) n 30 := by
    intro n
    cases n with
    | zero => exact ⟨rfl, rfl⟩
    | succ n => show stepF 1 (itF 1 (rdF σ) n) 20 = stepF 1 (itF 1 (rdF σ) n) 19 ∧ _; rw [show itF 1 (rdF σ) (n + 1) = stepF 1 (itF 1 (rdF σ) n) from rfl, stepF_1]; exact ⟨rfl, rfl⟩
  intro n hno
  have back : ∀ m : Nat, m ≤ n → ∀ k : Int, PB (itF 1 (rdF σ) m) k → PB (rdF σ) (k + m) := by
    intro m
    induction m with
    | zero => intro _ k hk; rw [show k + ((0 : Nat) : Int) = k by omega]; exact hk
    | succ m ih =>
      intro hm k hk
      have a := hno m (by omega)
      have s := PB_step (hj m) (by rw [h4']; exact h4) (hrd m) a.1 a.2 hk
      have := ih (by omega) (k + 1) s
      rw [show k + ((m + 1 : Nat) : Int) = k + 1 + (m : Int) by omega]
      exact this
  refine ⟨?_, ?_⟩
  · cases n with
    | zero => omega
    | succ n =>
      have p := back n (by omega) 0 (PB_0 (hj n) (hno n (by omega)).1)
      have := PB_m (J_rd h) p
      omega
  · have t : ∀ m : Nat, m ≤ n → itF 1 (rdF σ) m 0 ≤ σ 0 + 32 * m := by
      intro m
      induction m with
      | zero => intro _; show σ 0 ≤ σ 0 + 32 * ((0 : Nat) : Int); omega
      | succ m ih =>
        intro hm
        have s := (step_0 (hj m)).2 (hno m (by omega)).2
        have i := ih (by omega)
        show stepF 1 (itF 1 (rdF σ) m) 0 ≤ _
        rw [stepF_1, show rdF (stepF 0 (itF 1 (rdF σ) m)) 0 = stepF 0 (itF 1 (rdF σ) m) 0 from rfl]
        omega
    exact t n (Nat.le_refl _)
end Lossless
