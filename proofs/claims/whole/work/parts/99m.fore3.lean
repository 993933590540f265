section Fore3
theorem up_idF {F : Int → Int → Int} {k : Int} : up F k (F k) = F := by
  funext i
  unfold up
  split
  · rename_i e; rw [e]
  · rfl
theorem foF_id {F : Int → Int → Int} (h9 : F 0 9 = -1) : foF (-1) (F 0 4) F = F := by
  unfold foF
  rw [up_id (f := F 0) (i := 4) rfl, up_id h9, up_idF]
theorem foF_l {F : Int → Int → Int} {lost : Int} : foF lost (F 0 4) F = up F 0 (up (F 0) 9 lost) := by
  unfold foF
  rw [up_id (f := F 0) (i := 4) rfl]
theorem foF_b {F : Int → Int → Int} {b : Int} (h9 : F 0 9 = -1) : foF (-1) b F = up F 0 (up (F 0) 4 b) := by
  unfold foF
  rw [up_id (f := up (F 0) 4 b) (i := 9) (by rw [up_n (by decide)]; exact h9)]
/-- the time goes on -/
theorem step_0 {σ : Int → Int} (h : J σ) : σ 0 ≤ stepF 0 σ 0 ∧ (lz σ (σ 3) = 0 → stepF 0 σ 0 ≤ σ 0 + 32) := by
  have hd := dl_in h
  have he := es_in h
  have h5 := h.1.2.2.2.2.1
  have h0 := h.1.1
  have hb : 0 ≤ 2 + (7 + dl σ) + esM σ ∧ 2 + (7 + dl σ) + esM σ ≤ 32 := by omega
  by_cases c : isDataP σ
  · rw [stepF_d c]
    generalize 2 + (7 + dl σ) + esM σ = b at hb ⊢
    generalize bI (¬ lz σ (σ 3) = 0) = l
    generalize esM σ = e
    have key : sdF (σ 1) (lz σ (σ 3)) (preM l b e σ) 0 = σ 0 + b := by
      rcases h0 with h1 | h1
      · rw [h1, sdF_0 (show preM l b e σ 1 = 0 from h1)]
        split
        · unfold sb0 te0
          split <;> rfl
        · rfl
      · rw [h1, sdF_1 (show preM l b e σ 1 = 1 from h1)]
        split
        · unfold sb1 te1
          split <;> rfl
        · rfl
    rw [key]
    exact ⟨by omega, fun _ => by omega⟩
  · rw [stepF_t c]
    generalize 2 + (7 + dl σ) + esM σ = b at hb ⊢
    generalize bI (¬ lz σ (σ 3) = 0) = l
    generalize esM σ = e
    by_cases hz : lz σ (σ 3) = 0
    · rw [hz]
      have key : stF (σ 1) 0 (preM l b e σ) 0 = σ 0 + b := by
        rcases h0 with h1 | h1
        · rw [h1, stF_0]
          split
          · show tb0 (te0 _) 0 = _
            unfold tb0 te0
            split <;> rfl
          · unfold tb0 te0
            split <;> rfl
        · rw [h1, stF_1]
          split
          · show tb1 (te1 _) 0 = _
            unfold tb1 te1
            split <;> rfl
          · unfold tb1 te1
            split <;> rfl
      rw [key]
      exact ⟨by omega, fun _ => by omega⟩
    · refine ⟨?_, fun x => absurd x hz⟩
      rcases h0 with h1 | h1
      · rw [h1, stF_0l hz]; show σ 0 ≤ σ 0 + b + σ 5; omega
      · rw [h1, stF_1l hz]; show σ 0 ≤ σ 0 + b + σ 5; omega
theorem it_0 {r : Int} {σ : Int → Int} (hr : r = 0 ∨ r = 1) (h : J σ) : ∀ n : Nat, σ 0 ≤ itF r σ n 0 := by
  intro n
  induction n with
  | zero => exact Int.le_refl _
  | succ n ih =>
    have s := (step_0 (J_it hr h n)).1
    have e : stepF r (itF r σ n) 0 = stepF 0 (itF r σ n) 0 := by
      rw [stepF_r hr]; unfold rdS; split <;> rfl
    show σ 0 ≤ stepF r (itF r σ n) 0
    omega
theorem goT_0 {rd lost b : Int} {σ : Int → Int} (hr : rd = 0 ∨ rd = 1) (hj : J σ) (h7 : σ 7 ≤ 40) (hl : -10000 ≤ lost ∧ lost ≤ 10000) (hb : 0 ≤ b ∧ b ≤ 7) : 0 ≤ goT rd lost b σ := by
  have h70 := hj.1.2.2.2.2.2.1
  have g0 : gsF rd lost b σ 0 = σ 0 := by
    rw [gs_rd h70]
    have : ∀ τ : Int → Int, rdS rd τ 0 = τ 0 := fun τ => by unfold rdS; split <;> rfl
    rw [this, gs_0 h70]
  have := it_0 hr (J_gs (rd := rd) (lost := lost) hj h7 hl hb) (goK rd (gsF rd lost b σ))
  unfold goT
  omega
theorem tkL_n {rd : Int} {K : Int → Int → Int64} {F : Int → Int → Int} (h : ¬ (enK rd K F 600 : Int) ≤ 600) : tkL rd K F = -1 := if_neg h
theorem tkL_sm {rd : Int} {K : Int → Int → Int64} {F : Int → Int → Int} (h : FOK rd K F 600) : sm (tkL rd K F) := by
  have t0 := tm_in (h 0 (by decide)).1
  unfold tkL
  split
  · rename_i c
    have t1 := tm_in (h _ c).1
    have t0' : -200000000 < tmL F ∧ tmL F < 200000000 := t0
    exact ⟨by omega, by omega⟩
  · decide
section
variable {F : Int → Int → Int} {K : Int → Int → Int64} {σ : Int → Int}
theorem GOOD_lost {lost b : Int} (h : GOOD F K σ) (hb : 0 ≤ b ∧ b ≤ 7) (hl : -10000 ≤ lost ∧ lost ≤ 10000) : REL (foF lost b F) K (gsF 0 lost b σ) ∧ J (gsF 0 lost b σ) ∧ gsF 0 lost b σ 3 ≤ 4000 := by
  obtain ⟨r, j, h4, h7, h3, _, h9, _⟩ := h
  refine ⟨REL_gs r j h9 hl, J_gs j h7 hl hb, ?_⟩
  rw [gs_3 j.1.2.2.2.2.2.1]; omega
theorem GOOD_FOK {rd lost b : Int} (hr : rd = 0 ∨ rd = 1) (h : GOOD F K σ) (hb : 0 ≤ b ∧ b ≤ 7) (hl : -10000 ≤ lost ∧ lost ≤ 10000) : FOK rd K (foF lost b F) 600 := by
  obtain ⟨r, j, g⟩ := GOOD_lost (lost := lost) h hb hl
  exact REL_FOK hr r j g (Int.le_refl _)
theorem until_eq {rd : Int} (hr : rd = 0 ∨ rd = 1) (h : GOOD F K σ) (q : Int) : (if q = 0 then tkL rd K F else enV rd K F 600) = (if goO rd (-1) (σ 4) σ then (if q = 0 then goT rd (-1) (σ 4) σ else goN rd (-1) (σ 4) σ) else -1) := by
  obtain ⟨r, j, h4, h7, h3, _, h9, _⟩ := h
  have e4 : F 0 4 = σ 4 := r.1.1.2.2.1
  have f := fore_eq (rd := rd) (lost := -1) (b := σ 4) hr r j h9 h7 (by decide) j.1.2.2.2.1
  rw [← e4, foF_id h9, e4] at f
  by_cases c : goO rd (-1) (σ 4) σ
  · have c2 := f.1.mp c
    obtain ⟨g1, g2⟩ := f.2 c2
    rw [if_pos c]
    by_cases hq : q = 0
    · rw [if_pos hq, if_pos hq, g2]
    · rw [if_neg hq, if_neg hq]
      unfold goN enV
      rw [g1, if_pos c2]
  · have c2 : ¬ (enK rd K F 600 : Int) ≤ 600 := fun x => c (f.1.mpr x)
    rw [if_neg c, tkL_n c2]
    unfold enV
    rw [if_neg c2]
    split <;> rfl
theorem delay_eq {lost : Int} (h : GOOD F K σ) (hl : -1 ≤ lost ∧ lost ≤ 10000) : dyL K F lost = deF lost σ := by
  obtain ⟨r, j, h4, h7, h3, _, h9, _⟩ := h
  have e4 : F 0 4 = σ 4 := r.1.1.2.2.1
  have f := fore_eq (rd := 1) (lost := -1) (b := σ 4) (Or.inr rfl) r j h9 h7 (by decide) j.1.2.2.2.1
  have g := fore_eq (rd := 1) (lost := lost) (b := σ 4) (Or.inr rfl) r j h9 h7 ⟨by omega, by omega⟩ j.1.2.2.2.1
  have f0 := goT_0 (rd := 1) (lost := -1) (b := σ 4) (Or.inr rfl) j h7 (by decide) j.1.2.2.2.1
  have g0 := goT_0 (rd := 1) (lost := lost) (b := σ 4) (Or.inr rfl) j h7 ⟨by omega, by omega⟩ j.1.2.2.2.1
  rw [← e4, foF_id h9, e4] at f
  rw [← e4, foF_l, e4] at g
  unfold dyL deF
  by_cases c : goO 1 (-1) (σ 4) σ
  · have t1 := (f.2 (f.1.mp c)).2
    rw [if_pos c]
    by_cases d : goO 1 lost (σ 4) σ
    · have t2 := (g.2 (g.1.mp d)).2
      rw [if_pos d, t1, t2, if_neg (by omega)]
    · rw [if_neg d, if_pos (Or.inr (tkL_n (fun x => d (g.1.mpr x))))]
  · rw [if_neg c, if_pos (Or.inl (tkL_n (fun x => c (f.1.mpr x))))]
theorem best_eq (h : GOOD F K σ) : ∀ n : Nat, n ≤ 7 → (bbL K F n).1 = (bbB σ n).1 ∧ (¬ (bbB σ n).1 = -1 → (bbL K F n).2 = (bbB σ n).2) := by
  obtain ⟨r, j, h4, h7, h3, _, h9, _⟩ := h
  intro n
  induction n with
  | zero => intro _; exact ⟨rfl, fun x => absurd rfl x⟩
  | succ n ih =>
    intro hn
    obtain ⟨i1, i2⟩ := ih (by omega)
    have hb : (0 : Int) ≤ (n : Int) + 1 ∧ (n : Int) + 1 ≤ 7 := ⟨by omega, by omega⟩
    have f := fore_eq (rd := 1) (lost := -1) (b := (n : Int) + 1) (Or.inr rfl) r j h9 h7 (by decide) hb
    have f0 := goT_0 (rd := 1) (lost := -1) (b := (n : Int) + 1) (Or.inr rfl) j h7 (by decide) hb
    rw [foF_b h9] at f
    by_cases c : goO 1 (-1) ((n : Int) + 1) σ
    · have t := (f.2 (f.1.mp c)).2
      rw [t] at f0
      by_cases d : (¬ (bbB σ n).1 = -1 ∧ (bbB σ n).2 ≤ goT 1 (-1) ((n : Int) + 1) σ)
      · have eM : bbB σ (n + 1) = bbB σ n := if_pos (Or.inr d)
        have i3 := i2 d.1
        have eC : bbL K F (n + 1) = bbL K F n := if_neg (fun x => by
          rcases x.2 with y | y
          · exact d.1 (by rw [← i1]; exact y)
          · rw [i3] at y; have := d.2; rw [t] at this; omega)
        rw [eM, eC]
        exact ⟨i1, i2⟩
      · have eM : bbB σ (n + 1) = ((n : Int) + 1, goT 1 (-1) ((n : Int) + 1) σ) := if_neg (fun x => x.elim (fun y => y c) d)
        have eC : bbL K F (n + 1) = ((n : Int) + 1, tkL 1 K (up F 0 (up (F 0) 4 ((n : Int) + 1)))) := if_pos ⟨by omega, by
          by_cases y : (bbB σ n).1 = -1
          · exact Or.inl (by rw [i1]; exact y)
          · refine Or.inr ?_
            rw [i2 y]
            have z : ¬ (bbB σ n).2 ≤ goT 1 (-1) ((n : Int) + 1) σ := fun z => d ⟨y, z⟩
            rw [t] at z
            omega⟩
        rw [eM, eC, t]
        exact ⟨rfl, fun _ => rfl⟩
    · have eM : bbB σ (n + 1) = bbB σ n := if_pos (Or.inl c)
      have eC : bbL K F (n + 1) = bbL K F n := if_neg (fun x => x.1 (tkL_n (fun y => c (f.1.mpr y))))
      rw [eM, eC]
      exact ⟨i1, i2⟩
end
end Fore3
