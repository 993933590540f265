section RelStep
theorem dl_eq {F : Int → Int → Int} {K : Int → Int → Int64} {σ : Int → Int} (h : RN F σ) (ht : RT F K σ) (hj : J σ) : dlL F = dl σ := by
  have e := isD_eq h hj
  have n := nm_eq h hj.1.1
  have q := h.1.1
  unfold dlL dl
  by_cases c : isDataP σ
  · rw [if_pos c, if_pos (e.mpr c), n]
    have c0 := (e.mpr c).2.2.2.1
    rw [n] at c0
    obtain ⟨d1, d2, d3, d4⟩ := c
    unfold leL
    rcases hj.1.1 with h1 | h1
    · rw [h1] at d3 c0 ⊢
      rw [if_pos (by omega)]
      simp only [Int.reduceAdd, Int.reduceMul] at d3 c0 ⊢
      exact ht.1 _ c0 d3
    · rw [h1] at d3 c0 ⊢
      rw [if_neg (by omega)]
      simp only [Int.reduceAdd, Int.reduceMul] at d3 c0 ⊢
      exact ht.2.1 _ c0 d3
  · rw [if_neg c, if_neg (fun g => c (e.mp g))]
theorem pb0_eq {F : Int → Int → Int} {K : Int → Int → Int64} {σ : Int → Int} (h : RN F σ) (ht : RT F K σ) (hj : J σ) {k : Int} (h0 : 0 ≤ k) (hk : k < 6 + dl σ) : pbL0 F K k = pb0 σ k := by
  have e := isD_eq h hj
  have n := nm_eq h hj.1.1
  have s := st_eq h hj.1.1
  have q := h.1.1
  unfold pbL0 pb0
  by_cases k0 : k = 0
  · rw [if_pos k0, if_pos k0, q]
    by_cases c : isDataP σ
    · rw [if_pos c, if_pos (e.mpr c)]
    · rw [if_neg c, if_neg (fun g => c (e.mp g))]
  · rw [if_neg k0, if_neg k0]
    by_cases k1 : k = 1
    · rw [if_pos k1, if_pos k1]
      by_cases c : isDataP σ
      · rw [if_pos c, if_pos (e.mpr c), n]
      · rw [if_neg c, if_neg (fun g => c (e.mp g)), s 9 (by decide) (by decide)]
    · rw [if_neg k1, if_neg k1]
      by_cases k2 : k = 2
      · rw [if_pos k2, if_pos k2, s 1 (by decide) (by decide)]
      · rw [if_neg k2, if_neg k2]
        by_cases k3 : k = 3
        · rw [if_pos k3, if_pos k3, s 2 (by decide) (by decide), s 3 (by decide) (by decide)]
        · rw [if_neg k3, if_neg k3]
          by_cases k4 : k = 4
          · rw [if_pos k4, if_pos k4, s 4 (by decide) (by decide)]
          · rw [if_neg k4, if_neg k4]
            by_cases k5 : k = 5
            · rw [if_pos k5, if_pos k5, s 5 (by decide) (by decide)]
            · rw [if_neg k5, if_neg k5]
              have c : isDataP σ := by
                refine Classical.byContradiction (fun c => ?_)
                unfold dl at hk
                rw [if_neg c] at hk
                omega
              have c0 := (e.mpr c).2.2.2.1
              rw [n] at c0 ⊢
              have hdl : dl σ = σ ((40 + (20 * (σ 1))) + (σ ((18 + (11 * (σ 1))) + 6) + σ 2)) := if_pos c
              rw [hdl] at hk
              obtain ⟨d1, d2, d3, d4⟩ := c
              unfold coL
              rcases hj.1.1 with h1 | h1
              · rw [h1] at d3 c0 hk ⊢
                rw [if_pos (by omega)]
                simp only [Int.reduceAdd, Int.reduceMul, Int.zero_add] at d3 c0 hk ⊢
                rw [ht.2.2.1 _ (k - 6) c0 d3 (by omega) (by omega)]
              · rw [h1] at d3 c0 hk ⊢
                rw [if_neg (by omega)]
                simp only [Int.reduceAdd, Int.reduceMul] at d3 c0 hk ⊢
                rw [ht.2.2.2 _ (k - 6) c0 d3 (by omega) (by omega)]
                congr 2
                omega
theorem pb_eq {F : Int → Int → Int} {K : Int → Int → Int64} {σ : Int → Int} (h : RN F σ) (ht : RT F K σ) (hj : J σ) {k : Int} (h0 : 0 ≤ k) (hk : k < 7 + dl σ) : pbL F K k = pbF σ k := by
  have ed := dl_eq h ht hj
  unfold pbL pbF
  rw [ed]
  by_cases c : k = 6 + dl σ
  · rw [if_pos c, if_pos c, sumI_c (fun j a b => pb0_eq h ht hj a b)]
  · rw [if_neg c, if_neg c]
    exact pb0_eq h ht hj h0 (by omega)
theorem es_eq {F : Int → Int → Int} {K : Int → Int → Int64} {σ : Int → Int} (h : RN F σ) (ht : RT F K σ) (hj : J σ) : escI (pbL F K) (7 + dlL F) = esM σ := by
  rw [dl_eq h ht hj]
  exact escI_c (fun j a b => pb_eq h ht hj a b)
theorem ls_eq {F : Int → Int → Int} {K : Int → Int → Int64} {σ : Int → Int} (h : RN F σ) (hk : RK F K σ) (hj : J σ) : lsL F K = lz σ (σ 3) := by
  have e : F 5 0 = σ 3 := (h.2.2.2 0 (by decide) (by decide)).trans hj.2.2.2.2.1.1
  have g := hk (σ 3) (Int.le_refl _)
  unfold lsL
  rw [e]
  rcases lz_01 σ (σ 3) with c | c
  · rw [if_neg (fun x => g.mp x c), c]
  · rw [if_pos (g.mpr (by omega)), c]
theorem nu_d {F : Int → Int → Int} (c : isDL F) : nuL F = nmL F := if_pos c
theorem RN_step {F : Int → Int → Int} {K : Int → Int → Int64} {σ : Int → Int} (h : RN F σ) (ht : RT F K σ) (hk : RK F K σ) (hj : J σ) : RN (spL K F) (stepF 0 σ) := by
  have hl := ls_eq h hk hj
  have ed := dl_eq h ht hj
  have ee := es_eq h ht hj
  have eD := isD_eq h hj
  have en := nm_eq h hj.1.1
  have h6 := hj.1.2.1
  have hw0 : 0 ≤ σ 22 := hj.2.1.2.2.2.1.1
  have hw1 : 0 ≤ σ 33 := hj.2.2.1.2.2.2.1.1
  have hz01 := lz_01 σ (σ 3)
  unfold spL
  rw [hl, ed] at *
  rw [ed] at ee
  rw [ee]
  by_cases c : isDataP σ
  · rw [stepF_d c, if_pos (eD.mpr c), if_pos (eD.mpr c), nu_d (eD.mpr c), en]
    rcases hz01 with z0 | z1
    · rw [z0, if_pos rfl, bI_f (fun g => g rfl)]
      rcases hj.1.1 with h1 | h1
      · rw [h1]; exact RN_d0 (RN_pre h (pre_0 h)) h1 rfl
      · rw [h1]; exact RN_d1 (RN_pre h (pre_0 h)) h1 rfl
    · rw [z1, if_neg (by decide), bI_t (by decide)]
      rcases hj.1.1 with h1 | h1
      · rw [h1]; exact RN_d0 (RN_pre h (pre_1 h)) h1 rfl
      · rw [h1]; exact RN_d1 (RN_pre h (pre_1 h)) h1 rfl
  · have nc : ¬ isDL F := fun g => c (eD.mp g)
    rw [stepF_t c, if_neg nc, if_neg nc]
    rcases hz01 with z0 | z1
    · rw [z0, if_pos rfl, bI_f (fun g => g rfl)]
      rcases hj.1.1 with h1 | h1
      · rw [h1]; exact RN_t0 (RN_pre h (pre_0 h)) h1 h6 hw0 (Or.inl rfl)
      · rw [h1]; exact RN_t1 (RN_pre h (pre_0 h)) h1 h6 hw1 (Or.inl rfl)
    · rw [z1, if_neg (by decide), bI_t (by decide)]
      rcases hj.1.1 with h1 | h1
      · rw [h1]; exact RN_t0 (RN_pre h (pre_1 h)) h1 h6 hw0 (Or.inr rfl)
      · rw [h1]; exact RN_t1 (RN_pre h (pre_1 h)) h1 h6 hw1 (Or.inr rfl)
theorem lz_c {σ τ : Int → Int} {f : Int} (h7 : τ 7 = σ 7) (h : ∀ j, 400 ≤ j → τ j = σ j) : lz τ f = lz σ f := by
  have e : ∀ n : Nat, lostN τ f n = lostN σ f n := by
    intro n
    induction n with
    | zero => rfl
    | succ n ih =>
      show (if τ (400 + (n : Int)) = f then 1 else lostN τ f n) = (if σ (400 + (n : Int)) = f then 1 else lostN σ f n)
      rw [h _ (by omega), ih]
  unfold lz lostK
  rw [h7]
  exact e _
theorem RT_c {F X : Int → Int → Int} {K : Int → Int → Int64} {σ τ : Int → Int} (h : RT F K σ) (h3 : X 3 = F 3) (h4 : X 4 = F 4) (e : ∀ j, (j = 18 ∨ j = 29 ∨ 40 ≤ j) → τ j = σ j) : RT X K τ := by
  obtain ⟨a, b, c, d⟩ := h
  refine ⟨fun m m0 m1 => ?_, fun m m0 m1 => ?_, fun m k m0 m1 k0 k1 => ?_, fun m k m0 m1 k0 k1 => ?_⟩
  · rw [e 18 (by omega)] at m1
    rw [h3, e _ (by omega)]; exact a m m0 m1
  · rw [e 29 (by omega)] at m1
    rw [h4, e _ (by omega)]; exact b m m0 m1
  · rw [e 18 (by omega)] at m1
    rw [e _ (by omega)] at k1
    rw [e _ (by omega)]; exact c m k m0 m1 k0 k1
  · rw [e 29 (by omega)] at m1
    rw [e _ (by omega)] at k1
    rw [e _ (by omega)]; exact d m k m0 m1 k0 k1
theorem RB_c {F X : Int → Int → Int} (h : RB F) (e : FrL X F) : RB X := by
  have e3 : ∀ j, X 3 j = F 3 j := fun j => e 3 j (by unfold Rl; omega)
  have e4 : ∀ j, X 4 j = F 4 j := fun j => e 4 j (by unfold Rl; omega)
  exact ⟨fun j => by rw [e3]; exact h.1 j, fun j => by rw [e4]; exact h.2.1 j, fun i j c => by rw [e i j c]; exact h.2.2 i j c⟩
theorem REL_step {F : Int → Int → Int} {K : Int → Int → Int64} {σ : Int → Int} (h : REL F K σ) (hj : J σ) : REL (spL K F) K (stepF 0 σ) := by
  obtain ⟨hn, ht, hk, hb⟩ := h
  have fr := fr_sp (K := K) (F := F)
  have hi := fun j hj' => step_hi hj (j := j) hj'
  refine ⟨RN_step hn ht hk hj, RT_c ht (funext fun j => fr 3 j (by unfold Rl; omega)) (funext fun j => fr 4 j (by unfold Rl; omega)) (fun j hj' => hi j (by omega)), fun f f0 => ?_, RB_c hb fr⟩
  rw [step_3 hj] at f0
  rw [fr 0 9 (by unfold Rl; omega), lz_c (hi 7 (by omega)) (fun j hj' => hi j (by omega))]
  exact hk f (by omega)
end RelStep
