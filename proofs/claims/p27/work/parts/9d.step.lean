section StepF
theorem lsL_01 {F : Int → Int → Int} {K : Int → Int → Int64} : lsL F K = 0 ∨ lsL F K = 1 := by
  unfold lsL
  split
  · exact Or.inr rfl
  · exact Or.inl rfl
theorem dlL_in {F : Int → Int → Int} {n : Int} (hI : IN F n) : 0 ≤ dlL F ∧ dlL F ≤ 8 ∧ (isDL F → 0 ≤ leL F (nmL F) ∧ leL F (nmL F) ≤ 8) := by
  obtain ⟨t0, _, _, ⟨l1, l2⟩, _⟩ := hI
  have key : isDL F → 0 ≤ leL F (nmL F) ∧ leL F (nmL F) ≤ 8 := by
    intro hd
    obtain ⟨_, _, _, d4, d5, _⟩ := hd
    unfold leL
    unfold stL at d5
    by_cases ht : F 0 1 = 0
    · rw [if_pos ht] at d5 ⊢
      exact l1 _ d4 d5
    · rw [if_neg ht] at d5 ⊢
      exact l2 _ d4 d5
  refine ⟨?_, ?_, key⟩
  · unfold dlL
    split
    · rename_i hd; exact (key hd).1
    · decide
  · unfold dlL
    split
    · rename_i hd; exact (key hd).2
    · decide
theorem IN.p {F : Int → Int → Int} {K : Int → Int → Int64} {n : Int} (hI : IN F n) (hn : 0 ≤ n) {A : Int → Int} (h0 : A 0 = F 5 0 + 1) (h2 : A 2 = F 5 2) (h4 : A 4 = F 5 4) (h1 : A 1 = F 5 1 ∨ A 1 = F 5 1 + 1) (hB : sB (10100 + 200 * n) A) : INp (up F 5 A) (n + 1) := by
  obtain ⟨t0, st, ⟨x1, x2, x3⟩, le, hB0⟩ := hI
  refine ⟨t0, st, ?_, le, ?_⟩
  · show T5p A (n + 1)
    exact ⟨by omega, by omega, by omega⟩
  · refine sBF_up (fun i => sB_mono (by omega) (hB0 i)) ?_
    exact sB_mono (by omega) hB
theorem spL_IN {F : Int → Int → Int} {K : Int → Int → Int64} {n : Int} (hI : IN F n) (hn : 0 ≤ n) : IN (spL K F) (n + 1) := by
  have hd := dlL_in hI
  have he := escI_in (f := pbL F K) (k := 7 + dlL F) (by omega)
  have h5 := hI.2.2.2.2 5
  have a0 := h5 0; have a6 := h5 6; have a7 := h5 7; have a1 := h5 1
  have hz := lsL_01 (F := F) (K := K)
  have key : ∀ A : Int → Int, INp (up F 5 A) (n + 1) → isDL F → IN (sdL (nuL F) (lsL F K) (up F 5 A)) (n + 1) := by
    intro A hp hdl
    have em : nuL F = nmL F := by unfold nuL; rw [if_pos hdl]
    obtain ⟨d1, d2, d3, d4, d5, d6⟩ := hdl
    rw [em]
    exact sdL_in hp (by omega) d2 rfl d3 d4 d5
  have c6 : sB (10100 + 200 * n) (up (up (up (F 5) 0 (F 5 0 + 1)) 6 (F 5 6 + (2 + (7 + dlL F) + escI (pbL F K) (7 + dlL F)))) 7 (F 5 7 + escI (pbL F K) (7 + dlL F))) :=
    sB_up (sB_up (sB_up (sB_mono (by omega) h5) ⟨by omega, by omega⟩) ⟨by omega, by omega⟩) ⟨by omega, by omega⟩
  have c7 : sB (10100 + 200 * n) (up (up (up (up (F 5) 0 (F 5 0 + 1)) 6 (F 5 6 + (2 + (7 + dlL F) + escI (pbL F K) (7 + dlL F)))) 7 (F 5 7 + escI (pbL F K) (7 + dlL F))) 1 (F 5 1 + 1)) := sB_up c6 ⟨by omega, by omega⟩
  have p6 := IN.p (K := K) hI hn (A := up (up (up (F 5) 0 (F 5 0 + 1)) 6 (F 5 6 + (2 + (7 + dlL F) + escI (pbL F K) (7 + dlL F)))) 7 (F 5 7 + escI (pbL F K) (7 + dlL F))) rfl rfl rfl (Or.inl rfl) c6
  have p7 := IN.p (K := K) hI hn (A := up (up (up (up (F 5) 0 (F 5 0 + 1)) 6 (F 5 6 + (2 + (7 + dlL F) + escI (pbL F K) (7 + dlL F)))) 7 (F 5 7 + escI (pbL F K) (7 + dlL F))) 1 (F 5 1 + 1)) rfl rfl rfl (Or.inr rfl) c7
  unfold spL
  by_cases hl : lsL F K = 0
  · rw [if_pos hl]
    by_cases hdl : isDL F
    · rw [if_pos hdl]; exact key _ p6 hdl
    · rw [if_neg hdl]; exact stLn_in p6 (by omega) hz
  · rw [if_neg hl]
    by_cases hdl : isDL F
    · rw [if_pos hdl]; exact key _ p7 hdl
    · rw [if_neg hdl]; exact stLn_in p7 (by omega) hz
/-- what a data frame leaves, what a turn leaves -/
def SDP (F G : Int → Int → Int) : Prop := G 0 1 = F 0 1 ∧ G 0 2 = F 0 2 + 1 ∧ G 5 0 = F 5 0 ∧ G 5 6 = F 5 6 ∧ G 5 8 = F 5 8 ∧ (F 0 1 = 0 → G 1 9 = F 1 9 ∧ F 1 8 ≤ G 1 8) ∧ (¬ F 0 1 = 0 → G 2 9 = F 2 9 ∧ F 2 8 ≤ G 2 8)
theorem sdL_f {F : Int → Int → Int} {m z : Int} : SDP F (sdL m z F) := by
  unfold sdL
  by_cases ht : F 0 1 = 0
  · rw [if_pos ht]
    by_cases he : F 1 8 ≤ m
    · rw [if_pos he]
      have h9 : F 1 8 ≤ m + 1 := by omega
      by_cases hz : z = 0
      · rw [if_pos hz]
        split <;> exact ⟨rfl, rfl, rfl, rfl, rfl, fun _ => ⟨rfl, h9⟩, fun h => absurd ht h⟩
      · rw [if_neg hz]
        exact ⟨rfl, rfl, rfl, rfl, rfl, fun _ => ⟨rfl, h9⟩, fun h => absurd ht h⟩
    · rw [if_neg he]
      by_cases hz : z = 0
      · rw [if_pos hz]
        split <;> exact ⟨rfl, rfl, rfl, rfl, rfl, fun _ => ⟨rfl, Int.le_refl _⟩, fun h => absurd ht h⟩
      · rw [if_neg hz]
        exact ⟨rfl, rfl, rfl, rfl, rfl, fun _ => ⟨rfl, Int.le_refl _⟩, fun h => absurd ht h⟩
  · rw [if_neg ht]
    by_cases he : F 2 8 ≤ m
    · rw [if_pos he]
      have h9 : F 2 8 ≤ m + 1 := by omega
      by_cases hz : z = 0
      · rw [if_pos hz]
        split <;> exact ⟨rfl, rfl, rfl, rfl, rfl, fun h => absurd h ht, fun _ => ⟨rfl, h9⟩⟩
      · rw [if_neg hz]
        exact ⟨rfl, rfl, rfl, rfl, rfl, fun h => absurd h ht, fun _ => ⟨rfl, h9⟩⟩
    · rw [if_neg he]
      by_cases hz : z = 0
      · rw [if_pos hz]
        split <;> exact ⟨rfl, rfl, rfl, rfl, rfl, fun h => absurd h ht, fun _ => ⟨rfl, Int.le_refl _⟩⟩
      · rw [if_neg hz]
        exact ⟨rfl, rfl, rfl, rfl, rfl, fun h => absurd h ht, fun _ => ⟨rfl, Int.le_refl _⟩⟩
def STP (z : Int) (F G : Int → Int → Int) : Prop := G 5 0 = F 5 0 ∧ G 5 6 = F 5 6 ∧ G 5 8 = F 5 8 + (if z = 0 then 0 else F 0 5) ∧ G 0 1 = (if z = 0 then 1 - F 0 1 else F 0 1) ∧ (F 0 1 = 0 → G 1 9 = F 1 9 + (if z = 0 then 1 else 0) ∧ G 1 8 = F 1 8) ∧ (¬ F 0 1 = 0 → G 2 9 = F 2 9 + (if z = 0 then 1 else 0) ∧ G 2 8 = F 2 8)
theorem stLn_f {F : Int → Int → Int} {z : Int} : STP z F (stLn z F) := by
  unfold stLn STP
  by_cases hz : z = 0
  · simp only [if_pos hz]
    by_cases ht : F 0 1 = 0
    · simp only [if_pos ht]
      by_cases h6 : F 0 6 = 0
      · simp only [if_pos h6]
        exact ⟨rfl, rfl, (show F 5 8 = F 5 8 + 0 by omega), rfl, fun _ => ⟨rfl, rfl⟩, fun h => absurd ht h⟩
      · simp only [if_neg h6]
        exact ⟨rfl, rfl, (show F 5 8 = F 5 8 + 0 by omega), rfl, fun _ => ⟨rfl, rfl⟩, fun h => absurd ht h⟩
    · simp only [if_neg ht]
      by_cases h6 : F 0 6 = 0
      · simp only [if_pos h6]
        exact ⟨rfl, rfl, (show F 5 8 = F 5 8 + 0 by omega), rfl, fun h => absurd h ht, fun _ => ⟨rfl, rfl⟩⟩
      · simp only [if_neg h6]
        exact ⟨rfl, rfl, (show F 5 8 = F 5 8 + 0 by omega), rfl, fun h => absurd h ht, fun _ => ⟨rfl, rfl⟩⟩
  · simp only [if_neg hz]
    by_cases ht : F 0 1 = 0
    · simp only [if_pos ht]
      by_cases h6 : F 0 6 = 0
      · simp only [if_pos h6]
        exact ⟨rfl, rfl, rfl, rfl, fun _ => ⟨(show F 1 9 = F 1 9 + 0 by omega), rfl⟩, fun h => absurd ht h⟩
      · simp only [if_neg h6]
        exact ⟨rfl, rfl, rfl, rfl, fun _ => ⟨(show F 1 9 = F 1 9 + 0 by omega), rfl⟩, fun h => absurd ht h⟩
    · simp only [if_neg ht]
      by_cases h6 : F 0 6 = 0
      · simp only [if_pos h6]
        exact ⟨rfl, rfl, rfl, rfl, fun h => absurd h ht, fun _ => ⟨(show F 2 9 = F 2 9 + 0 by omega), rfl⟩⟩
      · simp only [if_neg h6]
        exact ⟨rfl, rfl, rfl, rfl, fun h => absurd h ht, fun _ => ⟨(show F 2 9 = F 2 9 + 0 by omega), rfl⟩⟩
/-- a step, as its facts -/
def SPF (K : Int → Int → Int64) (F G : Int → Int → Int) : Prop := G 5 0 = F 5 0 + 1 ∧
  (isDL F → tmL G = tmL F + nxC K F 3 ∧ G 0 1 = F 0 1 ∧ G (1 + F 0 1) 9 = F (1 + F 0 1) 9 ∧ F (1 + F 0 1) 8 ≤ G (1 + F 0 1) 8 ∧ 1 ≤ G 0 2) ∧
  (¬ isDL F → ¬ tlL (K 2) (F 5 0) → tmL G = tmL F + nxC K F 3 ∧ G 0 1 = 1 - F 0 1 ∧ G (1 + F 0 1) 9 = F (1 + F 0 1) 9 + 1 ∧ G (1 + F 0 1) 8 = F (1 + F 0 1) 8) ∧
  (¬ isDL F → tlL (K 2) (F 5 0) → tmL G = tmL F + nxC K F 3 + F 0 5 ∧ G 0 1 = F 0 1 ∧ G (1 + F 0 1) 9 = F (1 + F 0 1) 9 ∧ G (1 + F 0 1) 8 = F (1 + F 0 1) 8)
theorem sp_one {F : Int → Int → Int} {K : Int → Int → Int64} {n : Int} (hI : IN F n) : SPF K F (spL K F) := by
  obtain ⟨⟨ht, _, t2, t9, _, _⟩, _, ⟨_, _, t5⟩, _, _⟩ := hI
  have hls : lsL F K = if tlL (K 2) (F 5 0) then 1 else 0 := by
    unfold lsL
    by_cases c : tlL (K 2) (F 5 0)
    · rw [if_pos (Or.inl c), if_pos c]
    · rw [if_neg (by intro h; rcases h with h | h; exact c h; omega), if_neg c]
  have hn3 : nxC K F 3 = 2 + (7 + dlL F) + escI (pbL F K) (7 + dlL F) := rfl
  have dat : ∀ (A : Int → Int), A 0 = F 5 0 + 1 → A 6 = F 5 6 + (2 + (7 + dlL F) + escI (pbL F K) (7 + dlL F)) → A 8 = F 5 8 → isDL F → SPF K F (sdL (nuL F) (lsL F K) (up F 5 A)) := by
    intro A a0 a6 a8 hd
    obtain ⟨x1, x2, x3, x4, x5, x6, x7⟩ := sdL_f (F := up F 5 A) (m := nuL F) (z := lsL F K)
    generalize sdL (nuL F) (lsL F K) (up F 5 A) = G at *
    have y1 : G 0 1 = F 0 1 := x1
    have y2 : G 0 2 = F 0 2 + 1 := x2
    have y3 : G 5 0 = A 0 := x3
    have y4 : G 5 6 = A 6 := x4
    have y5 : G 5 8 = A 8 := x5
    have y6 : F 0 1 = 0 → G 1 9 = F 1 9 ∧ F 1 8 ≤ G 1 8 := x6
    have y7 : ¬ F 0 1 = 0 → G 2 9 = F 2 9 ∧ F 2 8 ≤ G 2 8 := x7
    refine ⟨by omega, fun _ => ⟨by unfold tmL; omega, y1, ?_, ?_, by omega⟩, fun h => absurd hd h, fun h => absurd hd h⟩
    · rcases ht with h | h
      · rw [h]; exact (y6 h).1
      · rw [h]; exact (y7 (by omega)).1
    · rcases ht with h | h
      · rw [h]; exact (y6 h).2
      · rw [h]; exact (y7 (by omega)).2
  have trn : ∀ (A : Int → Int), A 0 = F 5 0 + 1 → A 6 = F 5 6 + (2 + (7 + dlL F) + escI (pbL F K) (7 + dlL F)) → A 8 = F 5 8 → ¬ isDL F → SPF K F (stLn (lsL F K) (up F 5 A)) := by
    intro A a0 a6 a8 hd
    obtain ⟨x1, x2, x3, x4, x6, x7⟩ := stLn_f (F := up F 5 A) (z := lsL F K)
    generalize stLn (lsL F K) (up F 5 A) = G at *
    have y1 : G 5 0 = A 0 := x1
    have y2 : G 5 6 = A 6 := x2
    have y3 : G 5 8 = A 8 + (if lsL F K = 0 then 0 else F 0 5) := x3
    have y4 : G 0 1 = (if lsL F K = 0 then 1 - F 0 1 else F 0 1) := x4
    have y6 : F 0 1 = 0 → G 1 9 = F 1 9 + (if lsL F K = 0 then 1 else 0) ∧ G 1 8 = F 1 8 := x6
    have y7 : ¬ F 0 1 = 0 → G 2 9 = F 2 9 + (if lsL F K = 0 then 1 else 0) ∧ G 2 8 = F 2 8 := x7
    rw [hls] at y3 y4 y6 y7
    refine ⟨by omega, fun h => absurd h hd, fun _ hl => ?_, fun _ hl => ?_⟩
    · rw [if_neg hl, if_pos rfl] at y3 y4 y6 y7
      refine ⟨by unfold tmL; omega, y4, ?_, ?_⟩
      · rcases ht with h | h
        · rw [h]; exact (y6 h).1
        · rw [h]; exact (y7 (by omega)).1
      · rcases ht with h | h
        · rw [h]; exact (y6 h).2
        · rw [h]; exact (y7 (by omega)).2
    · rw [if_pos hl, if_neg (by decide)] at y3 y4 y6 y7
      refine ⟨by unfold tmL; omega, y4, ?_, ?_⟩
      · rcases ht with h | h
        · rw [h]; have := (y6 h).1; show G 1 9 = F 1 9; omega
        · rw [h]; have := (y7 (by omega)).1; show G 2 9 = F 2 9; omega
      · rcases ht with h | h
        · rw [h]; exact (y6 h).2
        · rw [h]; exact (y7 (by omega)).2
  unfold spL
  by_cases hl : lsL F K = 0
  · rw [if_pos hl]
    by_cases hd : isDL F
    · rw [if_pos hd]; exact dat _ rfl rfl rfl hd
    · rw [if_neg hd]; exact trn _ rfl rfl rfl hd
  · rw [if_neg hl]
    by_cases hd : isDL F
    · rw [if_pos hd]; exact dat _ rfl rfl rfl hd
    · rw [if_neg hd]; exact trn _ rfl rfl rfl hd
/-- a host reads all -/
def rdA (s : Int) (F : Int → Int → Int) : Int → Int → Int := up F (1 + s) (up (F (1 + s)) 2 (F (1 + s) 1))
theorem st_read {a b : Int → Int} (h1 : ST a b) (h2 : ST b a) : ST (up a 2 (a 1)) b ∧ ST b (up a 2 (a 1)) := by
  obtain ⟨x1, x2, x3, x4, x5, x6, x7⟩ := h1
  obtain ⟨y1, y2, y3, y4, y5, y6, y7⟩ := h2
  constructor
  · exact ⟨(show 0 ≤ a 1 ∧ a 1 ≤ a 1 ∧ a 1 - a 1 ≤ a 3 by omega), x2, x3, x4, x5, x6, x7⟩
  · exact ⟨y1, y2, y3, y4, (show 0 ≤ b 8 ∧ b 8 ≤ b 7 ∧ b 7 ≤ a 1 + a 3 ∧ b 8 ≤ b 0 ∧ b 0 ≤ 20 by omega), y6, y7⟩
theorem rdA_IN {F : Int → Int → Int} {n s : Int} (hI : IN F n) (hn : 0 ≤ n) (hs : s = 0 ∨ s = 1) : IN (rdA s F) n := by
  obtain ⟨t0, ⟨s1, s2⟩, t5, le, hB⟩ := hI
  unfold rdA
  rcases hs with rfl | rfl
  · have b1 := hB 1 1
    exact ⟨t0, st_read s1 s2, t5, le, sBF_up hB (sB_up (hB 1) b1)⟩
  · have b1 := hB 2 1
    have q := st_read s2 s1
    exact ⟨t0, ⟨q.2, q.1⟩, t5, le, sBF_up hB (sB_up (hB 2) b1)⟩
theorem IN.B6 {F : Int → Int → Int} {n : Int} (hI : IN F n) (hn : n ≤ 100) : ∀ i, sB 1000000 (F i) := fun i => sB_mono (by omega) (hI.2.2.2.2 i)
theorem IN_okl {F : Int → Int → Int} {n : Int} (hI : IN F n) (hn : n ≤ 100) : OKL F := by
  have hd := dlL_in hI
  refine ⟨fun i => sB_mono (by omega) (hI.2.2.2.2 i), hI.1.1, hd.2.2, fun hdl => ?_⟩
  obtain ⟨_, _, _, d4, _, d6⟩ := hdl
  exact ⟨by omega, by omega⟩
end StepF
