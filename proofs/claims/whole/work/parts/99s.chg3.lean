section Chg3
theorem pt_at {b : Int64} {s q : Int} {σ : Int → Int} (hs : s = 0 ∨ s = 1) (hm : 0 ≤ σ (18 + 11 * s) ∧ σ (18 + 11 * s) < 20) (hq : 1 ≤ q ∧ q ≤ 8) (j : Int) : ptF b s q σ j = if j = 18 + 11 * s then σ (18 + 11 * s) + 1 else if j = 40 + 20 * s + σ (18 + 11 * s) then q else if 80 + 8 * (20 * s + σ (18 + 11 * s)) ≤ j ∧ j < 80 + 8 * (20 * s + σ (18 + 11 * s)) + q then byB b (j - (80 + 8 * (20 * s + σ (18 + 11 * s)))) else σ j := by
  obtain ⟨n, rfl⟩ := Int.eq_ofNat_of_zero_le (show 0 ≤ q by omega)
  unfold ptF
  rw [show ((18 + (11 * s)) + 0 : Int) = 18 + 11 * s by omega]
  generalize hmm : σ (18 + 11 * s) = m at hm ⊢
  by_cases c : j = 18 + 11 * s
  · rw [c, up_s, if_pos rfl, putB_at, if_neg (by omega), up_n (by omega), hmm]
  · rw [up_n c, if_neg c, putB_at, show (((n : Int).toNat : Nat) : Int) = (n : Int) by simp]
    by_cases d : j = 40 + 20 * s + m
    · rw [if_pos d, if_neg (by omega), d, up_s]
    · rw [if_neg d]
      by_cases e : 80 + 8 * (20 * s + m) ≤ j ∧ j < 80 + 8 * (20 * s + m) + (n : Int)
      · rw [if_pos e, if_pos e]
      · rw [if_neg e, if_neg e, up_n d]
theorem J_put {b : Int64} {s q : Int} {σ : Int → Int} (h : J σ) (hs : s = 0 ∨ s = 1) (hm : σ (18 + 11 * s) < 20) (hq : 1 ≤ q ∧ q ≤ 8) : J (ptF b s q σ) := by
  have hm0 : 0 ≤ σ (18 + 11 * s) := by
    rcases hs with rfl | rfl
    · exact h.2.1.1.1
    · exact h.2.2.1.1.1
  have P := pt_at (b := b) hs ⟨hm0, hm⟩ hq
  have u : ∀ i, (i < 40 ∧ i ≠ 18 + 11 * s) ∨ 400 ≤ i → ptF b s q σ i = σ i := fun i c => by
    rw [P, if_neg (by omega), if_neg (by omega), if_neg (by omega)]
  have v : ptF b s q σ (18 + 11 * s) = σ (18 + 11 * s) + 1 := by rw [P, if_pos rfl]
  obtain ⟨h0, h1, h2, h3, h4, ⟨g1, g2, g3, g4⟩, h6⟩ := h
  have hR : JR (ptF b s q σ) := by
    refine ⟨fun j a c => ?_, fun j a c => ?_, fun j a c => ?_, fun j a => ?_⟩
    · rw [P, if_neg (by omega)]
      split
      · exact ⟨by omega, by omega⟩
      · rw [if_neg (by omega)]; exact g1 j a c
    · rw [P, if_neg (by omega), if_neg (by omega)]
      split
      · exact byB_in _ _
      · exact g2 j a c
    · rw [u j (by omega)]; exact g3 j a c
    · rw [u j (by omega)]; exact g4 j a
  simp only [J0, JS, JA, JP, Int.reduceAdd] at h0 h1 h2 h3 h4
  rcases hs with rfl | rfl
  · have v' : ptF b 0 q σ 18 = σ 18 + 1 := v
    have hm' : σ 18 < 20 := hm
    refine ⟨?_, ?_, ?_, ?_, ?_, hR, by rw [u 3 (by decide)]; exact h6⟩
    · simp only [J0]; rw [u 1 (by decide), u 6 (by decide), u 2 (by decide), u 4 (by decide), u 5 (by decide), u 7 (by decide)]; exact h0
    · simp only [JS, Int.reduceAdd]; rw [v', u 19 (by decide), u 20 (by decide), u 21 (by decide), u 22 (by decide), u 23 (by decide), u 24 (by decide), u 25 (by decide), u 26 (by decide), u 27 (by decide), u 28 (by decide), u 29 (by decide), u 3 (by decide)]
      exact ⟨⟨by omega, by omega⟩, h1.2⟩
    · simp only [JS, Int.reduceAdd]; rw [v', u 29 (by decide), u 30 (by decide), u 31 (by decide), u 32 (by decide), u 33 (by decide), u 34 (by decide), u 35 (by decide), u 36 (by decide), u 37 (by decide), u 38 (by decide), u 39 (by decide), u 3 (by decide)]
      exact ⟨h2.1, ⟨h2.2.1.1, by omega⟩, h2.2.2⟩
    · simp only [JP]; rw [u 1 (by decide), u 34 (by decide), u 28 (by decide), u 23 (by decide), u 39 (by decide), u 33 (by decide), u 22 (by decide)]; exact h3
    · simp only [JA]; rw [u 3 (by decide), u 8 (by decide), u 9 (by decide), u 10 (by decide), u 11 (by decide), u 12 (by decide), u 13 (by decide), u 14 (by decide), u 15 (by decide), u 16 (by decide), u 17 (by decide), u 0 (by decide)]; exact h4
  · have v' : ptF b 1 q σ 29 = σ 29 + 1 := v
    have hm' : σ 29 < 20 := hm
    refine ⟨?_, ?_, ?_, ?_, ?_, hR, by rw [u 3 (by decide)]; exact h6⟩
    · simp only [J0]; rw [u 1 (by decide), u 6 (by decide), u 2 (by decide), u 4 (by decide), u 5 (by decide), u 7 (by decide)]; exact h0
    · simp only [JS, Int.reduceAdd]; rw [v', u 18 (by decide), u 19 (by decide), u 20 (by decide), u 21 (by decide), u 22 (by decide), u 23 (by decide), u 24 (by decide), u 25 (by decide), u 26 (by decide), u 27 (by decide), u 28 (by decide), u 3 (by decide)]
      exact ⟨h1.1, ⟨h1.2.1.1, by omega⟩, h1.2.2⟩
    · simp only [JS, Int.reduceAdd]; rw [v', u 18 (by decide), u 30 (by decide), u 31 (by decide), u 32 (by decide), u 33 (by decide), u 34 (by decide), u 35 (by decide), u 36 (by decide), u 37 (by decide), u 38 (by decide), u 39 (by decide), u 3 (by decide)]
      exact ⟨⟨by omega, by omega⟩, h2.2⟩
    · simp only [JP]; rw [u 1 (by decide), u 34 (by decide), u 28 (by decide), u 23 (by decide), u 39 (by decide), u 33 (by decide), u 22 (by decide)]; exact h3
    · simp only [JA]; rw [u 3 (by decide), u 8 (by decide), u 9 (by decide), u 10 (by decide), u 11 (by decide), u 12 (by decide), u 13 (by decide), u 14 (by decide), u 15 (by decide), u 16 (by decide), u 17 (by decide), u 0 (by decide)]; exact h4
theorem RT_put {b : Int64} {s q : Int} {F X : Int → Int → Int} {K Y : Int → Int → Int64} {σ : Int → Int} (h : RT F K σ) (hj : J σ) (hs : s = 0 ∨ s = 1) (hm : σ (18 + 11 * s) < 20) (hq : 1 ≤ q ∧ q ≤ 8)
    (x1 : ∀ m, X (3 + s) m = if m = σ (18 + 11 * s) then q else F (3 + s) m) (x2 : X (4 - s) = F (4 - s)) (y1 : ∀ m, Y s m = if m = σ (18 + 11 * s) then b else K s m) (y2 : Y (1 - s) = K (1 - s)) : RT X Y (ptF b s q σ) := by
  have hl := hj.2.2.2.2.2.1.1
  have m18 := hj.2.1.1
  have m29 := hj.2.2.1.1
  rcases hs with rfl | rfl
  · have P := pt_at (b := b) (σ := σ) (Or.inl rfl) ⟨m18.1, hm⟩ hq
    simp only [Int.reduceAdd, Int.reduceMul, Int.reduceSub] at x1 x2 y1 y2 P hm
    obtain ⟨a, b', c, d⟩ := h
    refine ⟨fun m m0 m1 => ?_, fun m m0 m1 => ?_, fun m k m0 m1 k0 k1 => ?_, fun m k m0 m1 k0 k1 => ?_⟩
    · rw [P 18, if_pos rfl] at m1
      rw [P, if_neg (by omega), x1]
      by_cases e : m = σ 18
      · rw [if_pos e, if_pos (by omega)]
      · rw [if_neg e, if_neg (by omega), if_neg (by omega)]; exact a m m0 (by omega)
    · rw [P 29, if_neg (by decide), if_neg (by omega), if_neg (by omega)] at m1
      rw [x2, P, if_neg (by omega), if_neg (by omega), if_neg (by omega)]; exact b' m m0 m1
    · rw [P 18, if_pos rfl] at m1
      rw [P, if_neg (by omega)] at k1
      rw [P, if_neg (by omega), if_neg (by omega), y1]
      by_cases e : m = σ 18
      · rw [if_pos (by omega)] at k1
        rw [if_pos e, if_pos (by omega), byB_c]
        congr 2
        omega
      · rw [if_neg (by omega), if_neg (by omega)] at k1
        have := hl (40 + m) (by omega) (by omega)
        rw [if_neg e, if_neg (by omega)]; exact c m k m0 (by omega) k0 k1
    · rw [P 29, if_neg (by decide), if_neg (by omega), if_neg (by omega)] at m1
      rw [P, if_neg (by omega), if_neg (by omega), if_neg (by omega)] at k1
      have := hl (60 + m) (by omega) (by omega)
      rw [y2, P, if_neg (by omega), if_neg (by omega), if_neg (by omega)]; exact d m k m0 m1 k0 k1
  · have P := pt_at (b := b) (σ := σ) (Or.inr rfl) ⟨m29.1, hm⟩ hq
    simp only [Int.reduceAdd, Int.reduceMul, Int.reduceSub] at x1 x2 y1 y2 P hm
    obtain ⟨a, b', c, d⟩ := h
    refine ⟨fun m m0 m1 => ?_, fun m m0 m1 => ?_, fun m k m0 m1 k0 k1 => ?_, fun m k m0 m1 k0 k1 => ?_⟩
    · rw [P 18, if_neg (by decide), if_neg (by omega), if_neg (by omega)] at m1
      rw [x2, P, if_neg (by omega), if_neg (by omega), if_neg (by omega)]; exact a m m0 m1
    · rw [P 29, if_pos rfl] at m1
      rw [P, if_neg (by omega), x1]
      by_cases e : m = σ 29
      · rw [if_pos e, if_pos (by omega)]
      · rw [if_neg e, if_neg (by omega), if_neg (by omega)]; exact b' m m0 (by omega)
    · rw [P 18, if_neg (by decide), if_neg (by omega), if_neg (by omega)] at m1
      rw [P, if_neg (by omega), if_neg (by omega), if_neg (by omega)] at k1
      have := hl (40 + m) (by omega) (by omega)
      rw [y2, P, if_neg (by omega), if_neg (by omega), if_neg (by omega)]; exact c m k m0 m1 k0 k1
    · rw [P 29, if_pos rfl] at m1
      rw [P, if_neg (by omega)] at k1
      rw [P, if_neg (by omega), if_neg (by omega), y1]
      by_cases e : m = σ 29
      · rw [if_pos (by omega)] at k1
        rw [if_pos e, if_pos (by omega), byB_c]
        congr 2
        omega
      · rw [if_neg (by omega), if_neg (by omega)] at k1
        have := hl (60 + m) (by omega) (by omega)
        rw [if_neg e, if_neg (by omega)]; exact d m k m0 (by omega) k0 k1
theorem GOOD_put {F : Int → Int → Int} {K : Int → Int → Int64} {σ : Int → Int} {b : Int64} (h : GOOD F K σ) {s q : Int} (hs2 : 0 ≤ s ∧ s ≤ 1) (hq : 1 ≤ q ∧ q ≤ 8) (hm : σ (18 + 11 * s) < 20) : GOOD (up (up F (1 + s) (adF (F (1 + s)))) (3 + s) (adL (F (1 + s)) (F (3 + s)) q)) (up K s (adC (F (1 + s)) (K s) b)) (ptF b s q σ) := by
  have hs : s = 0 ∨ s = 1 := by omega
  have em : F (1 + s) 0 = σ (18 + 11 * s) := by
    rcases hs with rfl | rfl
    · exact h.1.1.2.1 0 (by decide) (by decide)
    · exact h.1.1.2.2.1 0 (by decide) (by decide)
  have hm0 : 0 ≤ σ (18 + 11 * s) := by
    rcases hs with rfl | rfl
    · exact h.2.1.2.1.1.1
    · exact h.2.1.2.2.1.1.1
  have c20 : 0 ≤ F (1 + s) 0 ∧ F (1 + s) 0 < 20 := by rw [em]; exact ⟨hm0, hm⟩
  have e1 : adF (F (1 + s)) = up (F (1 + s)) 0 (F (1 + s) 0 + 1) := if_pos c20
  have e2 : adL (F (1 + s)) (F (3 + s)) q = up (F (3 + s)) (F (1 + s) 0) q := if_pos c20
  have e3' : adC (F (1 + s)) (K s) b = up (K s) (F (1 + s) 0) b := if_pos c20
  rw [e1, e2, e3', em]
  have hJ := J_put (b := b) h.2.1 hs hm hq
  have P := pt_at (b := b) hs ⟨hm0, hm⟩ hq
  obtain ⟨⟨r1, r2, r3, r4⟩, j, e4, e7, e3, et, e9, ee, el⟩ := h
  have u : ∀ i, (i < 40 ∧ i ≠ 18 + 11 * s) ∨ 400 ≤ i → ptF b s q σ i = σ i := fun i c => by
    rw [P, if_neg (by omega), if_neg (by omega), if_neg (by omega)]
  have v : ptF b s q σ (18 + 11 * s) = σ (18 + 11 * s) + 1 := by rw [P, if_pos rfl]
  have lzu : ∀ f, lz (ptF b s q σ) f = lz σ f := fun f => lz_c (u 7 (by omega)) (fun i c => u i (by omega))
  generalize hX : up (up F (1 + s) (up (F (1 + s)) 0 (σ (18 + 11 * s) + 1))) (3 + s) (up (F (3 + s)) (σ (18 + 11 * s)) q) = X
  have w : ∀ i, i ≠ 1 + s → i ≠ 3 + s → X i = F i := fun i c d => by rw [← hX, up_n d, up_n c]
  have w3 : ∀ m, X (3 + s) m = if m = σ (18 + 11 * s) then q else F (3 + s) m := fun m => by rw [← hX, up_s]; rfl
  have w1 : ∀ m, X (1 + s) m = if m = 0 then σ (18 + 11 * s) + 1 else F (1 + s) m := fun m => by rw [← hX, up_n (by omega), up_s]; rfl
  have k2 : up K s (up (K s) (σ (18 + 11 * s)) b) 2 = K 2 := up_n (by omega)
  obtain ⟨⟨a1, a2, a3, a4, a5⟩, rb, rc, rd⟩ := r1
  refine ⟨⟨⟨⟨?_, ?_, ?_, ?_, ?_⟩, ?_, ?_, ?_⟩, ?_, ?_, ?_⟩, hJ, ?_, ?_, ?_, ?_, ?_, ?_, ?_⟩
  · rw [w 0 (by omega) (by omega), u 1 (by omega)]; exact a1
  · rw [w 0 (by omega) (by omega), u 2 (by omega)]; exact a2
  · rw [w 0 (by omega) (by omega), u 4 (by omega)]; exact a3
  · rw [w 0 (by omega) (by omega), u 5 (by omega)]; exact a4
  · rw [w 0 (by omega) (by omega), u 6 (by omega)]; exact a5
  · intro i i0 i1
    rcases hs with rfl | rfl
    · have t := w1 i
      rw [show (1 : Int) + 0 = 1 from rfl] at t
      rw [t]
      by_cases c : i = 0
      · rw [if_pos c, c]; exact v.symm
      · rw [if_neg c, u _ (by omega)]; exact rb i i0 i1
    · rw [w 1 (by omega) (by omega), u _ (by omega)]; exact rb i i0 i1
  · intro i i0 i1
    rcases hs with rfl | rfl
    · rw [w 2 (by omega) (by omega), u _ (by omega)]; exact rc i i0 i1
    · have t := w1 i
      rw [show (1 : Int) + 1 = 2 from rfl] at t
      rw [t]
      by_cases c : i = 0
      · rw [if_pos c, c]; exact v.symm
      · rw [if_neg c, u _ (by omega)]; exact rc i i0 i1
  · intro i i0 i1
    rw [w 5 (by omega) (by omega), u _ (by omega)]; exact rd i i0 i1
  · refine RT_put r2 j hs hm hq w3 (w _ (by omega) (by omega)) (fun m => by rw [up_s]; rfl) (up_n (by omega))
  · intro f hf
    rw [u 3 (by omega)] at hf
    rw [lzu, k2, w 0 (by omega) (by omega)]
    exact r3 f hf
  · have hw3 : ∀ m, 0 ≤ X (3 + s) m ∧ X (3 + s) m ≤ 8 := fun m => by
      rw [w3]
      split
      · exact ⟨by omega, by omega⟩
      · rcases hs with rfl | rfl
        · exact r4.1 m
        · exact r4.2.1 m
    refine ⟨fun i => ?_, fun i => ?_, fun i i2 c => ?_⟩
    · rcases hs with rfl | rfl
      · exact hw3 i
      · rw [w 3 (by omega) (by omega)]; exact r4.1 i
    · rcases hs with rfl | rfl
      · rw [w 4 (by omega) (by omega)]; exact r4.2.1 i
      · exact hw3 i
    · by_cases e : i = 3 + s
      · rw [e]; have := hw3 i2; exact ⟨by omega, by omega⟩
      · by_cases e2 : i = 1 + s
        · rw [e2, w1]
          by_cases e3 : i2 = 0
          · rw [if_pos e3]; exact ⟨by omega, by omega⟩
          · rw [if_neg e3]; rw [e2] at c; exact r4.2.2 _ i2 c
        · rw [w i e2 e]; exact r4.2.2 i i2 c
  · rw [u 4 (by omega)]; exact e4
  · rw [u 7 (by omega)]; exact e7
  · rw [u 3 (by omega)]; exact e3
  · intro i a b
    rw [u 7 (by omega)] at b
    rw [u _ (by omega)]
    exact et i a b
  · rw [w 0 (by omega) (by omega)]; exact e9
  · rw [w 0 (by omega) (by omega), u 7 (by omega)]; exact ee
  · intro f hf
    rw [lzu, k2]
    exact el f hf
end Chg3
