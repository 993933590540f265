section Answ
variable {F : Int → Int → Int} {K : Int → Int → Int64} {σ : Int → Int}
theorem sz_eq (h : GOOD F K σ) {c q : Int} : szC F c q = szF σ c q := by
  obtain ⟨⟨a1, a2, a3, a4, a5⟩, _⟩ := h.1.1
  unfold szC szF
  rw [a1, a2, a3, a4, tm_eq h.1 h.2.1, h.2.2.2.2.2.2.2.1]
theorem acc_eq (h : GOOD F K σ) {q : Int} (hq : 0 ≤ q ∧ q ≤ 9) : F 5 q = σ (8 + q) := h.1.1.2.2.2 q hq.1 hq.2
theorem sta_eq (h : GOOD F K σ) {s q : Int} (hs : 0 ≤ s ∧ s ≤ 1) (hq : 0 ≤ q ∧ q ≤ 10) : F (1 + s) q = σ (18 + 11 * s + q) := by
  rcases (show s = 0 ∨ s = 1 by omega) with rfl | rfl
  · exact h.1.1.2.1 q hq.1 hq.2
  · exact h.1.1.2.2.1 q hq.1 hq.2
theorem told_eq (h : GOOD F K σ) {f : Int} (h0 : 0 ≤ f) : bI (tlL (K 2) f) = lz σ f := by
  have t := h.2.2.2.2.2.2.2.2 f h0
  rcases lz_01 σ f with a | a
  · rw [a, bI_f (fun b => t.mp b a)]
  · rw [a, bI_t (t.mpr (by rw [a]; decide))]
/-- a frame before 0 is told on neither side -/
theorem told_neg (h : GOOD F K σ) {f : Int} (h0 : f < 0) : bI (tlL (K 2) f) = lz σ f := by
  rw [bI_f (fun b => absurd b.1 (by omega))]
  rcases lz_01 σ f with a | a
  · exact a.symm
  · obtain ⟨k, k0, k1, k2⟩ := lz_iff.mp a
    have := h.2.2.2.2.2.1 k k0 k1
    omega
theorem mb_eq (h : GOOD F K σ) {s m j : Int} (hs : 0 ≤ s ∧ s ≤ 1) (hm : 0 ≤ m ∧ m < F (1 + s) 0) (hj : 0 ≤ j) (hj2 : j < F (3 + s) m) : F (3 + s) m = σ (40 + 20 * s + m) ∧ cB0 (K s m) j % 256 = σ (80 + 8 * (20 * s + m) + j) := by
  rw [sta_eq h hs (by omega)] at hm
  rcases (show s = 0 ∨ s = 1 by omega) with rfl | rfl
  · have hm2 : m < σ 18 := hm.2
    have e : F 3 m = σ (40 + m) := h.1.2.1.1 m hm.1 hm2
    have hj3 : j < σ (40 + m) := by rw [← e]; exact hj2
    refine ⟨by rw [show (40 : Int) + 20 * 0 + m = 40 + m by omega]; exact e, ?_⟩
    rw [show (80 : Int) + 8 * (20 * 0 + m) + j = 80 + 8 * m + j by omega]
    exact h.1.2.1.2.2.1 m j hm.1 hm2 hj hj3
  · have hm2 : m < σ 29 := hm.2
    have e : F 4 m = σ (60 + m) := h.1.2.1.2.1 m hm.1 hm2
    have hj3 : j < σ (60 + m) := by rw [← e]; exact hj2
    refine ⟨by rw [show (40 : Int) + 20 * 1 + m = 60 + m by omega]; exact e, ?_⟩
    rw [show (80 : Int) + 8 * (20 * 1 + m) + j = 240 + 8 * m + j by omega]
    exact h.1.2.1.2.2.2 m j hm.1 hm2 hj hj3
theorem len_eq (h : GOOD F K σ) {s m : Int} (hs : 0 ≤ s ∧ s ≤ 1) (hm : 0 ≤ m ∧ m < F (1 + s) 0) : F (3 + s) m = σ (40 + 20 * s + m) := by
  rw [sta_eq h hs (by omega)] at hm
  rcases (show s = 0 ∨ s = 1 by omega) with rfl | rfl
  · rw [show (40 : Int) + 20 * 0 + m = 40 + m by omega]; exact h.1.2.1.1 m hm.1 hm.2
  · rw [show (40 : Int) + 20 * 1 + m = 60 + m by omega]; exact h.1.2.1.2.1 m hm.1 hm.2
theorem nx_eq (h : GOOD F K σ) {q : Int} : nxC K F q = nxF σ q := by
  have r := h.1.1
  have hj := h.2.1
  have e := isD_eq r hj
  have n := nm_eq r hj.1.1
  have e0 : F 5 0 = σ 3 := by rw [r.2.2.2 0 (by decide) (by decide)]; exact hj.2.2.2.2.1.1
  have h30 : 0 ≤ σ 3 := hj.2.2.2.2.2.2
  unfold nxC nxF
  by_cases q0 : q = 0
  · rw [if_pos q0, if_pos q0]
    by_cases c : isDataP σ
    · rw [if_pos c, if_pos (e.mpr c)]
    · rw [if_neg c, if_neg (fun g => c (e.mp g))]
  · rw [if_neg q0, if_neg q0]
    by_cases q1 : q = 1
    · rw [if_pos q1, if_pos q1]; exact r.1.1
    · rw [if_neg q1, if_neg q1]
      by_cases q2 : q = 2
      · rw [if_pos q2, if_pos q2]
        unfold nuL
        by_cases c : isDataP σ
        · rw [if_pos c, if_pos (e.mpr c), n]
        · rw [if_neg c, if_neg (fun g => c (e.mp g)), st_eq r hj.1.1 9 (by decide) (by decide)]
      · rw [if_neg q2, if_neg q2]
        by_cases q3 : q = 3
        · rw [if_pos q3, if_pos q3, es_eq r h.1.2.1 hj, dl_eq r h.1.2.1 hj]
        · rw [if_neg q3, if_neg q3]
          by_cases q4 : q = 4
          · rw [if_pos q4, if_pos q4]; exact e0
          · rw [if_neg q4, if_neg q4, e0]
            have t := h.2.2.2.2.2.2.2.2 (σ 3) h30
            by_cases c : lz σ (σ 3) = 0
            · rw [if_pos c, if_neg (fun g => t.mp g c)]
            · rw [if_neg c, if_pos (t.mpr c)]
theorem LSp_ex {f : Int → Int} (n : Nat) : ∃ li : Int → Int, LSp li f n := by
  induction n with
  | zero => exact ⟨fun _ => 126, rfl, fun j a b => absurd b (by omega)⟩
  | succ n ih =>
    obtain ⟨li, h⟩ := ih
    have n0 : (0 : Int) ≤ n := by omega
    refine ⟨up (up li (1 + n + escI f n) (if isMk (f n) then 125 else f n)) (1 + n + escI f n + 1) (xr (f n)), ?_⟩
    refine LSp_s (LSp_up n0 (LSp_up n0 h (by omega)) (by omega)) (fun m => ?_) (fun m => ?_)
    · rw [up_n (by omega), up_s, up_s, if_pos m]; exact ⟨rfl, rfl⟩
    · rw [up_n (by omega), up_s, if_neg m]
/-- the frame on the line: class and reference answer alike -/
theorem nb_eq (h : GOOD F K σ) {v q : Int} (hv : ∀ li : Int → Int, LSp li (pbL F K) (7 + dlL F) → li (1 + (7 + dlL F) + escI (pbL F K) (7 + dlL F)) = 126 → v = if 0 ≤ q ∧ q ≤ (1 + (7 + dlL F) + escI (pbL F K) (7 + dlL F)) then li q else -1) :
    (∀ li : Int → Int, LSp li (pbF σ) (7 + dl σ) → li (1 + (7 + dl σ) + escI (pbF σ) (7 + dl σ)) = 126 → (0 ≤ q ∧ q ≤ 2 + (7 + dl σ) + escI (pbF σ) (7 + dl σ) - 1) → v = li q) ∧ (¬ (0 ≤ q ∧ q ≤ 2 + (7 + dl σ) + escI (pbF σ) (7 + dl σ) - 1) → v = -1) := by
  have r := h.1.1
  have rt := h.1.2.1
  have hj := h.2.1
  have ed := dl_eq r rt hj
  have ee : escI (pbL F K) (7 + dl σ) = escI (pbF σ) (7 + dl σ) := escI_c (fun j a b => pb_eq r rt hj a b)
  rw [ed, ee] at hv
  have d0 : 0 ≤ dl σ := by
    unfold dl
    split
    · rename_i c
      exact (hj.2.2.2.2.2.1.1 _ (by have := c.1; have := hj.1.1; have := hj.2.1; have := hj.2.2.1; simp only [JS, Int.reduceAdd] at *; rcases hj.1.1 with e | e <;> rw [e] <;> simp only [Int.reduceMul, Int.reduceAdd] <;> have := hj.1.2.2.1.1 <;> omega) (by obtain ⟨c1, c2, c3, c4⟩ := c; have m1 := hj.2.1.1; have m2 := hj.2.2.1.1; rcases hj.1.1 with e | e <;> rw [e] at c3 ⊢ <;> simp only [Int.reduceMul, Int.reduceAdd] at c3 ⊢ <;> omega)).1
    · exact Int.le_refl _
  constructor
  · intro li hl he hq
    have t := hv li (LSp_f hl (fun j a b => (pb_eq r rt hj a b).symm)) he
    rw [if_pos (by omega)] at t
    exact t
  · intro hq
    obtain ⟨n, hn⟩ := Int.eq_ofNat_of_zero_le (show 0 ≤ 7 + dl σ by omega)
    obtain ⟨li, hl⟩ := LSp_ex (f := pbL F K) n
    rw [← hn] at hl
    have t := hv (up li (1 + (7 + dl σ) + escI (pbF σ) (7 + dl σ)) 126) (LSp_up (by omega) hl (by rw [ee]; exact Int.le_refl _)) up_s
    rw [if_neg (by omega)] at t
    exact t
theorem gd_eq (h : GOOD F K σ) : gdC F = gdM σ := by
  have hj := h.2.1
  have h1 := hj.2.1
  have h2 := hj.2.2.1
  simp only [JS, Int.reduceAdd] at h1 h2
  have e0 : F 1 0 = σ 18 := h.1.1.2.1 0 (by decide) (by decide)
  have e1 : F 2 0 = σ 29 := h.1.1.2.2.1 0 (by decide) (by decide)
  have a1 : F 1 1 = σ 19 := h.1.1.2.1 1 (by decide) (by decide)
  have a2 : F 2 1 = σ 30 := h.1.1.2.2.1 1 (by decide) (by decide)
  have c1 : clQ (F 2 1) = σ 30 := by rw [a2]; unfold clQ; rw [if_pos (by omega), if_pos (by omega)]
  have c2 : clQ (F 1 1) = σ 19 := by rw [a1]; unfold clQ; rw [if_pos (by omega), if_pos (by omega)]
  unfold gdC gdM
  rw [c1, c2]
  congr 1
  · refine sumI_c (fun j j0 j1 => ?_)
    unfold lnF
    rw [if_pos ⟨⟨j0, by rw [e0]; omega⟩, by omega⟩]
    exact len_eq h (s := 0) (by decide) ⟨j0, by rw [show F (1 + 0) 0 = σ 18 from e0]; omega⟩
  · refine sumI_c (fun j j0 j1 => ?_)
    unfold lnF
    rw [if_pos ⟨⟨j0, by rw [e1]; omega⟩, by omega⟩]
    exact len_eq h (s := 1) (by decide) ⟨j0, by rw [show F (1 + 1) 0 = σ 29 from e1]; omega⟩
theorem ef_eq (h : GOOD F K σ) : efC F = efM σ := by
  have hj := h.2.1.2.2.2.2.1
  simp only [JA] at hj
  have e6 : F 5 6 = σ 14 := h.1.1.2.2.2 6 (by decide) (by decide)
  unfold efC efM
  rw [gd_eq h, e6]
  by_cases c : σ 14 = 0
  · rw [if_pos c, if_pos (by omega)]
  · rw [if_neg c, if_neg (by omega)]
end Answ
