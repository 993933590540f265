section Chg
/-- one of a station's numbers read, accepted-of-the-host, capacity, wanted is another one -/
theorem J_chg {σ : Int → Int} (h : J σ) {j v : Int} (hj : j = 20 ∨ j = 21 ∨ j = 22 ∨ j = 31 ∨ j = 32 ∨ j = 33)
    (g20 : j = 20 → 0 ≤ v ∧ v ≤ σ 19) (g31 : j = 31 → 0 ≤ v ∧ v ≤ σ 30)
    (g21 : j = 21 → σ 22 + 1 ≤ v ∧ v ≤ 9) (g32 : j = 32 → σ 33 + 1 ≤ v ∧ v ≤ 9)
    (g22 : j = 22 → σ 22 ≤ v ∧ v + 1 ≤ σ 21) (g33 : j = 33 → σ 33 ≤ v ∧ v + 1 ≤ σ 32) : J (up σ j v) := by
  obtain ⟨h0, h1, h2, h3, h4, h5, h6⟩ := h
  simp only [J0, JS, JA, JP, Int.reduceAdd] at h0 h1 h2 h3 h4
  refine ⟨?_, ?_, ?_, ?_, ?_, JR_c h5 (fun i a => up_n (by omega)), by rw [up_n (by omega)]; exact h6⟩
  all_goals
    simp only [J0, JS, JA, JP, Int.reduceAdd]
    rcases hj with rfl | rfl | rfl | rfl | rfl | rfl <;>
      simp only [up, Int.reduceEq, if_true, if_false] <;>
      first
      | assumption
      | (refine ⟨?_, ?_, ?_, ?_, ?_, ?_, ?_, ?_, ?_, ?_⟩ <;> omega)
      | (split at h3 <;> rename_i c <;> simp only [c, if_true, if_false] <;> omega)
/-- the same numbers in a Line -/
theorem RN_chg {F : Int → Int → Int} {σ : Int → Int} (h : RN F σ) {s p v : Int} (hs : s = 0 ∨ s = 1) (hp : 0 ≤ p ∧ p ≤ 10) : RN (up F (1 + s) (up (F (1 + s)) p v)) (up σ (18 + 11 * s + p) v) := by
  obtain ⟨⟨a1, a2, a3, a4, a5⟩, b, c, d⟩ := h
  refine ⟨?_, ?_, ?_, ?_⟩
  · rw [up_n (show (0 : Int) ≠ 1 + s by omega), up_n (show (1 : Int) ≠ 18 + 11 * s + p by omega), up_n (show (2 : Int) ≠ 18 + 11 * s + p by omega), up_n (show (4 : Int) ≠ 18 + 11 * s + p by omega), up_n (show (5 : Int) ≠ 18 + 11 * s + p by omega), up_n (show (6 : Int) ≠ 18 + 11 * s + p by omega)]
    exact ⟨a1, a2, a3, a4, a5⟩
  · intro i i0 i1
    rcases hs with rfl | rfl
    · rw [show (1 : Int) + 0 = 1 from rfl, up_s]
      by_cases e : i = p
      · rw [e, up_s, show 18 + 11 * 0 + p = 18 + 11 * (0 : Int) + p from rfl, show (18 : Int) + p = 18 + 11 * 0 + p by omega, up_s]
      · rw [up_n e, up_n (by omega)]; exact b i i0 i1
    · rw [show (1 : Int) + 1 = 2 from rfl, up_n (show (1 : Int) ≠ 2 by decide), up_n (by omega)]; exact b i i0 i1
  · intro i i0 i1
    rcases hs with rfl | rfl
    · rw [show (1 : Int) + 0 = 1 from rfl, up_n (show (2 : Int) ≠ 1 by decide), up_n (by omega)]; exact c i i0 i1
    · rw [show (1 : Int) + 1 = 2 from rfl, up_s]
      by_cases e : i = p
      · rw [e, up_s, show (29 : Int) + p = 18 + 11 * 1 + p by omega, up_s]
      · rw [up_n e, up_n (by omega)]; exact c i i0 i1
  · intro i i0 i1
    rw [up_n (show (5 : Int) ≠ 1 + s by omega), up_n (by omega)]; exact d i i0 i1
theorem GOOD_chg {F : Int → Int → Int} {K : Int → Int → Int64} {σ : Int → Int} (h : GOOD F K σ) {s p v : Int} (hs : s = 0 ∨ s = 1) (hp : 1 ≤ p ∧ p ≤ 10) (hJ : J (up σ (18 + 11 * s + p) v)) : GOOD (up F (1 + s) (up (F (1 + s)) p v)) K (up σ (18 + 11 * s + p) v) := by
  obtain ⟨⟨r1, r2, r3, r4⟩, j, e4, e7, e3, et, e9, ee, el⟩ := h
  have u : ∀ i, (i ≤ 18 ∨ i = 29 ∨ 40 ≤ i) → up σ (18 + 11 * s + p) v i = σ i := fun i c => up_n (by omega)
  have w : ∀ i, (i = 0 ∨ 3 ≤ i) → up F (1 + s) (up (F (1 + s)) p v) i = F i := fun i c => up_n (by omega)
  have lzu : ∀ f, lz (up σ (18 + 11 * s + p) v) f = lz σ f := fun f => lz_c (u 7 (by decide)) (fun i c => u i (by omega))
  refine ⟨⟨RN_chg r1 hs (by omega), RT_c r2 (w 3 (by decide)) (w 4 (by decide)) (fun i c => u i (by omega)), ?_, ?_⟩, hJ, ?_, ?_, ?_, ?_, ?_, ?_, ?_⟩
  · intro f hf
    rw [u 3 (by decide)] at hf
    rw [lzu, w 0 (by decide)]
    exact r3 f hf
  · refine RB_c r4 ?_
    intro i i2 c
    by_cases e : i = 1 + s
    · rw [e, up_s]
      by_cases e2 : i2 = p
      · exact absurd (Or.inr (Or.inl ⟨by omega, by omega, by omega⟩)) c
      · rw [up_n e2]
    · rw [up_n e]
  · rw [u 4 (by decide)]; exact e4
  · rw [u 7 (by decide)]; exact e7
  · rw [u 3 (by decide)]; exact e3
  · intro i a b
    rw [u 7 (by decide)] at b
    rw [u _ (by omega)]
    exact et i a b
  · rw [w 0 (by decide)]; exact e9
  · rw [w 0 (by decide), u 7 (by decide)]; exact ee
  · intro f hf
    rw [lzu]
    exact el f hf
theorem GOOD_rd {F : Int → Int → Int} {K : Int → Int → Int64} {σ : Int → Int} (h : GOOD F K σ) {s q : Int} (hs : 0 ≤ s ∧ s ≤ 1) (hq : 1 ≤ q) (hr : q ≤ σ (18 + 11 * s + 1) - σ (18 + 11 * s + 2)) : GOOD (up F (1 + s) (up (F (1 + s)) 2 (F (1 + s) 2 + q))) K (up σ ((18 + (11 * s)) + 2) ((σ ((18 + (11 * s)) + 2)) + q)) := by
  have hs2 : s = 0 ∨ s = 1 := by omega
  have e : F (1 + s) 2 = σ (18 + 11 * s + 2) := by
    rcases hs2 with rfl | rfl
    · exact h.1.1.2.1 2 (by decide) (by decide)
    · exact h.1.1.2.2.1 2 (by decide) (by decide)
  rw [e]
  refine GOOD_chg h hs2 (by decide) ?_
  have hj := h.2.1
  have h1 := hj.2.1
  have h2 := hj.2.2.1
  simp only [JS, Int.reduceAdd] at h1 h2
  rcases hs2 with rfl | rfl <;> simp only [Int.reduceAdd, Int.reduceMul] at hr ⊢ <;> exact J_chg hj (by decide) (by omega) (by omega) (by omega) (by omega) (by omega) (by omega)
theorem GOOD_ak {F : Int → Int → Int} {K : Int → Int → Int64} {σ : Int → Int} (h : GOOD F K σ) {s q : Int} (hs : 0 ≤ s ∧ s ≤ 1) (hq : 1 ≤ q) (hr : ¬ σ (18 + 11 * s + 3) - σ (18 + 11 * s + 4) - q < 1) : GOOD (up F (1 + s) (up (F (1 + s)) 4 (F (1 + s) 4 + q))) K (up σ ((18 + (11 * s)) + 4) ((σ ((18 + (11 * s)) + 4)) + q)) := by
  have hs2 : s = 0 ∨ s = 1 := by omega
  have e : F (1 + s) 4 = σ (18 + 11 * s + 4) := by
    rcases hs2 with rfl | rfl
    · exact h.1.1.2.1 4 (by decide) (by decide)
    · exact h.1.1.2.2.1 4 (by decide) (by decide)
  rw [e]
  refine GOOD_chg h hs2 (by decide) ?_
  have hj := h.2.1
  have h1 := hj.2.1
  have h2 := hj.2.2.1
  simp only [JS, Int.reduceAdd] at h1 h2
  rcases hs2 with rfl | rfl <;> simp only [Int.reduceAdd, Int.reduceMul] at hr ⊢ <;> exact J_chg hj (by decide) (by omega) (by omega) (by omega) (by omega) (by omega) (by omega)
theorem GOOD_gr {F : Int → Int → Int} {K : Int → Int → Int64} {σ : Int → Int} (h : GOOD F K σ) {s q : Int} (hs : 0 ≤ s ∧ s ≤ 1) (hq : 1 ≤ q) (hr : ¬ (9 < σ (18 + 11 * s + 3) + q ∨ 0 < σ (18 + 11 * s + 4))) : GOOD (up F (1 + s) (up (F (1 + s)) 3 (F (1 + s) 3 + q))) K (up σ ((18 + (11 * s)) + 3) ((σ ((18 + (11 * s)) + 3)) + q)) := by
  have hs2 : s = 0 ∨ s = 1 := by omega
  have e : F (1 + s) 3 = σ (18 + 11 * s + 3) := by
    rcases hs2 with rfl | rfl
    · exact h.1.1.2.1 3 (by decide) (by decide)
    · exact h.1.1.2.2.1 3 (by decide) (by decide)
  rw [e]
  refine GOOD_chg h hs2 (by decide) ?_
  have hj := h.2.1
  have h1 := hj.2.1
  have h2 := hj.2.2.1
  simp only [JS, Int.reduceAdd] at h1 h2
  rcases hs2 with rfl | rfl <;> simp only [Int.reduceAdd, Int.reduceMul] at hr ⊢ <;> exact J_chg hj (by decide) (by omega) (by omega) (by omega) (by omega) (by omega) (by omega)
theorem J_set {σ : Int → Int} (h : J σ) {p q : Int} (hp : 1 ≤ p ∧ p ≤ 7) (hq : 1 ≤ q ∧ q ≤ 99) : J (up (up σ 4 p) 5 q) := by
  obtain ⟨h0, h1, h2, h3, h4, h5, h6⟩ := J_4 h (b := p) ⟨by omega, hp.2⟩
  simp only [J0, JS, JA, JP, Int.reduceAdd] at h0 h1 h2 h3 h4
  refine ⟨?_, ?_, ?_, ?_, ?_, JR_c h5 (fun i a => up_n (by omega)), by rw [up_n (by omega)]; exact h6⟩
  all_goals
    simp only [J0, JS, JA, JP, Int.reduceAdd]
    simp only [up, Int.reduceEq, if_true, if_false] at h0 h1 h2 h3 h4 ⊢
    first
    | assumption
    | (refine ⟨?_, ?_, ?_, ?_, ?_, ?_⟩ <;> omega)
theorem GOOD_set {F : Int → Int → Int} {K : Int → Int → Int64} {σ : Int → Int} (h : GOOD F K σ) {p q : Int} (hp : 1 ≤ p ∧ p ≤ 7) (hq : 1 ≤ q ∧ q ≤ 99) : GOOD (up F 0 (up (up (F 0) 4 p) 5 q)) K (up (up σ 4 p) 5 q) := by
  obtain ⟨⟨r1, r2, r3, r4⟩, j, e4, e7, e3, et, e9, ee, el⟩ := h
  have u : ∀ i, (i ≤ 3 ∨ 6 ≤ i) → up (up σ 4 p) 5 q i = σ i := fun i c => by rw [up_n (by omega), up_n (by omega)]
  have w : ∀ i, (i ≤ 3 ∨ 6 ≤ i) → up F 0 (up (up (F 0) 4 p) 5 q) 0 i = F 0 i := fun i c => by rw [up_s, up_n (by omega), up_n (by omega)]
  have w1 : ∀ i, i ≠ 0 → up F 0 (up (up (F 0) 4 p) 5 q) i = F i := fun i c => up_n c
  have lzu : ∀ f, lz (up (up σ 4 p) 5 q) f = lz σ f := fun f => lz_c (u 7 (by decide)) (fun i c => u i (by omega))
  obtain ⟨⟨a1, a2, a3, a4, a5⟩, b, c, d⟩ := r1
  refine ⟨⟨⟨⟨?_, ?_, ?_, ?_, ?_⟩, ?_, ?_, ?_⟩, RT_c r2 (w1 3 (by decide)) (w1 4 (by decide)) (fun i c => u i (by omega)), ?_, ?_⟩, J_set j hp hq, ?_, ?_, ?_, ?_, ?_, ?_, ?_⟩
  · rw [w 1 (by decide), u 1 (by decide)]; exact a1
  · rw [w 2 (by decide), u 2 (by decide)]; exact a2
  · rw [up_s, up_n (by decide), up_s, up_n (by decide), up_s]
  · rw [up_s, up_s, up_s]
  · rw [w 6 (by decide), u 6 (by decide)]; exact a5
  · intro i i0 i1; rw [w1 1 (by decide), u _ (by omega)]; exact b i i0 i1
  · intro i i0 i1; rw [w1 2 (by decide), u _ (by omega)]; exact c i i0 i1
  · intro i i0 i1; rw [w1 5 (by decide), u _ (by omega)]; exact d i i0 i1
  · intro f hf
    rw [u 3 (by decide)] at hf
    rw [lzu, w 9 (by decide)]
    exact r3 f hf
  · refine RB_c r4 ?_
    intro i i2 c
    by_cases e : i = 0
    · rw [e, w i2 ?_]
      refine Classical.byContradiction (fun g => c (Or.inl ⟨e, ?_⟩))
      omega
    · rw [up_n e]
  · rw [up_n (by decide), up_s]; exact hp.1
  · rw [u 7 (by decide)]; exact e7
  · rw [u 3 (by decide)]; exact e3
  · intro i a b
    rw [u 7 (by decide)] at b
    rw [u _ (by omega)]
    exact et i a b
  · rw [w 9 (by decide)]; exact e9
  · rw [w 7 (by decide), u 7 (by decide)]; exact ee
  · intro f hf
    rw [lzu]
    exact el f hf
theorem GOOD_sp {F : Int → Int → Int} {K : Int → Int → Int64} {σ : Int → Int} (h : GOOD F K σ) (h3 : σ 3 < 2000) : GOOD (spL K F) K (stepF 0 σ) := by
  obtain ⟨r, j, e4, e7, e3, et, e9, ee, el⟩ := h
  have lzu : ∀ f, lz (stepF 0 σ) f = lz σ f := fun f => lz_c (step_hi j (Or.inl rfl)) (fun i c => step_hi j (by omega))
  refine ⟨REL_step r j, J_step j, ?_, ?_, ?_, ?_, ?_, ?_, ?_⟩
  · rw [step_4 j]; exact e4
  · rw [step_hi j (Or.inl rfl)]; exact e7
  · rw [step_3 j]; omega
  · intro i a b
    rw [step_hi j (Or.inl rfl)] at b
    rw [step_hi j (by omega)]
    exact et i a b
  · rw [fr_sp 0 9 (by unfold Rl; omega)]; exact e9
  · rw [fr_sp 0 7 (by unfold Rl; omega), step_hi j (Or.inl rfl)]; exact ee
  · intro f hf
    rw [lzu]
    exact el f hf
theorem GOOD_run {F : Int → Int → Int} {K : Int → Int → Int64} {σ : Int → Int} (h : GOOD F K σ) : ∀ n : Nat, σ 3 + n ≤ 2000 → GOOD (itL 0 K F n) K (itF 0 σ n) := by
  intro n
  induction n with
  | zero => exact fun _ => h
  | succ n ih =>
    intro hn
    have g := ih (by omega)
    refine GOOD_sp g ?_
    rw [it_3 (Or.inl rfl) h.2.1]
    omega
/-- one bit of a word of the told frames -/
theorem tlV_b {w : Int64} {k : Int} (h0 : 0 ≤ k) (h1 : k < 64) : tlV w k = 0 ↔ w.toBitVec.getLsbD k.toNat = false := by
  obtain ⟨n, rfl⟩ := Int.eq_ofNat_of_zero_le h0
  have hn : n < 64 := by omega
  have es : ∀ n : Fin 64, ((iI ((n.val : Nat) : Int)).toInt64.toUInt64 &&& Int64.toUInt64 63).toNat = n.val := by decide +kernel
  have e1 := es ⟨n, hn⟩
  have ec : ∀ x : Int64, (lg_cmp x 0).toInt = 0 ↔ x = 0 := by
    intro x
    unfold lg_cmp
    split
    · rename_i c
      refine ⟨fun e => absurd e (by decide), fun e => ?_⟩
      subst e
      exact absurd c (by decide)
    · split
      · rename_i c; exact ⟨fun _ => c, fun _ => rfl⟩
      · rename_i c; exact ⟨fun e => absurd e (by decide), fun e => absurd e c⟩
  unfold tlV
  rw [ec, ← Int64.toBitVec_inj, Int64.toBitVec_and]
  have e2 : (w.toUInt64 >>> ((iI (n : Int)).toInt64.toUInt64 &&& Int64.toUInt64 63)).toInt64.toBitVec = w.toBitVec >>> n := by
    apply BitVec.eq_of_toNat_eq
    show (w.toUInt64 >>> ((iI (n : Int)).toInt64.toUInt64 &&& Int64.toUInt64 63)).toNat = _
    rw [UInt64.toNat_shiftRight, e1, Nat.mod_eq_of_lt hn, BitVec.toNat_ushiftRight]
    rfl
  rw [e2]
  show w.toBitVec >>> n &&& 1#64 = 0#64 ↔ _
  rw [show (n : Int).toNat = n from rfl]
  constructor
  · intro h
    have t := congrArg (fun x => x.getLsbD 0) h
    simpa using t
  · intro h
    apply BitVec.eq_of_getLsbD_eq
    intro i hi
    cases i with
    | zero => simp [h]
    | succ i => simp
theorem orB_b {w : Int64} {k : Int} (h0 : 0 ≤ k) (h1 : k < 64) {j : Nat} (hj : j < 64) : (orB w k).toBitVec.getLsbD j = (w.toBitVec.getLsbD j || decide (k.toNat = j)) := by
  obtain ⟨n, rfl⟩ := Int.eq_ofNat_of_zero_le h0
  have es : ∀ n : Fin 64, ((1 : Int64) <<< ((iI ((n.val : Nat) : Int)).toInt64 &&& 63)).toBitVec = BitVec.twoPow 64 n.val := by decide +kernel
  unfold orB
  rw [Int64.toBitVec_or, es ⟨n, by omega⟩, BitVec.getLsbD_or, BitVec.getLsbD_twoPow]
  congr 1
  rw [show (n : Int).toNat = n from rfl]
  by_cases e : n = j
  · simp [e, hj]
  · simp [e]
theorem tlL_or {t : Int → Int64} {f g : Int} (hf : 0 ≤ f ∧ f < 2000) : tlL (up t (f / 64) (orB (t (f / 64)) (f % 64))) g ↔ tlL t g ∨ g = f := by
  by_cases hg : 0 ≤ g ∧ g < 2000
  · have m1 : 0 ≤ g % 64 ∧ g % 64 < 64 := ⟨Int.emod_nonneg _ (by decide), Int.emod_lt_of_pos _ (by decide)⟩
    have m2 : 0 ≤ f % 64 ∧ f % 64 < 64 := ⟨Int.emod_nonneg _ (by decide), Int.emod_lt_of_pos _ (by decide)⟩
    have e1 : tlL t g ↔ ¬ tlV (t (g / 64)) (g % 64) = 0 := ⟨fun a => a.2, fun a => ⟨hg, a⟩⟩
    have e2 : tlL (up t (f / 64) (orB (t (f / 64)) (f % 64))) g ↔ ¬ tlV (up t (f / 64) (orB (t (f / 64)) (f % 64)) (g / 64)) (g % 64) = 0 := ⟨fun a => a.2, fun a => ⟨hg, a⟩⟩
    rw [e1, e2]
    by_cases c : g / 64 = f / 64
    · rw [c, up_s, tlV_b m1.1 m1.2, tlV_b m1.1 m1.2, orB_b m2.1 m2.2 (by omega)]
      have e3 : (f % 64).toNat = (g % 64).toNat ↔ g = f := by omega
      by_cases c2 : g = f
      · rw [decide_eq_true (e3.mpr c2)]; simp [c2]
      · rw [decide_eq_false (fun h => c2 (e3.mp h))]; simp [c2]
    · rw [up_n c]
      refine ⟨Or.inl, fun a => a.elim id (fun e => absurd (by rw [e]) c)⟩
  · exact ⟨fun a => absurd a.1 hg, fun a => a.elim (fun b => absurd b.1 hg) (fun b => absurd (b ▸ hf) hg)⟩
end Chg
