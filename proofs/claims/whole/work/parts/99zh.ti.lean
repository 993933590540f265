section TIs
theorem RM_cg {s s' : Int → Int} (h : RM s) (e : ∀ j, (3 ≤ j ∧ j ≤ 9) ∨ j = 17 ∨ j = 18 → s' j = s j) : RM s' := by
  unfold RM at h ⊢
  rw [e 3 (by decide), e 4 (by decide), e 5 (by decide), e 6 (by decide), e 7 (by decide), e 8 (by decide), e 9 (by decide), e 17 (by decide), e 18 (by decide)]
  exact h
section
variable {f bu : Int → Int} {Q Q' : Nat → Int → Int → Int} {R R' : Nat → Int → Int → Int64} {LF : Nat → Int → Int → Int} {LK : Nat → Int → Int → Int64} {z z' : Int → Int} {M M' : Int → Int → Int}
/-- nothing but scratch has changed -/
theorem TI_sc (h : TI f bu Q R LF LK z M) (hq : ∀ n : Nat, n = 0 ∨ n = 1 ∨ n = 5 ∨ n = 6 → Q' n = Q n ∧ R' n = R n) (hz : z' 0 = z 0 ∧ z' 1 = z 1 ∧ z' 2 = z 2) (hm : ∀ i : Int, i = 1 ∨ i = 2 ∨ i = 5 ∨ i = 6 ∨ i = 7 → M' i = M i) (h0 : ∀ j : Int, (2 ≤ j ∧ j ≤ 9) ∨ j = 14 ∨ j = 17 ∨ j = 18 ∨ j = 24 → M' 0 j = M 0 j) : TI f bu Q' R' LF LK z' M' := by
  obtain ⟨h1, h2, h3, h4, h5⟩ := h
  obtain ⟨z0, z1, z2⟩ := hz
  obtain ⟨q0, r0⟩ := hq 0 (Or.inl rfl)
  obtain ⟨q1, r1⟩ := hq 1 (Or.inr (Or.inl rfl))
  obtain ⟨q5, r5⟩ := hq 5 (Or.inr (Or.inr (Or.inl rfl)))
  obtain ⟨q6, r6⟩ := hq 6 (Or.inr (Or.inr (Or.inr rfl)))
  unfold TI
  rw [q0, r0, q1, r1, q5, r5, q6, r6, z0, z1, z2, hm 1 (by decide), hm 2 (by decide), hm 5 (by decide), hm 6 (by decide), hm 7 (by decide), h0 14 (by decide), h0 2 (by decide), h0 24 (by decide)]
  obtain ⟨a, b, c⟩ := h5
  exact ⟨h1, h2, h3, h4, a, RM_cg b (fun j hj => h0 j (by omega)), c⟩
/-- a change, kept -/
theorem TI_kp (h : TI f bu Q R LF LK z M) {F1 : Int → Int → Int} {K1 : Int → Int → Int64} {σ1 : Int → Int} (g : GOOD F1 K1 σ1) (hq0 : Q' 0 = F1 ∧ R' 0 = K1) (hq : ∀ n : Nat, n = 1 ∨ n = 5 ∨ n = 6 → Q' n = Q n ∧ R' n = R n) (hz : z' 0 = kpC (z 0) ∧ z' 1 = z 1 ∧ z' 2 = z 2) (m2 : M' 2 = σ1) (m5 : M' 5 = cpF (M 2) (kpH (M 0 14) (M 5)) 0 (kpD (M 0 14)) 441) (hm : ∀ i : Int, i = 1 ∨ i = 6 ∨ i = 7 → M' i = M i) (m14 : M' 0 14 = kpD (M 0 14) + 1) (h0 : ∀ j : Int, (2 ≤ j ∧ j ≤ 9) ∨ j = 17 ∨ j = 18 ∨ j = 24 → M' 0 j = M 0 j) : TI f bu Q' R' (kpS (z 0) LF (Q 0)) (kpS (z 0) LK (R 0)) z' M' := by
  obtain ⟨h1, h2, h3, h4, h5⟩ := h
  obtain ⟨z0, z1, z2⟩ := hz
  obtain ⟨q0, r0⟩ := hq0
  obtain ⟨q1, r1⟩ := hq 1 (Or.inl rfl)
  obtain ⟨q5, r5⟩ := hq 5 (Or.inr (Or.inl rfl))
  obtain ⟨q6, r6⟩ := hq 6 (Or.inr (Or.inr rfl))
  have H : HI (kpC (z 0)) (kpD (M 0 14) + 1) (kpS (z 0) LF (Q 0)) (kpS (z 0) LK (R 0)) (cpF (M 2) (kpH (M 0 14) (M 5)) 0 (kpD (M 0 14)) 441) := HI_kp h3 h1
  unfold TI
  rw [q0, r0, q1, r1, q5, r5, q6, r6, z0, z1, z2, hm 1 (by decide), m2, m5, hm 6 (by decide), hm 7 (by decide), m14, h0 2 (by decide), h0 24 (by decide)]
  obtain ⟨a, b, c⟩ := h5
  exact ⟨g, h2, H, h4, a, RM_cg b (fun j hj => h0 j (by omega)), c⟩
theorem TI_un (h : TI f bu Q R LF LK z M) (hz1 : 1 ≤ z 0) (hq0 : Q' 0 = LF (z 0 - 1).toNat ∧ R' 0 = LK (z 0 - 1).toNat) (hq : ∀ n : Nat, n = 1 ∨ n = 5 ∨ n = 6 → Q' n = Q n ∧ R' n = R n) (hz : z' 0 = z 0 - 1 ∧ z' 1 = z 1 ∧ z' 2 = z 2) (m2 : M' 2 = cpF (M 5) (M 2) (M 0 14 - 1) 0 441) (hm : ∀ i : Int, i = 1 ∨ i = 5 ∨ i = 6 ∨ i = 7 → M' i = M i) (m14 : M' 0 14 = M 0 14 - 1) (h0 : ∀ j : Int, (2 ≤ j ∧ j ≤ 9) ∨ j = 17 ∨ j = 18 ∨ j = 24 → M' 0 j = M 0 j) : TI f bu Q' R' LF LK z' M' := by
  obtain ⟨h1, h2, h3, h4, h5⟩ := h
  obtain ⟨z0, z1, z2⟩ := hz
  obtain ⟨q0, r0⟩ := hq0
  obtain ⟨q1, r1⟩ := hq 1 (Or.inl rfl)
  obtain ⟨q5, r5⟩ := hq 5 (Or.inr (Or.inl rfl))
  obtain ⟨q6, r6⟩ := hq 6 (Or.inr (Or.inr rfl))
  obtain ⟨H, g⟩ := HI_un h3 hz1 h1.2.1
  unfold TI
  rw [q0, r0, q1, r1, q5, r5, q6, r6, z0, z1, z2, hm 1 (by decide), m2, hm 5 (by decide), hm 6 (by decide), hm 7 (by decide), m14, h0 2 (by decide), h0 24 (by decide)]
  obtain ⟨a, b, c⟩ := h5
  exact ⟨g, h2, H, h4, a, RM_cg b (fun j hj => h0 j (by omega)), c⟩
theorem TI_s0 (h : TI f bu Q R LF LK z M) (hq5 : Q' 5 = Q 0 ∧ R' 5 = R 0) (hq : ∀ n : Nat, n = 0 ∨ n = 1 ∨ n = 6 → Q' n = Q n ∧ R' n = R n) (hz : z' 0 = z 0 ∧ z' 1 = 1 ∧ z' 2 = z 2) (m6 : M' 6 = cpF (M 2) (M 6) 0 0 441) (m7 : M' 7 = up (M 7) 0 1) (hm : ∀ i : Int, i = 1 ∨ i = 2 ∨ i = 5 → M' i = M i) (h0 : ∀ j : Int, (2 ≤ j ∧ j ≤ 9) ∨ j = 14 ∨ j = 17 ∨ j = 18 ∨ j = 24 → M' 0 j = M 0 j) : TI f bu Q' R' LF LK z' M' := by
  obtain ⟨h1, h2, h3, ⟨s1, s2, s3, s4, s5, s6, s7⟩, h5⟩ := h
  obtain ⟨z0, z1, z2⟩ := hz
  obtain ⟨q5, r5⟩ := hq5
  obtain ⟨q0, r0⟩ := hq 0 (Or.inl rfl)
  obtain ⟨q1, r1⟩ := hq 1 (Or.inr (Or.inl rfl))
  obtain ⟨q6, r6⟩ := hq 6 (Or.inr (Or.inr rfl))
  unfold TI
  rw [q0, r0, q1, r1, q5, r5, q6, r6, z0, z1, z2, hm 1 (by decide), hm 2 (by decide), hm 5 (by decide), m6, m7, h0 14 (by decide), h0 2 (by decide), h0 24 (by decide)]
  obtain ⟨a, b, c⟩ := h5
  refine ⟨h1, h2, h3, ⟨up_s.symm, ?_, fun j => ?_, fun _ => ?_, fun e => ?_, GOOD_6 h1, s7⟩, a, RM_cg b (fun j hj => h0 j (by omega)), c⟩
  · rw [up_n (by decide)]; exact s2
  · by_cases e : j = 0
    · rw [e, up_s]; exact Or.inr rfl
    · rw [up_n e]; exact s3 j
  · rw [blk_cp h1.2.1]; exact h1
  · rw [blk_ne (by decide)]; exact s5 e
theorem TI_s1 (h : TI f bu Q R LF LK z M) (hq6 : Q' 6 = Q 0 ∧ R' 6 = R 0) (hq : ∀ n : Nat, n = 0 ∨ n = 1 ∨ n = 5 → Q' n = Q n ∧ R' n = R n) (hz : z' 0 = z 0 ∧ z' 1 = z 1 ∧ z' 2 = 1) (m6 : M' 6 = cpF (M 2) (M 6) 0 1 441) (m7 : M' 7 = up (M 7) 1 1) (hm : ∀ i : Int, i = 1 ∨ i = 2 ∨ i = 5 → M' i = M i) (h0 : ∀ j : Int, (2 ≤ j ∧ j ≤ 9) ∨ j = 14 ∨ j = 17 ∨ j = 18 ∨ j = 24 → M' 0 j = M 0 j) : TI f bu Q' R' LF LK z' M' := by
  obtain ⟨h1, h2, h3, ⟨s1, s2, s3, s4, s5, s6, s7⟩, h5⟩ := h
  obtain ⟨z0, z1, z2⟩ := hz
  obtain ⟨q6, r6⟩ := hq6
  obtain ⟨q0, r0⟩ := hq 0 (Or.inl rfl)
  obtain ⟨q1, r1⟩ := hq 1 (Or.inr (Or.inl rfl))
  obtain ⟨q5, r5⟩ := hq 5 (Or.inr (Or.inr rfl))
  unfold TI
  rw [q0, r0, q1, r1, q5, r5, q6, r6, z0, z1, z2, hm 1 (by decide), hm 2 (by decide), hm 5 (by decide), m6, m7, h0 14 (by decide), h0 2 (by decide), h0 24 (by decide)]
  obtain ⟨a, b, c⟩ := h5
  refine ⟨h1, h2, h3, ⟨?_, up_s.symm, fun j => ?_, fun e => ?_, fun _ => ?_, s6, GOOD_6 h1⟩, a, RM_cg b (fun j hj => h0 j (by omega)), c⟩
  · rw [up_n (by decide)]; exact s1
  · by_cases e : j = 1
    · rw [e, up_s]; exact Or.inr rfl
    · rw [up_n e]; exact s3 j
  · rw [blk_ne (by decide)]; exact s4 e
  · rw [blk_cp h1.2.1]; exact h1
/-- now is another one, its history begins -/
theorem TI_nw (h : TI f bu Q R LF LK z M) (g : GOOD (Q' 0) (R' 0) (M' 2)) (hq : ∀ n : Nat, n = 1 ∨ n = 5 ∨ n = 6 → Q' n = Q n ∧ R' n = R n) (hz : z' 0 = 0 ∧ z' 1 = z 1 ∧ z' 2 = z 2) (hm : ∀ i : Int, i = 1 ∨ i = 5 ∨ i = 6 ∨ i = 7 → M' i = M i) (m14 : M' 0 14 = 0) (h0 : ∀ j : Int, (2 ≤ j ∧ j ≤ 9) ∨ j = 17 ∨ j = 18 ∨ j = 24 → M' 0 j = M 0 j) : TI f bu Q' R' LF LK z' M' := by
  obtain ⟨h1, h2, h3, h4, h5⟩ := h
  obtain ⟨z0, z1, z2⟩ := hz
  obtain ⟨q1, r1⟩ := hq 1 (Or.inl rfl)
  obtain ⟨q5, r5⟩ := hq 5 (Or.inr (Or.inl rfl))
  obtain ⟨q6, r6⟩ := hq 6 (Or.inr (Or.inr rfl))
  unfold TI
  rw [q1, r1, q5, r5, q6, r6, z0, z1, z2, hm 1 (by decide), hm 5 (by decide), hm 6 (by decide), hm 7 (by decide), m14, h0 2 (by decide), h0 24 (by decide)]
  obtain ⟨a, b, c⟩ := h5
  exact ⟨g, h2, ⟨by decide, rfl, fun n hn => absurd hn (by omega), h3.2.2.2⟩, h4, a, RM_cg b (fun j hj => h0 j (by omega)), c⟩
/-- another input buffer -/
theorem TI_rd {f' bu' : Int → Int} (h : TI f bu Q R LF LK z M) (g : RDR f' bu' (M' 0) (M' 1)) (hm : ∀ i : Int, i = 2 ∨ i = 5 ∨ i = 6 ∨ i = 7 → M' i = M i) (h0 : ∀ j : Int, j = 14 ∨ j = 24 → M' 0 j = M 0 j) : TI f' bu' Q R LF LK z M' := by
  obtain ⟨h1, h2, h3, h4, h5⟩ := h
  unfold TI
  rw [hm 2 (by decide), hm 5 (by decide), hm 6 (by decide), hm 7 (by decide), h0 14 (by decide), h0 24 (by decide)]
  obtain ⟨a, b, c, d, e, i⟩ := g
  exact ⟨h1, h2, h3, h4, a, b, c, d, e, i, h5.2.2.2.2.2.2⟩
theorem TI_RDR (h : TI f bu Q R LF LK z M) : RDR f bu (M 0) (M 1) := by
  obtain ⟨h1, h2, h3, h4, a, b, c, d, e, i, j⟩ := h
  exact ⟨a, b, c, d, e, i⟩
/-- a text that is refused -/
theorem TI_p1 {f' : Int → Int} {q : Int} (h : TI f bu Q R LF LK z M) (hf : f' = up (paT f bu q (Q 1) (R 1)).1 0 0) (hq1 : 0 ≤ q ∧ q ≤ f 0) (hq : ∀ n : Nat, n = 0 ∨ n = 1 ∨ n = 5 ∨ n = 6 → Q' n = Q n ∧ R' n = R n) (hz : z' 0 = z 0 ∧ z' 1 = z 1 ∧ z' 2 = z 2) (m0 : M' 0 = (paE (M 0) (M 1) (M 2) q).1) (hm : ∀ i : Int, i = 1 ∨ i = 2 ∨ i = 5 ∨ i = 6 ∨ i = 7 → M' i = M i) : TI f' bu Q' R' LF LK z' M' := by
  have h' := h
  obtain ⟨h1, ⟨e1, e2⟩, h3, h4, a, b, c, d, e, i, j⟩ := h'
  have t := TI_sc (M' := M) h hq hz (fun _ _ => rfl) (fun _ _ => rfl)
  rw [e1, e2] at hf
  have l7 : f 0 ≤ 700 := a.2.2.2.2.2.2.2.2
  have P := pa_TR (f := f) (s := M 0) (bu := bu) (B := M 1) (σ := M 2) (ln := q) a b (sB_mono (by decide) d) (sB_mono (by decide) e) ⟨d, fun j a b => i j a (by omega)⟩ ⟨hq1.1, by omega⟩ ⟨by omega, by omega⟩ (J_B h1.2.1 (by have := h1.2.2.2.2.1; omega)) (fun j hj => J_out h1.2.1 hj)
  have F := fun j h => fr_pa (s := M 0) (B := M 1) (σ := M 2) (n := q) (j := j) h
  refine TI_rd t ⟨?_, ?_, ?_, d, ?_, ?_⟩ (fun i hi => hm i (by omega)) (fun j hj => ?_)
  · rw [hf]
    have o := P.2.2.1
    obtain ⟨o1, o2, o3, o4, o5, o6, o7, o8, o9⟩ := o
    exact ⟨o1, o2, o3, o4, o5, o6, o7, (by rw [up_s]; decide), (by rw [up_s]; decide)⟩
  · rw [m0]; exact P.2.2.2.2
  · rw [hf, up_s, m0, F 2 (by decide) (by decide) (by decide)]; rfl
  · rw [hm 1 (by decide)]; exact e
  · intro j j0 j1
    rw [hf, up_s] at j1
    omega
  · rw [m0]
    rcases hj with rfl | rfl
    · rw [F 14 (by decide) (by decide) (by decide)]; rfl
    · rw [F 24 (by decide) (by decide) (by decide)]; rfl
/-- a text that is taken -/
theorem TI_p2 {f' : Int → Int} {q : Int} (h : TI f bu Q R LF LK z M) (hf : f' = up (paT f bu q (Q 1) (R 1)).1 0 0) (hq1 : 0 ≤ q ∧ q ≤ f 0) (h7 : (paT f bu q (Q 1) (R 1)).1 7 = 0) (hq0 : Q' 0 = pdF (paT f bu q (Q 1) (R 1)) ∧ R' 0 = (paT f bu q (Q 1) (R 1)).2.2) (hq : ∀ n : Nat, n = 1 ∨ n = 5 ∨ n = 6 → Q' n = Q n ∧ R' n = R n) (hz : z' 0 = 0 ∧ z' 1 = 0 ∧ z' 2 = 0) (m0 : M' 0 = up (paE (M 0) (M 1) (M 2) q).1 14 0) (m2 : M' 2 = up (up (paE (M 0) (M 1) (M 2) q).2 25 ((paE (M 0) (M 1) (M 2) q).2 32)) 36 ((paE (M 0) (M 1) (M 2) q).2 21)) (m7 : M' 7 = up (up (M 7) 0 0) 1 0) (hm : ∀ i : Int, i = 1 ∨ i = 5 ∨ i = 6 → M' i = M i) : TI f' bu Q' R' LF LK z' M' := by
  obtain ⟨h1, ⟨e1, e2⟩, h3, ⟨s1, s2, s3, s4, s5, s6, s7⟩, a, b, c, d, e, i, j⟩ := h
  obtain ⟨z0, z1, z2⟩ := hz
  obtain ⟨q1, r1⟩ := hq 1 (Or.inl rfl)
  obtain ⟨q5, r5⟩ := hq 5 (Or.inr (Or.inl rfl))
  obtain ⟨q6, r6⟩ := hq 6 (Or.inr (Or.inr rfl))
  rw [e1, e2] at hf h7 hq0
  have l7 : f 0 ≤ 700 := a.2.2.2.2.2.2.2.2
  have P := pa_TR (f := f) (s := M 0) (bu := bu) (B := M 1) (σ := M 2) (ln := q) a b (sB_mono (by decide) d) (sB_mono (by decide) e) ⟨d, fun j a b => i j a (by omega)⟩ ⟨hq1.1, by omega⟩ ⟨by omega, by omega⟩ (J_B h1.2.1 (by have := h1.2.2.2.2.1; omega)) (fun j hj => J_out h1.2.1 hj)
  have F := fun j h => fr_pa (s := M 0) (B := M 1) (σ := M 2) (n := q) (j := j) h
  have g := P.2.1 h7
  unfold TI
  rw [q1, r1, q5, r5, q6, r6, z0, z1, z2, hq0.1, hq0.2, m0, m2, m7, hm 1 (by decide), hm 5 (by decide), hm 6 (by decide), hf]
  refine ⟨g, ⟨e1, e2⟩, ⟨by decide, up_s, fun n hn => absurd hn (by omega), h3.2.2.2⟩, ⟨?_, ?_, fun j => ?_, fun h => absurd h (by decide), fun h => absurd h (by decide), s6, s7⟩, ?_, ?_, ?_, d, e, ?_, ?_⟩
  · rw [up_n (by decide), up_s]
  · rw [up_s]
  · by_cases c1 : j = 1
    · rw [c1, up_s]; exact Or.inl rfl
    · rw [up_n c1]
      by_cases c0 : j = 0
      · rw [c0, up_s]; exact Or.inl rfl
      · rw [up_n c0]; exact s3 j
  · have o := P.2.2.1
    obtain ⟨o1, o2, o3, o4, o5, o6, o7, o8, o9⟩ := o
    exact ⟨o1, o2, o3, o4, o5, o6, o7, (by rw [up_s]; decide), (by rw [up_s]; decide)⟩
  · exact RM_cg P.2.2.2.2 (fun j hj => up_n (by omega))
  · rw [up_s, up_n (by decide), F 2 (by decide) (by decide) (by decide)]; rfl
  · intro j j0 j1
    rw [up_s] at j1
    omega
  · rw [up_n (by decide), F 24 (by decide) (by decide) (by decide)]; exact j
end
end TIs
