section Pure14
/-- what a text's lines need of now, and keep -/
def NI (σ : Int → Int) : Prop := sB 1000000 σ ∧ (0 ≤ σ 7 ∧ σ 7 ≤ 20) ∧ (0 ≤ σ 18 ∧ σ 18 ≤ 20) ∧ (0 ≤ σ 29 ∧ σ 29 ≤ 20)
theorem NI_1 {σ : Int → Int} (h : NI σ) : sB 1073741824 σ := sB_mono (by decide) h.1
theorem NI_2 {σ : Int → Int} (h : NI σ) : 0 ≤ σ 7 := h.2.1.1
theorem NI_3 {σ : Int → Int} (h : NI σ) : σ 7 ≤ 40 := by have := h.2.1; omega
theorem NI_4 {σ : Int → Int} (h : NI σ) : ∀ s, (s = 0 ∨ s = 1) → 0 ≤ σ (18 + 11 * s + 0) ∧ σ (18 + 11 * s + 0) ≤ 20 := by
  intro s hs
  rcases hs with rfl | rfl
  · exact h.2.2.1
  · exact h.2.2.2
def stS (s B σ : Int → Int) : Int → Int := if wdM s B sK1 then wlS s B else if wdM s B sK2 then msS s B σ else if wdM s B sK3 then llS s B σ else muM s 0 1
def stN (s B σ : Int → Int) : Int → Int := if wdM s B sK1 then wlN s B σ else if wdM s B sK2 then msN s B σ else if wdM s B sK3 then llN s B σ else σ
def sfS (s B σ : Int → Int) : Int → Int := if stS s B σ 8 = 0 ∧ ¬ bI (stS s B σ 6 = 3) = 0 then ntM (muM (stS s B σ) (bI (stS s B σ 6 = 3)) 1) B else muM (stS s B σ) (bI (stS s B σ 6 = 3)) 1
theorem stS_ok {s B σ : Int → Int} (h : RM s) (hB : sB 1000 B) : RM (stS s B σ) := by
  unfold stS
  by_cases c1 : wdM s B sK1
  · rw [if_pos c1]; exact wlS_ok h hB
  · rw [if_neg c1]
    by_cases c2 : wdM s B sK2
    · rw [if_pos c2]; exact msS_ok h hB
    · rw [if_neg c2]
      by_cases c3 : wdM s B sK3
      · rw [if_pos c3]; exact llS_ok h hB
      · rw [if_neg c3]; exact muM_ok h (by decide)
theorem sfS_ok {s B σ : Int → Int} (h : RM s) (hB : sB 1000 B) : RM (sfS s B σ) := by
  have g := stS_ok (σ := σ) h hB
  unfold sfS
  split
  · exact ntM_ok (muM_ok g (by decide)).one hB
  · exact muM_ok g (by decide)
/-- tokenEnd goes on, and over a semicolon that was not there -/
def Pg (e : Int) (s : Int → Int) : Prop := e ≤ s 5 ∧ (s 6 = 3 → e + 1 ≤ s 5)
theorem Pg_nt {e : Int} {s B : Int → Int} (h : RM s) (p : Pg e s) : Pg e (ntM s B) := by
  have r : s 5 ≤ stM s B ∧ stM s B ≤ s 3 := runE_in h.1.2.2.1
  obtain ⟨p1, p2⟩ := p
  unfold ntM
  by_cases c1 : bM s B (stM s B) = -1
  · rw [if_pos c1]
    exact (show e ≤ stM s B ∧ ((0 : Int) = 3 → _) from ⟨by omega, fun h => absurd h (by decide)⟩)
  · rw [if_neg c1]
    by_cases c2 : ltP (bM s B (stM s B))
    · rw [if_pos c2]
      have q : stM s B ≤ runE ltP (uM B) (s 3) (stM s B) ∧ _ := runE_in r.2
      exact (show e ≤ runE ltP (uM B) (s 3) (stM s B) ∧ ((if runE ltP (uM B) (s 3) (stM s B) - stM s B ≤ 8 then 1 else 4) = (3 : Int) → _) from ⟨by omega, fun h => by split at h <;> exact absurd h (by decide)⟩)
    · rw [if_neg c2]
      by_cases c3 : dgP (bM s B (stM s B))
      · rw [if_pos c3]
        have q : stM s B ≤ runE dgP (uM B) (s 3) (stM s B) ∧ _ := runE_in r.2
        exact (show e ≤ runE dgP (uM B) (s 3) (stM s B) ∧ ((if runE dgP (uM B) (s 3) (stM s B) - stM s B ≤ 3 then 2 else 4) = (3 : Int) → _) from ⟨by omega, fun h => by split at h <;> exact absurd h (by decide)⟩)
      · rw [if_neg c3]
        exact (show e ≤ stM s B + 1 ∧ (_ → e + 1 ≤ stM s B + 1) from ⟨by omega, fun _ => by omega⟩)
theorem nt_mono {s B : Int → Int} (h : RM s) : s 5 ≤ ntM s B 5 := by
  have r : s 5 ≤ stM s B ∧ stM s B ≤ s 3 := runE_in h.1.2.2.1
  unfold ntM
  by_cases c1 : bM s B (stM s B) = -1
  · rw [if_pos c1]; exact r.1
  · rw [if_neg c1]
    by_cases c2 : ltP (bM s B (stM s B))
    · rw [if_pos c2]
      have q : stM s B ≤ runE ltP (uM B) (s 3) (stM s B) ∧ _ := runE_in r.2
      exact Int.le_trans r.1 q.1
    · rw [if_neg c2]
      by_cases c3 : dgP (bM s B (stM s B))
      · rw [if_pos c3]
        have q : stM s B ≤ runE dgP (uM B) (s 3) (stM s B) ∧ _ := runE_in r.2
        exact Int.le_trans r.1 q.1
      · rw [if_neg c3]
        exact (show s 5 ≤ stM s B + 1 by omega)
theorem Pg_f {e : Int} {s : Int → Int} {k : Int} (p : Pg e s) : Pg e (fM s k) := by
  unfold fM
  split
  · exact p
  · exact p
theorem Pg_mu {e : Int} {s : Int → Int} {c k : Int} (p : Pg e s) : Pg e (muM s c k) := by
  unfold muM
  split
  · exact Pg_f p
  · exact p
theorem Pg_go {e : Int} {s B : Int → Int} (h : RM s) (p : Pg e s) : Pg e (goM s B) := by
  unfold goM
  split
  · exact Pg_nt h p
  · exact p
theorem Pg_lk {e : Int} {s : Int → Int} {a b : Int} (p : Pg e s) : Pg e (lkM s a b) := by
  unfold lkM
  split
  · split
    · exact p
    · exact Pg_f p
  · exact Pg_f p
theorem Pg_wl4 {e : Int} {s : Int → Int} {st : Int} (p : Pg e s) : Pg e (wl4 st s) := by
  unfold wl4
  split
  · exact p
  · exact p
theorem Pg_wl {e : Int} {s B : Int → Int} (h : RM s) (hB : sB 1000 B) (p : Pg e s) : Pg e (wlS s B) := by
  have g2 : RM (wl2 s B) := lkM_ok (goM_ok h hB)
  have g3 : RM (wl3 s B) := muM_ok g2 (by decide)
  have p3 : Pg e (wl3 s B) := Pg_mu (Pg_lk (Pg_go h p))
  have g4 : RM (wl4 (wlst s B) (wl3 s B)) := wl4_ok g3
  unfold wlS
  split
  · exact Pg_go (lkM_ok (goM_ok g4 hB)) (Pg_lk (Pg_go g4 (Pg_wl4 p3)))
  · exact p3
theorem Pg_ll {e : Int} {s B σ : Int → Int} (h : RM s) (hB : sB 1000 B) (p : Pg e s) : Pg e (llS s B σ) := by
  have g1 : RM (muM s (bI (σ 7 < 20)) 4) := muM_ok h (by decide)
  have p1 : Pg e (muM s (bI (σ 7 < 20)) 4) := Pg_mu p
  have g3 : RM (muM (ll3 s B σ) (bI (lz σ (llf s B σ) = 0)) 2) := muM_ok (lkM_ok (goM_ok g1 hB)) (by decide)
  have p3 : Pg e (muM (ll3 s B σ) (bI (lz σ (llf s B σ) = 0)) 2) := Pg_mu (Pg_lk (Pg_go g1 p1))
  unfold llS
  split
  · split
    · exact Pg_go g3 p3
    · exact p3
  · exact p1
theorem Pg_ml {e : Int} {g B : Int → Int} (h : RM g) (hB : sB 1000 B) (p : Pg e g) : ∀ k : Nat, Pg e (mlS g B k) := by
  intro k
  induction k with
  | zero => exact p
  | succ k ih => exact Pg_go (muM_ok (lkM_ok (mlS_ok h hB k)) (by decide)) (Pg_mu (Pg_lk ih))
theorem Pg_ms {e : Int} {s B σ : Int → Int} (h : RM s) (hB : sB 1000 B) (p : Pg e s) : Pg e (msS s B σ) := by
  have g3 : RM (me3 s B σ) := muM_ok (lkM_ok (goM_ok h hB)) (by decide)
  have p3 : Pg e (me3 s B σ) := Pg_mu (Pg_lk (Pg_go h p))
  unfold msS
  split
  · exact Pg_ml (me5_ok h hB) hB (Pg_mu (Pg_go g3 p3)) _
  · exact p3
theorem sfS_go {s B σ : Int → Int} (h : RM s) (hB : sB 1000 B) (h2 : sfS s B σ 8 = 0) : s 5 + 1 ≤ sfS s B σ 5 := by
  have hw : s 6 = 1 → Pg (s 5) s := fun e => ⟨Int.le_refl _, fun f => absurd (e.symm.trans f) (by decide)⟩
  have hg := stS_ok (σ := σ) h hB
  by_cases c : stS s B σ 8 = 0 ∧ ¬ bI (stS s B σ 6 = 3) = 0
  · have p : Pg (s 5) (stS s B σ) := by
      have c8 := c.1
      unfold stS at c8 ⊢
      by_cases c1 : wdM s B sK1
      · rw [if_pos c1]; exact Pg_wl h hB (hw c1.2.1)
      · rw [if_neg c1] at c8 ⊢
        by_cases c2 : wdM s B sK2
        · rw [if_pos c2]; exact Pg_ms h hB (hw c2.2.1)
        · rw [if_neg c2] at c8 ⊢
          by_cases c3 : wdM s B sK3
          · rw [if_pos c3]; exact Pg_ll h hB (hw c3.2.1)
          · rw [if_neg c3] at c8
            exact absurd c8 (fM_8 (s := s) (k := 1) (by decide))
    have c3 := bI_n0.mp c.2
    have em : muM (stS s B σ) (bI (stS s B σ 6 = 3)) 1 = stS s B σ := if_neg c.2
    have q := p.2 c3
    have e : sfS s B σ = ntM (stS s B σ) B := by unfold sfS; rw [if_pos c, em]
    rw [e]
    exact Int.le_trans q (nt_mono hg)
  · exfalso
    have e : sfS s B σ = muM (stS s B σ) (bI (stS s B σ 6 = 3)) 1 := if_neg c
    rw [e] at h2
    unfold muM at h2
    by_cases d : bI (stS s B σ 6 = 3) = 0
    · rw [if_pos d] at h2
      exact fM_8 (by decide) h2
    · rw [if_neg d] at h2
      exact c ⟨h2, d⟩

end Pure14
