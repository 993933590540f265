section Fore
theorem REL_rd {F : Int → Int → Int} {K : Int → Int → Int64} {σ : Int → Int} (h : REL F K σ) : REL (lrL F) K (rdF σ) := by
  obtain ⟨hn, ht, hk, hb⟩ := h
  have e : ∀ j, j ≠ 20 → j ≠ 31 → rdF σ j = σ j := fun j a b => by unfold rdF; rw [up_n b, up_n a]
  have fr : FrL (lrL F) F := FrL.u (FrL.u FrL.rf (up_fr (by unfold Rl; omega) id_fr)) (up_fr (by unfold Rl; omega) id_fr)
  refine ⟨⟨hn.1, fun p p0 p1 => ?_, fun p p0 p1 => ?_, fun i i0 i1 => ?_⟩, RT_c ht rfl rfl (fun j hj => e j (by omega) (by omega)), fun f f0 => ?_, RB_c hb fr⟩
  · by_cases c : p = 2
    · subst c; exact hn.2.1 1 (by decide) (by decide)
    · rw [e _ (by omega) (by omega), show lrL F 1 p = F 1 p from up_n c]
      exact hn.2.1 p p0 p1
  · by_cases c : p = 2
    · subst c; exact hn.2.2.1 1 (by decide) (by decide)
    · rw [e _ (by omega) (by omega), show lrL F 2 p = F 2 p from up_n c]
      exact hn.2.2.1 p p0 p1
  · rw [e _ (by omega) (by omega)]
    exact hn.2.2.2 i i0 i1
  · rw [lz_c (σ := σ) (e 7 (by decide) (by decide)) (fun j hj => e j (by omega) (by omega))]
    rw [e 3 (by decide) (by decide)] at f0
    exact hk f f0
def rdS (rd : Int) (σ : Int → Int) : Int → Int := if rd = 0 then σ else rdF σ
theorem stepF_r {r : Int} {σ : Int → Int} (hr : r = 0 ∨ r = 1) : stepF r σ = rdS r (stepF 0 σ) := by
  rcases hr with rfl | rfl
  · exact (if_pos rfl).symm
  · rw [stepF_1]; exact (if_neg (by decide)).symm
theorem REL_rdS {rd : Int} {F : Int → Int → Int} {K : Int → Int → Int64} {σ : Int → Int} (h : REL F K σ) : REL (rdL rd F) K (rdS rd σ) := by
  unfold rdL rdS
  split
  · exact h
  · exact REL_rd h
theorem J_rdS {rd : Int} {σ : Int → Int} (h : J σ) : J (rdS rd σ) := by
  unfold rdS
  split
  · exact h
  · exact J_rd h
/-- the run of a forecast -/
theorem REL_it {rd : Int} {F : Int → Int → Int} {K : Int → Int → Int64} {σ : Int → Int} (hr : rd = 0 ∨ rd = 1) (h : REL F K σ) (hj : J σ) : ∀ n : Nat, REL (rdL rd (itL rd K F n)) K (itF rd (rdS rd σ) n) := by
  intro n
  induction n with
  | zero => exact REL_rdS h
  | succ n ih =>
    show REL (rdL rd (spL K (rdL rd (itL rd K F n)))) K (stepF rd (itF rd (rdS rd σ) n))
    rw [stepF_r hr]
    exact REL_rdS (REL_step ih (J_it hr (J_rdS hj) n))
/-- .. before the hosts read -/
def itB (rd : Int) (σ : Int → Int) : Nat → Int → Int
  | 0 => σ
  | n + 1 => stepF 0 (itF rd (rdS rd σ) n)
theorem itB_r {rd : Int} {σ : Int → Int} (hr : rd = 0 ∨ rd = 1) : ∀ n : Nat, itF rd (rdS rd σ) n = rdS rd (itB rd σ n) := by
  intro n
  cases n with
  | zero => rfl
  | succ n => exact stepF_r hr
theorem J_itB {rd : Int} {σ : Int → Int} (hr : rd = 0 ∨ rd = 1) (hj : J σ) : ∀ n : Nat, J (itB rd σ n) := by
  intro n
  cases n with
  | zero => exact hj
  | succ n => exact J_step (J_it hr (J_rdS hj) n)
theorem REL_itB {rd : Int} {F : Int → Int → Int} {K : Int → Int → Int64} {σ : Int → Int} (hr : rd = 0 ∨ rd = 1) (h : REL F K σ) (hj : J σ) : ∀ n : Nat, REL (itL rd K F n) K (itB rd σ n) := by
  intro n
  cases n with
  | zero => exact h
  | succ n => exact REL_step (REL_it hr h hj n) (J_it hr (J_rdS hj) n)
theorem itB_3 {rd : Int} {σ : Int → Int} (hr : rd = 0 ∨ rd = 1) (hj : J σ) (n : Nat) : itB rd σ n 3 = σ 3 + n := by
  have r3 : ∀ τ : Int → Int, rdS rd τ 3 = τ 3 := fun τ => by unfold rdS; split <;> rfl
  have e := it_3 hr (J_rdS (rd := rd) hj) n
  rw [itB_r hr, r3, r3] at e
  exact e
theorem REL_B {F : Int → Int → Int} {K : Int → Int → Int64} {σ : Int → Int} (h : REL F K σ) (hj : J σ) (h3 : σ 3 ≤ 5000) : ∀ i, sB 1000000 (F i) := by
  intro i j
  have hB := J_B hj h3
  obtain ⟨⟨⟨q1, q2, q4, q5, q6⟩, n1, n2, n5⟩, ht, hk, hb⟩ := h
  by_cases c : Rl i j
  · rcases c with ⟨rfl, rfl | rfl | rfl | rfl | rfl⟩ | ⟨rfl | rfl, h0, h1⟩ | ⟨rfl, h0, h1⟩
    · rw [q1]; exact hB _
    · rw [q2]; exact hB _
    · rw [q4]; exact hB _
    · rw [q5]; exact hB _
    · rw [q6]; exact hB _
    · rw [n1 j h0 h1]; exact hB _
    · rw [n2 j h0 h1]; exact hB _
    · rw [n5 j h0 h1]; exact hB _
  · have := hb.2.2 i j c
    exact ⟨by omega, by omega⟩
theorem REL_OKL {F : Int → Int → Int} {K : Int → Int → Int64} {σ : Int → Int} (h : REL F K σ) (hj : J σ) (h3 : σ 3 ≤ 5000) : OKL F := by
  have hB := REL_B h hj h3
  have n := nm_eq h.1 hj.1.1
  have g := J_OKs hj h3
  have e := isD_eq h.1 hj
  have ed := dl_eq h.1 h.2.1 hj
  refine ⟨fun i => sB_mono (by decide) (hB i), ?_, fun c => ?_, fun c => ?_⟩
  · rw [h.1.1.1]; exact hj.1.1
  · have := dl_in hj
    rw [← ed, show dlL F = _ from if_pos c] at this
    exact this
  · have := g.2.2.2.1 (e.mp c)
    rw [n]
    exact ⟨by omega, by omega⟩
theorem REL_FOK {rd : Int} {F : Int → Int → Int} {K : Int → Int → Int64} {σ : Int → Int} (hr : rd = 0 ∨ rd = 1) (h : REL F K σ) (hj : J σ) (h3 : σ 3 ≤ 4000) {q : Int} (hq : q ≤ 600) : FOK rd K F q := by
  intro j hjq
  have rB := REL_itB hr h hj j
  have jB := J_itB hr hj j
  have b3 : itB rd σ j 3 ≤ 5000 := by rw [itB_3 hr hj]; omega
  refine ⟨fun i => sB_mono (by decide) (REL_B rB jB b3 i), ?_, ?_⟩
  · have r := REL_it hr h hj j
    have jj := J_it hr (J_rdS (rd := rd) hj) j
    refine REL_OKL r jj ?_
    rw [itB_r hr]
    have r3 : rdS rd (itB rd σ j) 3 = itB rd σ j 3 := by unfold rdS; split <;> rfl
    rw [r3]; exact b3
  · rw [rB.1.1.2.2.2.2]; exact jB.1.2.1
end Fore
