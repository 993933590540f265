section Fore2
theorem gs_rd {rd lost b : Int} {σ : Int → Int} (h7 : 0 ≤ σ 7) : gsF rd lost b σ = rdS rd (gsF 0 lost b σ) := by
  by_cases hr : rd = 0
  · subst hr; exact (if_pos rfl).symm
  · have e1 : gs1 rd b σ = rdF (gs1 0 b σ) := by
      unfold gs1
      rw [if_neg hr, if_pos rfl]
    have e3 : rdF (gs1 0 b σ) 3 = gs1 0 b σ 3 := rfl
    have e7 : rdF (gs1 0 b σ) 7 = gs1 0 b σ 7 := rfl
    have g7 : gs1 0 b σ 7 = σ 7 := gs1_at (by decide) (by decide) (by decide)
    have el : lz (rdF (gs1 0 b σ)) lost = lz (gs1 0 b σ) lost := lz_c rfl (fun j hj => by unfold rdF; rw [up_n (by omega), up_n (by omega)])
    unfold gsF rdS
    rw [if_neg hr, e1, e3, e7, el]
    by_cases c : lost < gs1 0 b σ 3
    · rw [if_pos c, if_pos c]
    · rw [if_neg c, if_neg c]
      by_cases d : lz (gs1 0 b σ) lost = 0
      · rw [if_pos d, if_pos d, g7]
        have x1 : up (up (gs1 0 b σ) (400 + σ 7) lost) 7 (σ 7 + 1) 19 = gs1 0 b σ 19 := by rw [up_n (by decide), up_n (by omega)]
        have x2 : up (up (gs1 0 b σ) (400 + σ 7) lost) 7 (σ 7 + 1) 30 = gs1 0 b σ 30 := by rw [up_n (by decide), up_n (by omega)]
        funext j
        unfold rdF
        rw [x1, x2]
        by_cases j31 : j = 31
        · subst j31; rw [up_n (by decide), up_n (by omega), up_s, up_s]
        · by_cases j20 : j = 20
          · subst j20; rw [up_n (by decide), up_n (by omega), up_n (by decide), up_s, up_n (by decide), up_s]
          · rw [up_n (f := up (up (up (gs1 0 b σ) (400 + σ 7) lost) 7 (σ 7 + 1)) 20 (gs1 0 b σ 19)) j31, up_n (f := up (up (gs1 0 b σ) (400 + σ 7) lost) 7 (σ 7 + 1)) j20]
            unfold up
            split
            · rfl
            · split
              · rfl
              · rfl
      · rw [if_neg d, if_neg d]
theorem lz_app {σ : Int → Int} {f lost : Int} (h7 : 0 ≤ σ 7) : lz (up (up σ (400 + σ 7) lost) 7 (σ 7 + 1)) f = if lost = f then 1 else lz σ f := by
  have e : ∀ n : Nat, (n : Int) ≤ σ 7 → lostN (up (up σ (400 + σ 7) lost) 7 (σ 7 + 1)) f n = lostN σ f n := by
    intro n
    induction n with
    | zero => intro _; rfl
    | succ n ih =>
      intro hn
      show (if up (up σ (400 + σ 7) lost) 7 (σ 7 + 1) (400 + (n : Int)) = f then 1 else lostN (up (up σ (400 + σ 7) lost) 7 (σ 7 + 1)) f n) = (if σ (400 + (n : Int)) = f then 1 else lostN σ f n)
      rw [up_n (by omega), up_n (by omega), ih (by omega)]
  unfold lz
  rw [show up (up σ (400 + σ 7) lost) 7 (σ 7 + 1) 7 = σ 7 + 1 from up_s, lostK_s h7, up_n (show (400 + σ 7 : Int) ≠ 7 by omega), up_s]
  unfold lostK
  rw [e _ (by omega)]
theorem RT_t {F X : Int → Int → Int} {K : Int → Int → Int64} {σ τ : Int → Int} (h : RT F K σ) (hj : J σ) (h3 : X 3 = F 3) (h4 : X 4 = F 4) (e : ∀ j, (j = 18 ∨ j = 29 ∨ (40 ≤ j ∧ j < 400)) → τ j = σ j) : RT X K τ := by
  have m18 := hj.2.1.1
  have m29 := hj.2.2.1.1
  have hl := hj.2.2.2.2.2.1.1
  obtain ⟨a, b, c, d⟩ := h
  refine ⟨fun m m0 m1 => ?_, fun m m0 m1 => ?_, fun m k m0 m1 k0 k1 => ?_, fun m k m0 m1 k0 k1 => ?_⟩
  · rw [e 18 (by omega)] at m1
    rw [h3, e _ (by omega)]; exact a m m0 m1
  · rw [e 29 (by omega)] at m1
    rw [h4, e _ (by omega)]; exact b m m0 m1
  · rw [e 18 (by omega)] at m1
    rw [e _ (by omega)] at k1
    have := hl (40 + m) (by omega) (by omega)
    rw [e _ (by omega)]; exact c m k m0 m1 k0 k1
  · rw [e 29 (by omega)] at m1
    rw [e _ (by omega)] at k1
    have := hl (60 + m) (by omega) (by omega)
    rw [e _ (by omega)]; exact d m k m0 m1 k0 k1
/-- a Line that a forecast starts from -/
def foF (lost b : Int) (F : Int → Int → Int) : Int → Int → Int := up F 0 (up (up (F 0) 4 b) 9 lost)
theorem REL_gs {F : Int → Int → Int} {K : Int → Int → Int64} {σ : Int → Int} {lost b : Int} (h : REL F K σ) (hj : J σ) (h9 : F 0 9 = -1) (hl : -10000 ≤ lost ∧ lost ≤ 10000) : REL (foF lost b F) K (gsF 0 lost b σ) := by
  obtain ⟨hn, ht, hk, hb⟩ := h
  have h7 := hj.1.2.2.2.2.2.1
  have h3 := hj.2.2.2.2.2.2
  have g7 : gs1 0 b σ 7 = σ 7 := gs1_at (by decide) (by decide) (by decide)
  have g3 : gs1 0 b σ 3 = σ 3 := gs1_at (by decide) (by decide) (by decide)
  have e4 : gsF 0 lost b σ 4 = b := by
    have : gs1 0 b σ 4 = b := by unfold gs1; rw [if_pos rfl]; exact up_s
    unfold gsF
    split
    · exact this
    · split
      · rw [up_n (by decide), up_n (by omega)]; exact this
      · exact this
  have ee : ∀ j, j < 400 → j ≠ 4 → j ≠ 7 → gsF 0 lost b σ j = σ j := fun j a c d => by
    have g : gs1 0 b σ j = σ j := by unfold gs1; rw [if_pos rfl]; exact up_n c
    unfold gsF
    split
    · exact g
    · split
      · rw [up_n d, up_n (by omega)]; exact g
      · exact g
  obtain ⟨⟨q1, q2, q4, q5, q6⟩, n1, n2, n5⟩ := hn
  have lz1 : ∀ f, lz (gs1 0 b σ) f = lz σ f := fun f => lz_c g7 (fun j hj => by unfold gs1; rw [if_pos rfl]; exact up_n (by omega))
  refine ⟨⟨⟨?_, ?_, ?_, ?_, ?_⟩, fun p p0 p1 => ?_, fun p p0 p1 => ?_, fun i i0 i1 => ?_⟩, RT_t ht hj rfl rfl (fun j hj' => ee j (by omega) (by omega) (by omega)), fun f f0 => ?_, hb.1, hb.2.1, fun i j c => ?_⟩
  · rw [ee 1 (by decide) (by decide) (by decide)]; exact q1
  · rw [ee 2 (by decide) (by decide) (by decide)]; exact q2
  · rw [e4]; rfl
  · rw [ee 5 (by decide) (by decide) (by decide)]; exact q5
  · rw [ee 6 (by decide) (by decide) (by decide)]; exact q6
  · rw [ee _ (by omega) (by omega) (by omega)]; exact n1 p p0 p1
  · rw [ee _ (by omega) (by omega) (by omega)]; exact n2 p p0 p1
  · rw [ee _ (by omega) (by omega) (by omega)]; exact n5 i i0 i1
  · rw [ee 3 (by decide) (by decide) (by decide)] at f0
    have k := hk f f0
    rw [h9] at k
    show (tlL (K 2) f ∨ f = lost) ↔ _
    have kk : tlL (K 2) f ↔ ¬ lz σ f = 0 := ⟨fun x => k.mp (Or.inl x), fun x => (k.mpr x).resolve_right (by omega)⟩
    unfold gsF
    by_cases c : lost < gs1 0 b σ 3
    · rw [if_pos c, lz1, ← kk]
      rw [g3] at c
      exact ⟨fun x => x.resolve_right (by omega), Or.inl⟩
    · rw [if_neg c, lz1]
      rw [g3] at c
      by_cases d : lz σ lost = 0
      · rw [if_pos d, lz_app (by omega), lz1, kk]
        by_cases ef : lost = f
        · rw [if_pos ef]; exact ⟨fun _ => by decide, fun _ => Or.inr ef.symm⟩
        · rw [if_neg ef]; exact ⟨fun x => x.resolve_right (fun y => ef y.symm), Or.inl⟩
      · rw [if_neg d, lz1, kk]
        refine ⟨fun x => x.elim id (fun y => by rw [y]; exact d), Or.inl⟩
  · by_cases c0 : i = 0
    · subst c0
      show -10000 ≤ up (up (F 0) 4 b) 9 lost j ∧ up (up (F 0) 4 b) 9 lost j ≤ 10000
      by_cases j9 : j = 9
      · subst j9; rw [up_s]; exact hl
      · rw [up_n j9, up_n (fun g => c (Or.inl ⟨rfl, by omega⟩))]
        exact hb.2.2 0 j c
    · rw [show foF lost b F i j = F i j by unfold foF; rw [up_n c0]]
      exact hb.2.2 i j c
theorem ov_eq {F : Int → Int → Int} {K : Int → Int → Int64} {σ : Int → Int} (h : REL F K σ) (hj : J σ) : ovL F ↔ isOverP σ := by
  have a0 := h.1.2.1 0 (by decide) (by decide)
  have a1 := h.1.2.1 1 (by decide) (by decide)
  have b0 := h.1.2.2.1 0 (by decide) (by decide)
  have b1 := h.1.2.2.1 1 (by decide) (by decide)
  have x := hj.2.1.2.1
  have y := hj.2.2.1.2.1
  simp only [Int.reduceAdd] at a0 a1 b0 b1 x y
  unfold ovL isOverP
  rw [a0, a1, b0, b1]
  omega
theorem over_rd {rd : Int} {σ : Int → Int} : isOverP (rdS rd σ) ↔ isOverP σ := by
  unfold rdS
  split
  · exact Iff.rfl
  · exact Iff.rfl
theorem tm_eq {F : Int → Int → Int} {K : Int → Int → Int64} {σ : Int → Int} (h : REL F K σ) (hj : J σ) : tmL F = σ 0 := by
  have a := h.1.2.2.2 6 (by decide) (by decide)
  have b := h.1.2.2.2 8 (by decide) (by decide)
  have c := hj.2.2.2.2.1.2.2.2.2.2.2.2.2.2.2
  simp only [Int.reduceAdd] at a b
  unfold tmL
  omega
theorem gs_0 {lost b : Int} {σ : Int → Int} (h7 : 0 ≤ σ 7) : gsF 0 lost b σ 0 = σ 0 := by
  have g : gs1 0 b σ 0 = σ 0 := gs1_at (by decide) (by decide) (by decide)
  have g7 : gs1 0 b σ 7 = σ 7 := gs1_at (by decide) (by decide) (by decide)
  unfold gsF
  split
  · exact g
  · split
    · rw [up_n (by decide), up_n (by omega)]; exact g
    · exact g
theorem fore_eq {F : Int → Int → Int} {K : Int → Int → Int64} {σ : Int → Int} {rd lost b : Int} (hr : rd = 0 ∨ rd = 1) (h : REL F K σ) (hj : J σ) (h9 : F 0 9 = -1) (h7 : σ 7 ≤ 40) (hl : -10000 ≤ lost ∧ lost ≤ 10000) (hb : 0 ≤ b ∧ b ≤ 7) :
    (goO rd lost b σ ↔ (enK rd K (foF lost b F) 600 : Int) ≤ 600) ∧ ((enK rd K (foF lost b F) 600 : Int) ≤ 600 → goK rd (gsF rd lost b σ) = enK rd K (foF lost b F) 600 ∧ goT rd lost b σ = tkL rd K (foF lost b F)) := by
  have h70 := hj.1.2.2.2.2.2.1
  have r0 := REL_gs (lost := lost) (b := b) h hj h9 hl
  have j0 := J_gs (rd := 0) (lost := lost) hj h7 hl hb
  have rB := REL_itB hr r0 j0
  have jB := J_itB hr j0
  have eo : ∀ n : Nat, ovL (itL rd K (foF lost b F) n) ↔ isOverP (itF rd (gsF rd lost b σ) n) := fun n => by
    rw [gs_rd h70, itB_r hr, over_rd]
    exact ov_eq (rB n) (jB n)
  have ks := skN_s (p := fun j => ovL (itL rd K (foF lost b F) j)) (600 + 1 : Int).toNat
  have kl := skN_le (p := fun j => ovL (itL rd K (foF lost b F) j)) (600 + 1 : Int).toNat
  have ek : enK rd K (foF lost b F) 600 = skN (fun j => ovL (itL rd K (foF lost b F) j)) (600 + 1 : Int).toNat := rfl
  rw [← ek] at ks kl
  generalize hk : enK rd K (foF lost b F) 600 = k at ks kl ⊢
  have k1 : k ≤ 601 := kl
  by_cases c : (k : Int) ≤ 600
  · have ov : isOverP (itF rd (gsF rd lost b σ) k) := (eo k).mp (by
      rcases ks.2 with x | x
      · exact x
      · have : k = 601 := x
        omega)
    have eg : k = goK rd (gsF rd lost b σ) := goK_u (by omega) (fun j hjk => fun x => ks.1 j hjk ((eo j).mpr x)) (Or.inl ov)
    refine ⟨⟨fun _ => c, fun _ => ?_⟩, fun _ => ⟨eg.symm, ?_⟩⟩
    · rw [goO, ← eg]; exact ov
    · have t1 : tmL (itL rd K (foF lost b F) k) = itB rd (gsF 0 lost b σ) k 0 := tm_eq (rB k) (jB k)
      have t0 : tmL (foF lost b F) = σ 0 := (tm_eq r0 j0).trans (gs_0 h70)
      unfold goT tkL
      have r0' : ∀ τ : Int → Int, rdS rd τ 0 = τ 0 := fun τ => by unfold rdS; split <;> rfl
      rw [hk, if_pos c, ← eg, t1, t0, gs_rd h70, itB_r hr, r0']
  · have k601 : k = 601 := by omega
    have no : ∀ j : Nat, j ≤ 600 → ¬ isOverP (itF rd (gsF rd lost b σ) j) := fun j hj' x => ks.1 j (by omega) ((eo j).mpr x)
    have eg : 600 = goK rd (gsF rd lost b σ) := goK_u (Nat.le_refl _) (fun j hj' => no j (by omega)) (Or.inr rfl)
    refine ⟨⟨fun x => ?_, fun x => absurd x c⟩, fun x => absurd x c⟩
    rw [goO, ← eg] at x
    exact absurd x (no 600 (Nat.le_refl _))
end Fore2
