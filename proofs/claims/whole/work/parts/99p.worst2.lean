section Worst2
variable {F : Int → Int → Int} {K : Int → Int → Int64} {σ : Int → Int}
theorem it_09 {rd : Int} : ∀ n : Nat, itL rd K F n 0 9 = F 0 9 := by
  intro n
  induction n with
  | zero => rfl
  | succ n ih =>
    show spL K (rdL rd (itL rd K F n)) 0 9 = _
    rw [fr_sp 0 9 (by unfold Rl; omega)]
    unfold rdL
    split <;> exact ih
theorem it_50 {rd : Int} (hr : rd = 0 ∨ rd = 1) (h : REL F K σ) (hj : J σ) (n : Nat) : itL rd K F n 5 0 = σ 3 + n := by
  have r := (REL_itB hr h hj n).1.2.2.2 0 (by decide) (by decide)
  have j := (J_itB hr hj n).2.2.2.2.1.1
  rw [r, show (8 + 0 : Int) = 8 from rfl, j, itB_3 hr hj]
theorem woT_eq (h : GOOD F K σ) (n : Nat) : woT K F n = lrL (itL 1 K (foZ (σ 3 + n) F) n) := by
  obtain ⟨r, j, h4, h7, h3, _, h9, _⟩ := h
  have h30 := j.2.2.2.2.2.2
  refine woT_it (it_50 (Or.inr rfl) r j n) (fun i hi => ?_)
  rw [it_50 (Or.inr rfl) r j i, it_09, h9]
  exact ⟨by omega, by omega⟩
theorem foZ_fo {f : Int} (h : GOOD F K σ) : foF f (σ 4) F = foZ f F := by
  have e4 : F 0 4 = σ 4 := h.1.1.1.2.2.1
  rw [← e4, foF_l]
  rfl
theorem GOOD_hwo (h : GOOD F K σ) : ∀ n : Nat, n < 600 → FOK 1 K (woT K F n) (600 - (n : Int)) := by
  intro n hn
  have h3 := h.2.2.2.2.1
  have h30 := h.2.1.2.2.2.2.2.2
  have h41 := h.2.1.1.2.2.2.1
  obtain ⟨r, j, g⟩ := GOOD_lost (lost := σ 3 + n) (b := σ 4) h h41 ⟨by omega, by omega⟩
  rw [foZ_fo h] at r
  have ri := REL_it (rd := 1) (Or.inr rfl) r j n
  have ji := J_it (r := 1) (Or.inr rfl) (J_rdS (rd := 1) j) n
  rw [rdL_1, ← woT_eq h n] at ri
  have i3 := it_3 (r := 1) (Or.inr rfl) (J_rdS (rd := 1) j) n
  have r3 : rdS 1 (gsF 0 (σ 3 + n) (σ 4) σ) 3 = gsF 0 (σ 3 + n) (σ 4) σ 3 := rfl
  have g3 : gsF 0 (σ 3 + n) (σ 4) σ 3 = σ 3 := gs_3 h.2.1.1.2.2.2.2.2.1
  exact REL_FOK (Or.inr rfl) ri ji (by rw [i3, r3, g3]; omega) (by omega)
/-- one of the delays that worstFrame compares -/
theorem woD_eq (h : GOOD F K σ) {n : Nat} (hN : (enK 1 K F 600 : Int) ≤ 600) (hn : n < enK 1 K F 600) : (¬ enV 1 K (woT K F n) (600 - (n : Int)) = -1 ↔ goO 1 (σ 3 + n) (σ 4) σ) ∧ (goO 1 (σ 3 + n) (σ 4) σ → woD K F n = deF (σ 3 + n) σ) := by
  have hG := h
  obtain ⟨r, j, h4, h7, h3, _, h9, _⟩ := h
  have h30 := j.2.2.2.2.2.2
  have h41 := j.1.2.2.2.1
  have hno := (skN_s (p := fun i => ovL (itL 1 K F i)) (600 + 1 : Int).toNat).1
  have eK : enK 1 K F 600 = skN (fun i => ovL (itL 1 K F i)) (600 + 1 : Int).toNat := rfl
  rw [← eK] at hno
  have hw := woT_eq hG n
  have hz : ∀ i : Nat, i ≤ n → itL 1 K (foZ (σ 3 + n) F) i = foZ (σ 3 + n) (itL 1 K F i) := fun i hi => foZ_it i (fun q hq => by
    rw [it_50 (Or.inr rfl) r j q, it_09, h9]
    exact ⟨by omega, by omega⟩)
  have hnz : ∀ i : Nat, i ≤ n → ¬ ovL (itL 1 K (foZ (σ 3 + n) F) i) := fun i hi x => by
    rw [hz i hi] at x
    exact hno i (by omega) x
  have en := woT_en (by omega) hw (fun i hi => hnz i (by omega))
  have f := fore_eq (rd := 1) (lost := σ 3 + n) (b := σ 4) (Or.inr rfl) r j h9 h7 ⟨by omega, by omega⟩ h41
  have f1 := fore_eq (rd := 1) (lost := -1) (b := σ 4) (Or.inr rfl) r j h9 h7 (by decide) h41
  have e4 : F 0 4 = σ 4 := r.1.1.2.2.1
  rw [foZ_fo hG] at f
  rw [← e4, foF_id h9, e4] at f1
  have iff1 : ¬ enV 1 K (woT K F n) (600 - (n : Int)) = -1 ↔ goO 1 (σ 3 + n) (σ 4) σ := by
    rw [enV_n, f.1, en]
    omega
  refine ⟨iff1, fun hg => ?_⟩
  have c := f.1.mp hg
  have t1 := (f.2 c).2
  have t2 := (f1.2 hN).2
  have g1 : goO 1 (-1) (σ 4) σ := f1.1.mpr hN
  have hd : deF (σ 3 + n) σ = goT 1 (σ 3 + n) (σ 4) σ - goT 1 (-1) (σ 4) σ := by
    unfold deF
    rw [if_pos g1, if_pos hg]
  have hk0 : enK 1 K (woT K F n) (600 - (n : Int)) ≠ 0 := fun e0 => by
    have s := (skN_s (p := fun i => ovL (itL 1 K (foZ (σ 3 + n) F) i)) (600 + 1 : Int).toNat).2
    have eZ : enK 1 K (foZ (σ 3 + n) F) 600 = skN (fun i => ovL (itL 1 K (foZ (σ 3 + n) F) i)) (600 + 1 : Int).toNat := rfl
    rw [← eZ, en, e0] at s
    rcases s with x | x
    · exact hnz n (Nat.le_refl _) x
    · have : n + 0 = 601 := x
      omega
  have hit : itL 1 K (woT K F n) (enK 1 K (woT K F n) (600 - (n : Int))) = itL 1 K (foZ (σ 3 + n) F) (enK 1 K (foZ (σ 3 + n) F) 600) := by
    rw [en]
    generalize enK 1 K (woT K F n) (600 - (n : Int)) = k at hk0
    cases k with
    | zero => exact absurd rfl hk0
    | succ k => rw [hw, itL_lr, itL_add]
  have tz : tkL 1 K (foZ (σ 3 + n) F) = tmL (itL 1 K (foZ (σ 3 + n) F) (enK 1 K (foZ (σ 3 + n) F) 600)) - tmL (foZ (σ 3 + n) F) := if_pos c
  have tf : tkL 1 K F = tmL (itL 1 K F (enK 1 K F 600)) - tmL F := if_pos hN
  have tmz : tmL (foZ (σ 3 + n) F) = tmL F := rfl
  unfold woD
  rw [hit, hd, t1, t2, tz, tf, tmz]
  omega
/-- what the reference's list of lost frames is, in a run -/
theorem it_lz {r : Int} {τ : Int → Int} (hr : r = 0 ∨ r = 1) (h : J τ) {f : Int} : ∀ n : Nat, lz (itF r τ n) f = lz τ f := by
  intro n
  induction n with
  | zero => rfl
  | succ n ih =>
    have hj := J_it hr h n
    have e : ∀ j, j = 7 ∨ 400 ≤ j → stepF r (itF r τ n) j = itF r τ n j := fun j hj' => by
      rw [stepF_r hr]
      have : rdS r (stepF 0 (itF r τ n)) j = stepF 0 (itF r τ n) j := by
        unfold rdS
        split
        · rfl
        · unfold rdF; rw [up_n (by omega), up_n (by omega)]
      rw [this]; exact step_hi hj (by omega)
    show lz (stepF r (itF r τ n)) f = _
    rw [lz_c (e 7 (by omega)) (fun j hj' => e j (by omega)), ih]
theorem gs_m1 (hj : J σ) : gsF 1 (-1) (σ 4) σ = rdF σ := by
  have h3 := hj.2.2.2.2.2.2
  have g3 : gs1 1 (σ 4) σ 3 = σ 3 := gs1_at (by decide) (by decide) (by decide)
  unfold gsF
  rw [if_pos (by omega)]
  unfold gs1
  rw [if_neg (by decide), up_id rfl]
theorem gs_told (hj : J σ) {f : Int} (hf : σ 3 ≤ f) (hl : ¬ lz σ f = 0) : gsF 1 f (σ 4) σ = rdF σ := by
  have g3 : gs1 1 (σ 4) σ 3 = σ 3 := gs1_at (by decide) (by decide) (by decide)
  have e : gs1 1 (σ 4) σ = rdF σ := by
    unfold gs1
    rw [if_neg (by decide), up_id rfl]
  have el : lz (rdF σ) f = lz σ f := lz_c rfl (fun j hj' => by unfold rdF; rw [up_n (by omega), up_n (by omega)])
  unfold gsF
  rw [if_neg (by omega), e, if_neg (by rw [el]; exact hl)]
/-- some delay is told that is no -10001, or none that is told is one -/
theorem worst_c (h : GOOD F K σ) (hN : (enK 1 K F 600 : Int) ≤ 600) : (∃ n : Nat, n < enK 1 K F 600 ∧ goO 1 (σ 3 + n) (σ 4) σ ∧ -10001 < deF (σ 3 + n) σ) ∨ ∀ n : Nat, n < enK 1 K F 600 → goO 1 (σ 3 + n) (σ 4) σ → deF (σ 3 + n) σ ≠ -10001 := by
  obtain ⟨r, j, h4, h7, h3, _, h9, _⟩ := h
  have h30 := j.2.2.2.2.2.2
  have h41 := j.1.2.2.2.1
  have e4 : F 0 4 = σ 4 := r.1.1.2.2.1
  have f1 := fore_eq (rd := 1) (lost := -1) (b := σ 4) (Or.inr rfl) r j h9 h7 (by decide) h41
  rw [← e4, foF_id h9, e4] at f1
  have g1 : goO 1 (-1) (σ 4) σ := f1.1.mpr hN
  have gk := (f1.2 hN).1
  by_cases c : ∃ n : Nat, n < enK 1 K F 600 ∧ ¬ lz σ (σ 3 + n) = 0
  · obtain ⟨n, hn, hl⟩ := c
    have e : gsF 1 (σ 3 + n) (σ 4) σ = gsF 1 (-1) (σ 4) σ := by rw [gs_told j (by omega) hl, gs_m1 j]
    have go : goO 1 (σ 3 + n) (σ 4) σ := by
      show isOverP _
      rw [e]; exact g1
    refine Or.inl ⟨n, hn, go, ?_⟩
    have gt : goT 1 (σ 3 + n) (σ 4) σ = goT 1 (-1) (σ 4) σ := by unfold goT; rw [e]
    unfold deF
    rw [if_pos g1, if_pos go, gt]
    omega
  · refine Or.inr (fun n hn go => ?_)
    have no : ∀ i : Nat, i < enK 1 K F 600 → ¬ isOverP (itF 1 (rdF σ) i) ∧ lz (itF 1 (rdF σ) i) (itF 1 (rdF σ) i 3) = 0 := fun i hi => by
      refine ⟨fun x => ?_, ?_⟩
      · have hno := (skN_s (p := fun q => ovL (itL 1 K F q)) (600 + 1 : Int).toNat).1 i hi
        have rB := REL_itB (rd := 1) (Or.inr rfl) r j i
        have jB := J_itB (rd := 1) (Or.inr rfl) j i
        refine hno ((ov_eq rB jB).mpr ?_)
        have er : rdF σ = rdS 1 σ := rfl
        rw [er, itB_r (Or.inr rfl), over_rd] at x
        exact x
      · rw [it_lz (Or.inr rfl) (J_rd j), it_3 (Or.inr rfl) (J_rd j)]
        rw [lz_c (σ := σ) (τ := rdF σ) rfl (fun q hq => by unfold rdF; rw [up_n (by omega), up_n (by omega)])]
        exact Classical.byContradiction (fun y => c ⟨i, hi, y⟩)
    have L := lossless j h4 (enK 1 K F 600) no
    have t0 : goT 1 (-1) (σ 4) σ = itF 1 (rdF σ) (enK 1 K F 600) 0 - σ 0 := by
      unfold goT
      rw [gk, gs_m1 j]
    have tf := goT_0 (rd := 1) (lost := σ 3 + n) (b := σ 4) (Or.inr rfl) j h7 ⟨by omega, by omega⟩ h41
    unfold deF
    rw [if_pos g1, if_pos go]
    omega
theorem worst_eq (h : GOOD F K σ) : wsL K F = wfF σ := by
  have hG := h
  obtain ⟨r, j, h4, h7, h3, _, h9, _⟩ := h
  have h30 := j.2.2.2.2.2.2
  have h41 := j.1.2.2.2.1
  have e4 : F 0 4 = σ 4 := r.1.1.2.2.1
  have f1 := fore_eq (rd := 1) (lost := -1) (b := σ 4) (Or.inr rfl) r j h9 h7 (by decide) h41
  rw [← e4, foF_id h9, e4] at f1
  unfold wsL wfF
  by_cases hN : (enK 1 K F 600 : Int) ≤ 600
  · have g1 : goO 1 (-1) (σ 4) σ := f1.1.mpr hN
    have gk := (f1.2 hN).1
    have ev : enV 1 K F 600 = (enK 1 K F 600 : Int) := if_pos hN
    have hD := fun (n : Nat) (hn : n < enK 1 K F 600) => woD_eq hG hN hn
    have hdn : ∀ n : Nat, n < enK 1 K F 600 → ¬ goO 1 (σ 3 + n) (σ 4) σ → deF (σ 3 + n) σ = -10001 := fun n _ x => by
      unfold deF
      rw [if_pos g1, if_neg x]
    have cC := fun (n : Nat) (hn : n < enK 1 K F 600) => show woL K F (n + 1) = if goO 1 (σ 3 + n) (σ 4) σ ∧ ((woL K F n).1 = -1 ∨ (woL K F n).2 < deF (σ 3 + n) σ) then (σ 3 + (n : Int), deF (σ 3 + n) σ) else woL K F n from by
      have d := hD n hn
      have f50 : lrL (itL 1 K F n) 5 0 = σ 3 + n := it_50 (Or.inr rfl) r j n
      by_cases x : goO 1 (σ 3 + n) (σ 4) σ
      · have y := d.1.mpr x
        have w := d.2 x
        by_cases z : (woL K F n).1 = -1 ∨ (woL K F n).2 < deF (σ 3 + n) σ
        · rw [if_pos ⟨x, z⟩]
          refine (if_pos ⟨y, by rw [w]; exact z⟩).trans ?_
          rw [f50, w]
        · rw [if_neg (fun q => z q.2)]
          exact if_neg (fun q => z (by rw [← w]; exact q.2))
      · rw [if_neg (fun q => x q.1)]
        exact if_neg (fun q => x (d.1.mp q.1))
    have cM := fun (n : Nat) => show wfB σ (n + 1) = if deF (σ 3 + n) σ = -10001 ∨ (¬ (wfB σ n).1 = -1 ∧ deF (σ 3 + n) σ ≤ (wfB σ n).2) then wfB σ n else (σ 3 + (n : Int), deF (σ 3 + n) σ) from rfl
    have main : (woL K F (enK 1 K F 600)).1 = (wfB σ (enK 1 K F 600)).1 := by
      rcases worst_c hG hN with ⟨n0, hn0, go0, gt0⟩ | hB
      · have P : ∀ n : Nat, n ≤ enK 1 K F 600 → (∀ i : Nat, i < n → goO 1 (σ 3 + i) (σ 4) σ → (woL K F n).1 ≠ -1 ∧ deF (σ 3 + i) σ ≤ (woL K F n).2) ∧ (woL K F n = wfB σ n ∨ ((woL K F n).1 ≠ -1 ∧ (woL K F n).2 ≤ -10001 ∧ ((wfB σ n).1 = -1 ∨ (wfB σ n).2 ≤ -10001))) := by
          intro n
          induction n with
          | zero => intro _; exact ⟨fun i hi => absurd hi (Nat.not_lt_zero i), Or.inl rfl⟩
          | succ n ih =>
            intro hn
            obtain ⟨i1, i2⟩ := ih (by omega)
            have c1 := cC n (by omega)
            have c2 := cM n
            by_cases x : goO 1 (σ 3 + n) (σ 4) σ ∧ ((woL K F n).1 = -1 ∨ (woL K F n).2 < deF (σ 3 + n) σ)
            · rw [if_pos x] at c1
              rw [c1]
              refine ⟨fun i hi gi => ⟨by show σ 3 + (n : Int) ≠ -1; omega, ?_⟩, ?_⟩
              · show deF (σ 3 + i) σ ≤ deF (σ 3 + n) σ
                by_cases e : i = n
                · rw [e]; exact Int.le_refl _
                · have q := i1 i (by omega) gi
                  rcases x.2 with y | y
                  · exact absurd y q.1
                  · omega
              · by_cases m : deF (σ 3 + n) σ = -10001 ∨ (¬ (wfB σ n).1 = -1 ∧ deF (σ 3 + n) σ ≤ (wfB σ n).2)
                · rw [if_pos m] at c2
                  rw [c2]
                  refine Or.inr ⟨by show σ 3 + (n : Int) ≠ -1; omega, ?_, ?_⟩
                  · show deF (σ 3 + n) σ ≤ -10001
                    rcases m with m | m
                    · omega
                    · rcases i2 with e | ⟨_, q2, q3⟩
                      · rw [e] at x
                        rcases x.2 with y | y
                        · exact absurd y m.1
                        · omega
                      · rcases q3 with y | y
                        · exact absurd y m.1
                        · omega
                  · rcases m with m | m
                    · rcases i2 with e | ⟨_, _, q3⟩
                      · rw [e] at x
                        rcases x.2 with y | y
                        · exact Or.inl y
                        · exact Or.inr (by omega)
                      · exact q3
                    · rcases i2 with e | ⟨_, _, q3⟩
                      · rw [e] at x
                        rcases x.2 with y | y
                        · exact absurd y m.1
                        · omega
                      · exact q3
                · rw [if_neg m] at c2
                  rw [c2]
                  exact Or.inl rfl
            · rw [if_neg x] at c1
              rw [c1]
              refine ⟨fun i hi gi => ?_, ?_⟩
              · by_cases e : i = n
                · rw [e] at gi ⊢
                  exact ⟨fun y => x ⟨gi, Or.inl y⟩, Int.not_lt.mp (fun y => x ⟨gi, Or.inr y⟩)⟩
                · exact i1 i (by omega) gi
              · by_cases m : deF (σ 3 + n) σ = -10001 ∨ (¬ (wfB σ n).1 = -1 ∧ deF (σ 3 + n) σ ≤ (wfB σ n).2)
                · rw [if_pos m] at c2
                  rw [c2]; exact i2
                · rw [if_neg m] at c2
                  have gi : goO 1 (σ 3 + n) (σ 4) σ := Classical.byContradiction (fun y => m (Or.inl (hdn n (by omega) y)))
                  have y1 : ¬ (woL K F n).1 = -1 := fun y => x ⟨gi, Or.inl y⟩
                  have y2 : ¬ (woL K F n).2 < deF (σ 3 + n) σ := fun y => x ⟨gi, Or.inr y⟩
                  rcases i2 with e | ⟨q1, q2, q3⟩
                  · rw [e] at y1 y2
                    exact absurd (Or.inr ⟨y1, Int.not_lt.mp y2⟩) m
                  · rw [c2]
                    exact Or.inr ⟨q1, q2, Or.inr (by show deF (σ 3 + n) σ ≤ -10001; omega)⟩
        obtain ⟨p1, p2⟩ := P _ (Nat.le_refl _)
        rcases p2 with e | ⟨_, q2, _⟩
        · rw [e]
        · have := (p1 n0 hn0 go0).2
          omega
      · have P : ∀ n : Nat, n ≤ enK 1 K F 600 → woL K F n = wfB σ n := by
          intro n
          induction n with
          | zero => intro _; rfl
          | succ n ih =>
            intro hn
            have i := ih (by omega)
            rw [cC n (by omega), cM n, i]
            by_cases x : goO 1 (σ 3 + n) (σ 4) σ
            · have d := hB n (by omega) x
              by_cases m : ¬ (wfB σ n).1 = -1 ∧ deF (σ 3 + n) σ ≤ (wfB σ n).2
              · rw [if_neg (fun q => q.2.elim m.1 (fun y => by omega)), if_pos (Or.inr m)]
              · rw [if_pos ⟨x, by
                  by_cases y : (wfB σ n).1 = -1
                  · exact Or.inl y
                  · exact Or.inr (Int.not_le.mp (fun z => m ⟨y, z⟩))⟩, if_neg (fun q => q.elim d m)]
            · rw [if_neg (fun q => x q.1), if_pos (Or.inl (hdn n (by omega) x))]
        rw [P _ (Nat.le_refl _)]
    rw [if_pos g1, gk, ev]
    by_cases z : (enK 1 K F 600 : Int) ≤ 0
    · rw [if_pos z, show enK 1 K F 600 = 0 by omega]
      rfl
    · rw [if_neg z]; exact main
  · have ng : ¬ goO 1 (-1) (σ 4) σ := fun x => hN (f1.1.mp x)
    rw [if_neg ng, if_pos (by unfold enV; rw [if_neg hN]; decide)]
end Worst2
