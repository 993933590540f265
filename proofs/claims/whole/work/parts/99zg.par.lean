section ParT
theorem rl_1 {f bu : Int → Int} {K : Int → Int → Int64} : rlR f bu K 1 = f 1 := by
  unfold rlR
  split
  · rw [fl_1]; exact tn_1
  · exact tn_1
theorem rw_1 {f bu : Int → Int} : rwR f bu 1 = f 1 := by
  unfold rwR
  rw [tn_1]; exact rw3_1
theorem rm_1 {f bu : Int → Int} {F : Int → Int → Int} : rmR f bu F 1 = f 1 := by
  have e : rm4 f bu F 1 = f 1 := by unfold rm4; rw [rmI_1]; exact rm3_1
  unfold rmR
  split
  · rw [fl_1, tn_1]; exact e
  · exact e
theorem rs_1 {f bu : Int → Int} {F : Int → Int → Int} {K : Int → Int → Int64} : rsR f bu F K 1 = f 1 := by
  unfold rsR
  by_cases c1 : isWd f bu sK1
  · rw [if_pos c1, rw_1]; exact av_1
  · rw [if_neg c1]
    by_cases c2 : isWd f bu sK2
    · rw [if_pos c2, rm_1]; exact av_1
    · rw [if_neg c2]
      by_cases c3 : isWd f bu sK3
      · rw [if_pos c3, rl_1, av_1]
        unfold rs3
        split
        · rfl
        · exact fl_1
      · rw [if_neg c3]; exact fl_1
theorem ts_7 {f bu : Int → Int} (h : tsR f bu 7 = 0) : f 7 = 0 := by
  apply Classical.byContradiction
  intro c
  unfold tsR at h
  rw [if_neg (fun g => c g.1), TD_fl c] at h
  exact c h
theorem it_TR {bu B : Int → Int} {ln : Int} {x : TX} {y : PX} (hbu : sB 1000 bu) (hB : sB 1000 B) (hb : BE bu B ln) (h1 : TR x.1 y.1) (h2 : PR x.2.1 x.2.2 y.2) (h3 : RO x.1) (h4 : RM y.1) (h5 : x.1 1 = ln) : ∀ n : Nat, (∀ j : Nat, j < n → (itT bu x j).1 7 = 0) → TR (itT bu x n).1 (paI B y n).1 ∧ ((itT bu x n).1 7 = 0 → PR (itT bu x n).2.1 (itT bu x n).2.2 (paI B y n).2) ∧ RO (itT bu x n).1 ∧ RM (paI B y n).1 ∧ (itT bu x n).1 1 = ln := by
  intro n
  induction n with
  | zero => exact fun _ => ⟨h1, fun _ => h2, h3, h4, h5⟩
  | succ n ih =>
    intro hg
    obtain ⟨i1, i2, i3, i4, i5⟩ := ih (fun j hj => hg j (by omega))
    have e7 := hg n (by omega)
    have ta := TR_TA i1 e7
    obtain ⟨T, X⟩ := st_TR i3 i4 hbu hB (by rw [i5]; exact hb) ta (i2 e7)
    have ro := rsR_ok (F := (itT bu x n).2.1) (K := (itT bu x n).2.2) i3 hbu
    refine ⟨?_, fun a => X (ts_7 (bu := bu) a), tsR_ok ro hbu, sfS_ok i4 hB, ?_⟩
    · exact ts_TR ro (by rw [rs_1, i5]; exact hb) T
    · show tsR _ bu 1 = ln
      rw [ts_1, rs_1]; exact i5
theorem pa_k {bu B : Int → Int} {ln : Int} {x : TX} {y : PX} (hbu : sB 1000 bu) (hB : sB 1000 B) (hb : BE bu B ln) (h1 : TR x.1 y.1) (h2 : PR x.2.1 x.2.2 y.2) (h3 : RO x.1) (h4 : RM y.1) (h5 : x.1 1 = ln) : paK B y = itN bu x ∧ ∀ j : Nat, j < itN bu x → (itT bu x j).1 7 = 0 := by
  have I := it_TR hbu hB hb h1 h2 h3 h4 h5
  obtain ⟨s1, s2⟩ := skN_s (p := fun n : Nat => ¬ (n < 700 ∧ (itT bu x n).1 7 = 0 ∧ ¬ (itT bu x n).1 3 = 0)) 700
  have hle : itN bu x ≤ 700 := skN_le _
  obtain ⟨N, hN⟩ : ∃ N, N = itN bu x := ⟨_, rfl⟩
  have hN' : skN (fun n : Nat => ¬ (n < 700 ∧ (itT bu x n).1 7 = 0 ∧ ¬ (itT bu x n).1 3 = 0)) 700 = N := hN.symm
  rw [hN'] at s1 s2
  rw [← hN] at hle ⊢
  have go : ∀ j : Nat, j < N → (itT bu x j).1 7 = 0 ∧ ¬ (itT bu x j).1 3 = 0 := fun j hj => (Classical.not_not.mp (s1 j hj)).2
  refine ⟨skN_w hle (fun j hj a => ?_) ?_, fun j hj => (go j hj).1⟩
  · have g := go j hj
    have ta := TR_TA (I j (fun i hi => (go i (by omega)).1)).1 g.1
    exact a ⟨ta.2.1, by rw [← ta.2.2.2.2.1]; exact g.2⟩
  · rcases s2 with s2 | s2
    · by_cases c : N < 700
      · left
        intro a
        have T := (I N (fun i hi => (go i hi).1)).1
        refine s2 ⟨c, ?_⟩
        rcases T with T | T
        · exact ⟨T.1, by rw [T.2.2.2.2.1]; exact a.2⟩
        · exact absurd a.1 T.2.1
      · right; omega
    · right; exact s2
/-- the first line's numbers -/
theorem em_at {σ : Int → Int} (h : ∀ j, j < 0 ∨ 441 ≤ j → σ j = 0) (j : Int) : emF σ j = if j = 32 then 4 else if j = 21 then 4 else 0 := by
  unfold emF up
  by_cases c : j = 32
  · rw [if_pos c, if_pos c]
  · rw [if_neg c, if_neg c]
    by_cases d : j = 21
    · rw [if_pos d, if_pos d]
    · rw [if_neg d, if_neg d]
      unfold zrF
      by_cases e : 0 ≤ j ∧ j < 441
      · rw [if_pos e]
      · rw [if_neg e]; exact h j (by omega)
theorem PR_0 {σ : Int → Int} {p q : Int} (h : ∀ j, j < 0 ∨ 441 ≤ j → σ j = 0) (hp : 1 ≤ p ∧ p ≤ 7) (hq : 1 ≤ q ∧ q ≤ 99) : PR (up liI 0 (up (up (liI 0) 4 p) 5 q)) (fun _ _ => 0) (up (up (emF σ) 4 p) 5 q) := by
  have E := em_at h
  refine ⟨?_, ?_, ?_, ?_⟩
  · have g := GOOD_set GOOD_S0 hp hq
    have e : up (up S0 4 p) 5 q = knF (up (up (emF σ) 4 p) 5 q) := by
      funext j
      unfold knF up
      rw [S0_at, E]
      (repeat' split) <;> first | rfl | omega
    rw [← e]
    exact g
  · rw [up_n (by decide), up_n (by decide), E]; rfl
  · rw [up_n (by decide), up_n (by decide), E]; rfl
  · rw [up_n (by decide), up_n (by decide), E]; rfl
theorem J_lim {σ : Int → Int} (h : J σ) {j v : Int} (hj : j = 25 ∨ j = 36) (hv : 0 ≤ v ∧ v ≤ 29) : J (up σ j v) := by
  obtain ⟨h0, h1, h2, h3, h4, h5, h6⟩ := h
  simp only [J0, JS, JA, JP, Int.reduceAdd] at h0 h1 h2 h3 h4
  refine ⟨?_, ?_, ?_, ?_, ?_, JR_c h5 (fun i a => up_n (by omega)), by rw [up_n (by omega)]; exact h6⟩
  all_goals
    simp only [J0, JS, JA, JP, Int.reduceAdd]
    rcases hj with rfl | rfl <;>
      simp only [up, Int.reduceEq, if_true, if_false] <;>
      first
      | assumption
      | (refine ⟨?_, ?_, ?_, ?_, ?_, ?_, ?_, ?_, ?_, ?_⟩ <;> omega)
theorem PR_end {x : TX} {σ : Int → Int} (h : PR x.2.1 x.2.2 σ) : GOOD (pdF x) x.2.2 (up (up σ 25 (σ 32)) 36 (σ 21)) := by
  have hg := h.1
  have n1 : x.2.1 1 3 = σ 21 := by
    have t := hg.1.1.2.1 3 (by decide) (by decide)
    rw [t]; exact kn_at (by decide) (by decide)
  have n2 : x.2.1 2 3 = σ 32 := by
    have t := hg.1.1.2.2.1 3 (by decide) (by decide)
    rw [t]; exact kn_at (by decide) (by decide)
  have j1 := hg.2.1.2.1
  have j2 := hg.2.1.2.2.1
  simp only [JS, Int.reduceAdd] at j1 j2
  have k21 : knF σ 21 = σ 21 := kn_at (by decide) (by decide)
  have k32 : knF σ 32 = σ 32 := kn_at (by decide) (by decide)
  rw [k21] at j1
  rw [k32] at j2
  have ja : J (up (knF σ) (18 + 11 * 0 + 7) (σ 32)) := J_lim hg.2.1 (by decide) (by omega)
  have g1 := GOOD_chg hg (s := 0) (p := 7) (Or.inl rfl) (by decide) ja
  have jb : J (up (up (knF σ) (18 + 11 * 0 + 7) (σ 32)) (18 + 11 * 1 + 7) (σ 21)) := J_lim ja (by decide) (by omega)
  have g2 := GOOD_chg g1 (s := 1) (p := 7) (Or.inr rfl) (by decide) jb
  have e : up (up (knF σ) (18 + 11 * 0 + 7) (σ 32)) (18 + 11 * 1 + 7) (σ 21) = up (up σ 25 (σ 32)) 36 (σ 21) := by
    funext j
    unfold knF up
    simp only [Int.reduceAdd, Int.reduceMul]
    (repeat' split) <;> first | rfl | omega
  rw [e] at g2
  unfold pdF
  rw [n2, n1]
  exact g2
theorem rs_06 {f bu : Int → Int} {F : Int → Int → Int} {K : Int → Int → Int64} : rsF f bu F K 0 6 = F 0 6 := by
  unfold rsF
  by_cases c1 : isWd f bu sK1
  · rw [if_pos c1]
    unfold rwF
    split
    · rw [up_n (by decide)]
    · rw [up_n (by decide)]
  · rw [if_neg c1]
    by_cases c2 : isWd f bu sK2
    · rw [if_pos c2]
      unfold rmF
      split
      · rfl
      · split
        · rw [up_n (by decide), up_n (by decide)]
        · rw [up_n (by decide), up_n (by decide)]
    · rw [if_neg c2]
      by_cases c3 : isWd f bu sK3
      · rw [if_pos c3]
        unfold rlF tLF
        split
        · rw [up_s, up_n (by decide)]
        · rfl
      · rw [if_neg c3]
theorem it_06 {bu : Int → Int} {x : TX} : ∀ n : Nat, (itT bu x n).2.1 0 6 = x.2.1 0 6 := by
  intro n
  induction n with
  | zero => rfl
  | succ n ih => show rsF _ bu _ _ 0 6 = _; rw [rs_06]; exact ih
/-- a text, read by class and reference -/
theorem pa_TR {f s bu B σ : Int → Int} {ln : Int} (ho : RO f) (hm : RM s) (hbu : sB 1000 bu) (hB : sB 1000 B) (hb : BE bu B ln) (hln : 0 ≤ ln ∧ ln ≤ 700) (hl : ln ≤ s 2 ∧ s 2 ≤ 700) (hs : sB 1000000 σ) (hj : ∀ j, j < 0 ∨ 441 ≤ j → σ j = 0) : TR (paT f bu ln liI (fun _ _ => 0)).1 (paE s B σ ln).1 ∧ ((paT f bu ln liI (fun _ _ => 0)).1 7 = 0 → GOOD (pdF (paT f bu ln liI (fun _ _ => 0))) (paT f bu ln liI (fun _ _ => 0)).2.2 (up (up (paE s B σ ln).2 25 ((paE s B σ ln).2 32)) 36 ((paE s B σ ln).2 21))) ∧ RO (paT f bu ln liI (fun _ _ => 0)).1 ∧ pdF (paT f bu ln liI (fun _ _ => 0)) 0 6 = 0 ∧ RM (paE s B σ ln).1 := by
  obtain ⟨a1, a2, a3, a4, a5⟩ := hd_TR (σ := σ) (F := liI) (K := fun _ _ => 0) (s := s) ho hbu hb hln
  have w1 := hdW_ok ho hbu hln
  have v1 := tnV_in (p := 1) (q := 7) w1 (by decide)
  have v2 := tnV_in (p := 1) (q := 99) (tnR_ok (p := 1) (q := 7) w1 hbu (by decide)) (by decide)
  have m1 := (paX_ok (n := ln) hm hB ⟨hln.1, hl.1⟩ ⟨by omega, hl.2⟩ hs).1
  have p1 : PR (hdT f bu ln liI (fun _ _ => 0)).2.1 (hdT f bu ln liI (fun _ _ => 0)).2.2 (paX s B σ ln).2 := by
    have t := PR_0 hj v1 v2
    have e : (paX s B σ ln).2 = up (up (emF σ) 4 (tnV (hdW f bu ln) 1 7)) 5 (tnV (tnR (hdW f bu ln) bu 1 7) 1 99) := by
      rw [a2, a3]
      rfl
    rw [e]
    exact t
  have hlen : (hdT f bu ln liI (fun _ _ => 0)).2.1 0 6 = 0 := rfl
  have ep : paT f bu ln liI (fun _ _ => 0) = itT bu (hdT f bu ln liI (fun _ _ => 0)) (itN bu (hdT f bu ln liI (fun _ _ => 0))) := paT_e
  have ee : paE s B σ ln = paI B (paX s B σ ln) (paK B (paX s B σ ln)) := by rw [paE]
  rw [ep, ee]
  generalize hdT f bu ln liI (fun _ _ => 0) = x at a1 a4 a5 p1 hlen
  generalize paX s B σ ln = y at a1 m1 p1
  obtain ⟨k1, k2⟩ := pa_k hbu hB hb a1 p1 a4 m1 a5
  rw [k1]
  obtain ⟨i1, i2, i3, i4, i5⟩ := it_TR hbu hB hb a1 p1 a4 m1 a5 (itN bu x) k2
  refine ⟨i1, fun a => PR_end (i2 a), i3, ?_, i4⟩
  show itT bu x (itN bu x) |>.2.1 0 6 = 0
  rw [it_06]
  exact hlen
/- the places of the reference that a text leaves -/
theorem fr_f {s : Int → Int} {k j : Int} (h : j ≠ 8) (h9 : j ≠ 9) : fM s k j = s j := by
  unfold fM
  split
  · rw [up_n h9, up_n h]
  · rfl
theorem fr_mu {s : Int → Int} {c k j : Int} (h : j ≠ 8) (h9 : j ≠ 9) : muM s c k j = s j := by
  unfold muM
  split
  · exact fr_f h h9
  · rfl
theorem fr_nt {s B : Int → Int} {j : Int} (h : j < 4 ∨ 10 ≤ j) : ntM s B j = s j := nt_n (by omega) (by omega) (by omega) (by omega)
theorem fr_go {s B : Int → Int} {j : Int} (h : j < 4 ∨ 10 ≤ j) : goM s B j = s j := by
  unfold goM
  split
  · exact fr_nt h
  · rfl
theorem fr_lk {s : Int → Int} {p q j : Int} (h : j < 4 ∨ 10 ≤ j) : lkM s p q j = s j := by
  unfold lkM
  (repeat' split)
  · rfl
  · exact fr_f (by omega) (by omega)
  · exact fr_f (by omega) (by omega)
theorem fr_tk {s B : Int → Int} {p q j : Int} (h : j < 4 ∨ 10 ≤ j) : tkM s B p q j = s j := by
  unfold tkM
  rw [fr_go h, fr_lk h]
theorem fr_stS {s B σ : Int → Int} {j : Int} (h : j < 4 ∨ 10 ≤ j) (h17 : j ≠ 17) (h18 : j ≠ 18) : stS s B σ j = s j := by
  have w3 : wl3 s B j = s j := by unfold wl3 wl2; rw [fr_mu (by omega) (by omega), fr_lk h, fr_go h]
  have m3 : me3 s B σ j = s j := by unfold me3 wl2; rw [fr_mu (by omega) (by omega), fr_lk h, fr_go h]
  have m5 : me5 s B σ j = s j := by unfold me5; rw [fr_mu (by omega) (by omega), fr_go h, m3]
  have ml : ∀ k : Nat, mlS (me5 s B σ) B k j = s j := by
    intro k
    induction k with
    | zero => exact m5
    | succ k ih => show goM _ B j = _; rw [fr_go h, fr_mu (by omega) (by omega), fr_lk h]; exact ih
  unfold stS
  by_cases c1 : wdM s B sK1
  · rw [if_pos c1]
    unfold wlS
    split
    · rw [fr_tk h, fr_go h, wl4_at h17 h18]; exact w3
    · exact w3
  · rw [if_neg c1]
    by_cases c2 : wdM s B sK2
    · rw [if_pos c2]
      unfold msS
      split
      · exact ml _
      · exact m3
    · rw [if_neg c2]
      by_cases c3 : wdM s B sK3
      · rw [if_pos c3]
        unfold llS ll3
        (repeat' split)
        · rw [fr_go h, fr_mu (by omega) (by omega), fr_lk h, fr_go h, fr_mu (by omega) (by omega)]
        · rw [fr_mu (by omega) (by omega), fr_lk h, fr_go h, fr_mu (by omega) (by omega)]
        · rw [fr_mu (by omega) (by omega)]
      · rw [if_neg c3, fr_mu (by omega) (by omega)]
theorem fr_sf {s B σ : Int → Int} {j : Int} (h : j < 4 ∨ 10 ≤ j) (h17 : j ≠ 17) (h18 : j ≠ 18) : sfS s B σ j = s j := by
  unfold sfS
  split
  · rw [fr_nt h, fr_mu (by omega) (by omega)]; exact fr_stS h h17 h18
  · rw [fr_mu (by omega) (by omega)]; exact fr_stS h h17 h18
theorem fr_pa {s B σ : Int → Int} {n j : Int} (h : j < 4 ∨ 10 ≤ j) (h17 : j ≠ 17) (h18 : j ≠ 18) : (paE s B σ n).1 j = paH s n j := by
  have e2 : pa2 s B n j = paH s n j := by unfold pa2; rw [fr_mu (by omega) (by omega), fr_nt h]
  have e5 : pa5 s B n j = paH s n j := by unfold pa5 pa4 pa3; rw [fr_tk h, fr_tk h, fr_go h]; exact e2
  have ex : (paX s B σ n).1 j = paH s n j := by
    show (if _ then _ else _ : Int → Int) j = _
    split
    · rw [fr_nt h, fr_mu (by omega) (by omega)]; exact e5
    · rw [fr_mu (by omega) (by omega)]; exact e5
  have ei : ∀ k : Nat, (paI B (paX s B σ n) k).1 j = paH s n j := by
    intro k
    induction k with
    | zero => exact ex
    | succ k ih => show sfS _ B _ j = _; rw [fr_sf h h17 h18]; exact ih
  have ee : paE s B σ n = paI B (paX s B σ n) (paK B (paX s B σ n)) := by rw [paE]
  rw [ee]
  exact ei _
end ParT
