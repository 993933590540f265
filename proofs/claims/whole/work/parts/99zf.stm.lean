section StmT
theorem up_cm {α : Type} {f : Int → α} {i j : Int} {a b : α} (h : i ≠ j) : up (up f i a) j b = up (up f j b) i a := by
  funext k
  unfold up
  by_cases c : k = j
  · rw [if_pos c, if_neg (by omega), if_pos c]
  · rw [if_neg c]
    by_cases d : k = i
    · rw [if_pos d, if_pos d]
    · rw [if_neg d, if_neg d, if_neg c]
/-- the limits that are known at the start of a draft -/
def knF (σ : Int → Int) : Int → Int := up (up σ 25 4) 36 4
theorem kn_at {σ : Int → Int} {j : Int} (a : j ≠ 25) (b : j ≠ 36) : knF σ j = σ j := by
  unfold knF
  rw [up_n b, up_n a]
theorem kn_up {σ : Int → Int} {j v : Int} (a : j ≠ 25) (b : j ≠ 36) : up (knF σ) j v = knF (up σ j v) := by
  unfold knF
  rw [up_cm (Ne.symm b), up_cm (Ne.symm a)]
/-- a draft while it is read -/
def PR (F : Int → Int → Int) (K : Int → Int → Int64) (σ : Int → Int) : Prop := GOOD F K (knF σ) ∧ σ 3 = 0 ∧ σ 22 = 0 ∧ σ 33 = 0
theorem PR_wl {F : Int → Int → Int} {K : Int → Int → Int64} {σ : Int → Int} (h : PR F K σ) {s v : Int} (hs : s = 0 ∨ s = 1) (hv : 1 ≤ v ∧ v ≤ 9) : PR (up F (1 + s) (up (F (1 + s)) 3 v)) K (up σ (18 + 11 * s + 3) v) := by
  obtain ⟨h1, h2, h3, h4⟩ := h
  refine ⟨?_, ?_, ?_, ?_⟩
  · rw [← kn_up (by omega) (by omega)]
    refine GOOD_chg h1 hs (by decide) ?_
    rcases hs with rfl | rfl
    · refine J_chg h1.2.1 (by decide) (by omega) (by omega) (fun _ => ?_) (by omega) (by omega) (by omega)
      rw [kn_at (by decide) (by decide), h3]
      exact ⟨by omega, by omega⟩
    · refine J_chg h1.2.1 (by decide) (by omega) (by omega) (by omega) (fun _ => ?_) (by omega) (by omega)
      rw [kn_at (by decide) (by decide), h4]
      exact ⟨by omega, by omega⟩
  · rw [up_n (by omega)]; exact h2
  · rw [up_n (by omega)]; exact h3
  · rw [up_n (by omega)]; exact h4
theorem PR_ms {F : Int → Int → Int} {K : Int → Int → Int64} {σ : Int → Int} {b : Int64} (h : PR F K σ) {s q : Int} (hs : 0 ≤ s ∧ s ≤ 1) (hq : 1 ≤ q ∧ q ≤ 8) (hm : 0 ≤ σ (18 + 11 * s) ∧ σ (18 + 11 * s) < 20) : PR (up (up F (1 + s) (adF (F (1 + s)))) (3 + s) (adL (F (1 + s)) (F (3 + s)) q)) (up K s (adC (F (1 + s)) (K s) b)) (ptF b s q σ) := by
  obtain ⟨h1, h2, h3, h4⟩ := h
  have hs2 : s = 0 ∨ s = 1 := by omega
  have e : knF σ (18 + 11 * s) = σ (18 + 11 * s) := kn_at (by omega) (by omega)
  have P := pt_at (b := b) hs2 hm hq
  have u : ∀ i, (i < 40 ∧ i ≠ 18 + 11 * s) → ptF b s q σ i = σ i := fun i c => by
    rw [P, if_neg (by omega), if_neg (by omega), if_neg (by omega)]
  refine ⟨?_, ?_, ?_, ?_⟩
  · have g := GOOD_put (b := b) h1 hs hq (by rw [e]; exact hm.2)
    have ee : ptF b s q (knF σ) = knF (ptF b s q σ) := by
      funext j
      rw [pt_at hs2 (by rw [e]; exact hm) hq, e]
      by_cases c : j = 25 ∨ j = 36
      · rw [if_neg (by omega), if_neg (by omega), if_neg (by omega)]
        rcases c with rfl | rfl <;> rfl
      · rw [kn_at (σ := ptF b s q σ) (by omega) (by omega), P, kn_at (σ := σ) (by omega) (by omega)]
    rw [← ee]
    exact g
  · rw [u 3 (by omega)]; exact h2
  · rw [u 22 (by omega)]; exact h3
  · rw [u 33 (by omega)]; exact h4
theorem lz_kn {σ : Int → Int} {f : Int} : lz (knF σ) f = lz σ f := lz_c (kn_at (by decide) (by decide)) (fun i c => kn_at (by omega) (by omega))
theorem PR_ll {F : Int → Int → Int} {K : Int → Int → Int64} {σ : Int → Int} (h : PR F K σ) {f : Int} (hf : 0 ≤ f ∧ f < 2000) (hl : lz σ f = 0) (h40 : 0 ≤ σ 7 ∧ σ 7 < 20) : PR (tLF K f F) (tLK f K) (up (up σ (400 + σ 7) f) 7 (σ 7 + 1)) := by
  obtain ⟨h1, h2, h3, h4⟩ := h
  have e3 : knF σ 3 = σ 3 := kn_at (by decide) (by decide)
  have e7 : knF σ 7 = σ 7 := kn_at (by decide) (by decide)
  refine ⟨?_, ?_, ?_, ?_⟩
  · have g := GOOD_los h1 hf (by rw [e3]; omega) (by rw [lz_kn]; exact hl) (by rw [e7]; omega)
    rw [e7, kn_up (by omega) (by omega), kn_up (by decide) (by decide)] at g
    exact g
  · rw [up_n (by decide), up_n (by omega)]; exact h2
  · rw [up_n (by decide), up_n (by omega)]; exact h3
  · rw [up_n (by decide), up_n (by omega)]; exact h4
/-- a lost frame -/
theorem ll_TR {g s bu B σ : Int → Int} {K : Int → Int → Int64} (ho : RO g) (hb : BE bu B (g 1)) (h : TA g (goM s B)) (c20 : σ 7 < 20) (hs : s 8 = 0) (hK : ∀ f, 0 ≤ f → (tlL (K 2) f ↔ ¬ lz σ f = 0)) : TR (rlR g bu K) (llS s B σ) ∧ (rlR g bu K 7 = 0 → tnV g 0 499 = llf s B σ ∧ lz σ (llf s B σ) = 0 ∧ ll3 s B σ 8 = 0) := by
  have V := tn_V (p := 0) (q := 499) (Or.inl h : TR g (goM s B))
  have W := tn_2 (p := 0) (q := 499) ho hb h
  have em : muM s (bI (σ 7 < 20)) 4 = s := by rw [bI_t c20, mu_1]
  have e1 : llf s B σ = lkV (goM s B) 0 499 := by unfold llf; rw [em]
  have e3 : ll3 s B σ = lkM (goM s B) 0 499 := by unfold ll3; rw [em]
  have eS : llS s B σ = if ll3 s B σ 8 = 0 ∧ ¬ bI (lz σ (llf s B σ) = 0) = 0 then goM (muM (ll3 s B σ) (bI (lz σ (llf s B σ) = 0)) 2) B else muM (ll3 s B σ) (bI (lz σ (llf s B σ) = 0)) 2 := by
    unfold llS
    rw [if_pos ⟨hs, by rw [bI_t c20]; decide⟩]
  rw [eS, e3]
  rw [← e1] at V
  have V1 := tnV_in (p := 0) (q := 499) ho (by decide)
  have k := hK (tnV g 0 499) V1.1
  rw [V] at k
  rcases W with ⟨c8, el, g3, en, ta⟩ | ⟨c8, td⟩
  · rw [el]
    rw [el] at c8
    have g6 : avR (up g 6 (g 4)) bu 6 = g 4 := by rw [av_n (by decide) (by decide) (by decide) (by decide), up_s]
    by_cases z : lz σ (llf s B σ) = 0
    · have er : rlR g bu K = avR (up g 6 (g 4)) bu := by
        unfold rlR
        rw [V, if_neg (fun a => k.mp a z), en]
      rw [er, bI_t z, mu_1, if_pos ⟨c8, by decide⟩, go_a c8]
      exact ⟨Or.inl ta, fun _ => ⟨V, z, c8⟩⟩
    · have er : rlR g bu K = flR (avR (up g 6 (g 4)) bu) (g 4) 2 := by
        unfold rlR
        rw [V, if_pos (k.mpr z), en, g6]
      rw [er, bI_f z, mu_0, if_neg (fun a => a.2 rfl)]
      have t1 : TD (flR (avR (up g 6 (g 4)) bu) (g 4) 2) (fM (goM s B) 2) := fl_TD ta.1 c8 h.2.2.2.1 ho.1.1 (by decide)
      exact ⟨Or.inr t1, fun a => absurd a t1.1⟩
  · rw [if_neg (fun a => c8 a.1), TD_mu c8]
    have t1 : TD (rlR g bu K) (lkM (goM s B) 0 499) := by
      unfold rlR
      split
      · exact TD_f td
      · exact td
    exact ⟨Or.inr t1, fun a => absurd a t1.1⟩
theorem TD_rl {g s bu : Int → Int} {K : Int → Int → Int64} (h : TD g s) : TD (rlR g bu K) s := by
  unfold rlR
  split
  · exact TD_f (TD_tn h)
  · exact TD_tn h
/-- a statement -/
theorem st_TR {f s bu B σ : Int → Int} {F : Int → Int → Int} {K : Int → Int → Int64} (ho : RO f) (hm : RM s) (hbu : sB 1000 bu) (hB : sB 1000 B) (hb : BE bu B (f 1)) (h : TA f s) (hp : PR F K σ) : TR (rsR f bu F K) (stS s B σ) ∧ (rsR f bu F K 7 = 0 → PR (rsF f bu F K) (rsK f bu F K) (stN s B σ)) := by
  have w1 := wd_eq (b := sK1) ho hb h
  have w2 := wd_eq (b := sK2) ho hb h
  have w3 := wd_eq (b := sK3) ho hb h
  have og := avR_ok ho.one hbu
  have bg : BE bu B (avR f bu 1) := by rw [av_1]; exact hb
  have mg : RM (goM s B) := goM_ok hm hB
  have tg : f 3 ≠ 4 → TA (avR f bu) (goM s B) := fun h4 => by rw [go_a h.2.1]; exact nt_TA ho hb h h4
  have hg := hp.1
  have e7 : F 0 7 = σ 7 := by rw [hg.2.2.2.2.2.2.2.1]; exact kn_at (by decide) (by decide)
  have r7 : 0 ≤ σ 7 := by
    have t := hg.2.1.1.2.2.2.2.2.1
    rw [kn_at (by decide) (by decide)] at t
    exact t
  have r18 : 0 ≤ σ 18 ∧ σ 18 ≤ 20 := by
    have t := hg.2.1.2.1.1
    rw [kn_at (by decide) (by decide)] at t
    exact t
  have r29 : 0 ≤ σ 29 ∧ σ 29 ≤ 20 := by
    have t := hg.2.1.2.2.1.1
    rw [kn_at (by decide) (by decide)] at t
    exact t
  have m18 : F 1 0 = σ 18 := by
    have t := hg.1.1.2.1 0 (by decide) (by decide)
    rw [t]; exact kn_at (by decide) (by decide)
  have m29 : F 2 0 = σ 29 := by
    have t := hg.1.1.2.2.1 0 (by decide) (by decide)
    rw [t]; exact kn_at (by decide) (by decide)
  unfold rsR rsF rsK stS stN
  by_cases c1 : isWd f bu sK1
  · have ta := tg (by rw [c1.1]; decide)
    rw [if_pos c1, if_pos c1, if_pos c1, if_pos (w1.mp c1), if_pos (w1.mp c1)]
    obtain ⟨T, X⟩ := wl_TR og hbu mg bg ta
    refine ⟨T, fun a => ?_⟩
    obtain ⟨x1, x2, x3⟩ := X a
    have V1 := tnV_in (p := 0) (q := 1) og (by decide)
    have V9 := tnV_in (p := 1) (q := 9) (rw3_ok og hbu) (by decide)
    have hs : wlst s B = 0 ∨ wlst s B = 1 := by omega
    have P := PR_wl hp hs V9
    unfold rwF wlN
    rw [if_pos x2, x1, ← x3]
    rcases hs with e | e
    · rw [e] at P ⊢
      rw [if_pos rfl]
      exact P
    · rw [e] at P ⊢
      rw [if_neg (by decide)]
      exact P
  · rw [if_neg c1, if_neg c1, if_neg c1, if_neg (fun a => c1 (w1.mpr a)), if_neg (fun a => c1 (w1.mpr a))]
    by_cases c2 : isWd f bu sK2
    · have ta := tg (by rw [c2.1]; decide)
      rw [if_pos c2, if_pos c2, if_pos c2, if_pos (w2.mp c2), if_pos (w2.mp c2)]
      have V := tn_V (p := 0) (q := 1) (Or.inl ta : TR (avR f bu) (goM s B))
      have Ve : tnV (avR f bu) 0 1 = wlst s B := V
      have V1 := tnV_in (p := 0) (q := 1) og (by decide)
      have hs : wlst s B = 0 ∨ wlst s B = 1 := by omega
      have hF : (if tnV (avR f bu) 0 1 = 0 then F 1 0 else F 2 0) = σ (18 + 11 * wlst s B + 0) := by
        rw [Ve]
        rcases hs with e | e
        · rw [e, if_pos rfl]; exact m18
        · rw [e, if_neg (by decide)]; exact m29
      obtain ⟨T, X⟩ := me_TR og hbu bg ta hF
      refine ⟨T, fun a => ?_⟩
      have M := X a
      have hm0 : 0 ≤ σ (18 + 11 * wlst s B) ∧ σ (18 + 11 * wlst s B) < 20 := by
        have t := bI_n0.mp M.2.1.2
        rw [show 18 + 11 * wlst s B + 0 = 18 + 11 * wlst s B by omega] at t
        refine ⟨?_, t⟩
        rcases hs with e | e
        · rw [e]; exact r18.1
        · rw [e]; exact r29.1
      rw [ms_pt og hbu M hm0.1]
      have n7 : rmN (rm3 (avR f bu) bu F) bu ≤ 7 := skN_le _
      have P := PR_ms (b := rmB (rm3 (avR f bu) bu F) (tnV (rm2 (avR f bu) bu F) 0 255) bu (rmN (rm3 (avR f bu) bu F) bu)) hp (s := wlst s B) (q := (rmN (rm3 (avR f bu) bu F) bu : Int) + 1) (by omega) (by omega) hm0
      unfold rmF rmK
      have hna : ¬ ¬ rmR (avR f bu) bu F 7 = 0 := fun b => b a
      rw [if_neg hna, if_neg hna, Ve]
      rcases hs with e | e
      · rw [e] at P ⊢
        rw [if_pos rfl, if_pos rfl]
        exact P
      · rw [e] at P ⊢
        rw [if_neg (by decide), if_neg (by decide)]
        exact P
    · rw [if_neg c2, if_neg c2, if_neg c2, if_neg (fun a => c2 (w2.mpr a)), if_neg (fun a => c2 (w2.mpr a))]
      by_cases c3 : isWd f bu sK3
      · rw [if_pos c3, if_pos c3, if_pos c3, if_pos (w3.mp c3), if_pos (w3.mp c3)]
        unfold rs3
        rw [e7]
        by_cases c : σ 7 < 20
        · rw [if_pos c]
          have ta := tg (by rw [c3.1]; decide)
          obtain ⟨T, X⟩ := ll_TR (σ := σ) (K := K) og bg ta c h.2.1 (fun g hg0 => by rw [← lz_kn]; exact hg.2.2.2.2.2.2.2.2 g hg0)
          refine ⟨T, fun a => ?_⟩
          obtain ⟨x1, x2, x3⟩ := X a
          have V1 := tnV_in (p := 0) (q := 499) og (by decide)
          unfold rlF rlK llN
          rw [if_pos ⟨h.2.1, by rw [bI_t c]; decide⟩, if_pos ⟨x3, by rw [bI_t x2]; decide⟩, x1]
          exact PR_ll hp (by omega) x2 ⟨r7, c⟩
        · rw [if_neg c]
          have eS : llS s B σ = fM s 4 := by
            unfold llS
            rw [if_neg (fun a => a.2 (bI_f c)), bI_f c, mu_0]
          have t1 : TD (flR f (f 4) 4) (fM s 4) := fl_TD h.1 h.2.1 h.2.2.2.1 ho.1.1 (by decide)
          have t2 : TD (rlR (avR (flR f (f 4) 4) bu) bu K) (fM s 4) := TD_rl (TD_av t1)
          rw [eS]
          exact ⟨Or.inr t2, fun a => absurd a t2.1⟩
      · rw [if_neg c3, if_neg c3, if_neg c3, if_neg (fun a => c3 (w3.mpr a)), if_neg (fun a => c3 (w3.mpr a))]
        have t1 : TD (flR f (f 4) 1) (fM s 1) := fl_TD h.1 h.2.1 h.2.2.2.1 ho.1.1 (by decide)
        rw [mu_0]
        exact ⟨Or.inr t1, fun a => absurd a t1.1⟩
end StmT
