section MesT
theorem skN_w {p : Nat → Prop} [DecidablePred p] {m k : Nat} (hk : k ≤ m) (h1 : ∀ j, j < k → ¬ p j) (h2 : p k ∨ k = m) : skN p m = k := by
  have hl := skN_le (p := p) m
  obtain ⟨a, b⟩ := skN_s (p := p) m
  rcases Nat.lt_trichotomy (skN p m) k with h | h | h
  · rcases b with b | b
    · exact absurd b (h1 _ h)
    · omega
  · exact h
  · have c := a k h
    rcases h2 with d | d
    · exact absurd d c
    · omega
theorem TR_go {f s : Int → Int} (h : TR f s) : (f 7 = 0 ∧ f 3 = 2) ↔ (s 8 = 0 ∧ s 6 = 2) := by
  rcases h with h | h
  · rw [h.2.2.2.2.1]
    exact ⟨fun g => ⟨h.2.1, g.2⟩, fun g => ⟨h.1, g.2⟩⟩
  · exact ⟨fun g => absurd g.1 h.1, fun g => absurd g.1 h.2.1⟩
theorem TR_TA {f s : Int → Int} (h : TR f s) (h7 : f 7 = 0) : TA f s := by
  rcases h with h | h
  · exact h
  · exact absurd h7 h.1
theorem rmI_1 {g bu : Int → Int} : ∀ n : Nat, rmI g bu n 1 = g 1 := by
  intro n
  induction n with
  | zero => rfl
  | succ n ih => show tnR (rmI g bu n) bu 0 255 1 = _; rw [tn_1]; exact ih
theorem mlS_s {t B : Int → Int} {k : Nat} (hk : k < 8) : mlS t B (k + 1) = tkM (mlS t B k) B 0 255 := by
  show goM (muM (lkM (mlS t B k) 0 255) (bI ((k : Int) < 8)) 4) B = _
  rw [bI_t (by omega), mu_1]
  rfl
/-- the numbers behind the first -/
theorem ml_TR {g t bu B : Int → Int} (ho : ∀ n, RO (rmI g bu n)) (hb : BE bu B (g 1)) (h0 : TR g (mlS t B 1)) : ∀ n : Nat, n ≤ 7 → TR (rmI g bu n) (mlS t B (n + 1)) := by
  intro n
  induction n with
  | zero => exact fun _ => h0
  | succ n ih =>
    intro hn
    rw [mlS_s (by omega)]
    exact tn_TR (ho n) (by rw [rmI_1]; exact hb) (ih (by omega))
theorem rm_D3 {g bu s : Int → Int} {F : Int → Int → Int} (h : TD (rm3 g bu F) s) : TD (rmR g bu F) s := by
  have e : rmN (rm3 g bu F) bu = 0 := skN_w (Nat.zero_le _) (fun j hj => absurd hj (Nat.not_lt_zero j)) (Or.inl (fun a => h.1 a.2.1))
  have e4 : rm4 g bu F = rm3 g bu F := by unfold rm4; rw [e]; rfl
  unfold rmR
  rw [e4, if_neg (fun a => h.1 a.1)]
  exact h
theorem rm_D2 {g bu s : Int → Int} {F : Int → Int → Int} (h : TD (rm2 g bu F) s) : TD (rmR g bu F) s := rm_D3 (TD_tn h)
theorem lk_e {t B : Int → Int} {p q : Int} (h : tkM t B p q 8 = 0) : lkM t p q 8 = 0 := by
  apply Classical.byContradiction
  intro c
  unfold tkM at h
  rw [TD_go c] at h
  exact c h
theorem rm2_1 {f bu : Int → Int} {F : Int → Int → Int} : rm2 f bu F 1 = f 1 := by
  unfold rm2
  generalize (if tnV f 0 1 = 0 then F 1 0 else F 2 0) = z
  split
  · exact tn_1
  · rw [fl_1]; exact tn_1
theorem rm3_1 {f bu : Int → Int} {F : Int → Int → Int} : rm3 f bu F 1 = f 1 := by
  unfold rm3
  rw [tn_1, rm2_1]
/-- what a message that is read tells -/
def MF (g bu s B σ : Int → Int) (F : Int → Int → Int) : Prop := tnV g 0 1 = wlst s B ∧ (wl2 s B 8 = 0 ∧ ¬ bI (σ (18 + 11 * wlst s B + 0) < 20) = 0) ∧ mlK (me5 s B σ) B = rmN (rm3 g bu F) bu + 1 ∧ mlS (me5 s B σ) B (mlK (me5 s B σ) B) 8 = 0 ∧ (∀ k : Nat, k ≤ rmN (rm3 g bu F) bu → lkM (mlS (me5 s B σ) B k) 0 255 8 = 0) ∧ tnV (rm2 g bu F) 0 255 = lkV (mlS (me5 s B σ) B 0) 0 255 ∧ ∀ k : Nat, k < rmN (rm3 g bu F) bu → tnV (rmI (rm3 g bu F) bu k) 0 255 = lkV (mlS (me5 s B σ) B (k + 1)) 0 255
theorem me_TR {g s bu B σ : Int → Int} {F : Int → Int → Int} (ho : RO g) (hbu : sB 1000 bu) (hb : BE bu B (g 1)) (h : TA g (goM s B)) (hF : (if tnV g 0 1 = 0 then F 1 0 else F 2 0) = σ (18 + 11 * wlst s B + 0)) : TR (rmR g bu F) (msS s B σ) ∧ (rmR g bu F 7 = 0 → MF g bu s B σ F) := by
  have V := tn_V (p := 0) (q := 1) (Or.inl h : TR g (goM s B))
  have e2 : wl2 s B = lkM (goM s B) 0 1 := rfl
  have W := tn_2 (p := 0) (q := 1) ho hb h
  have wr : wlst s B = lkV (goM s B) 0 1 := rfl
  rw [← wr] at V
  rw [← e2] at W
  have r2 : rm2 g bu F = if σ (18 + 11 * wlst s B + 0) < 20 then tnR g bu 0 1 else flR (tnR g bu 0 1) (tnR g bu 0 1 6) 4 := by
    unfold rm2
    rw [hF]
  have ro3 := rm3_ok (F := F) ho hbu
  have roI := rmI_ok (F := F) ho hbu
  have ro2 := rm2_ok (F := F) ho hbu
  have hb2 : BE bu B (rm2 g bu F 1) := by rw [rm2_1]; exact hb
  have hb3 : BE bu B (rm3 g bu F 1) := by rw [rm3_1]; exact hb
  rcases W with ⟨c8, el, g3, en, ta⟩ | ⟨c8, td⟩
  · by_cases c : σ (18 + 11 * wlst s B + 0) < 20
    · have cc : wl2 s B 8 = 0 ∧ ¬ bI (σ (18 + 11 * wlst s B + 0) < 20) = 0 := ⟨c8, by rw [bI_t c]; decide⟩
      have m3 : me3 s B σ = goM s B := by unfold me3; rw [bI_t c, mu_1, el]
      rw [if_pos c, en] at r2
      rw [el] at c8
      have m5 : me5 s B σ = muM (ntM (goM s B) B) (bI (ntM (goM s B) B 6 = 2)) 1 := by unfold me5; rw [m3, go_a c8]
      have hS : msS s B σ = mlS (me5 s B σ) B (mlK (me5 s B σ) B) := by unfold msS; rw [if_pos cc]
      rw [hS]
      generalize hg : avR (up g 6 (g 4)) bu = g2 at ta r2
      generalize ntM (goM s B) B = t2 at ta m5
      by_cases d : t2 6 = 2
      · rw [bI_t d, mu_1] at m5
        have d3 : g2 3 = 2 := by rw [ta.2.2.2.2.1]; exact d
        have I : ∀ n : Nat, n ≤ 7 → TR (rmI (rm3 g bu F) bu n) (mlS t2 B (n + 1)) := ml_TR roI hb3 (by
          rw [mlS_s (by decide)]
          show TR (tnR (rm2 g bu F) bu 0 255) (tkM t2 B 0 255)
          rw [r2]
          exact tn_TR (by rw [← r2]; exact ro2) (by rw [← r2]; exact hb2) (Or.inl ta))
        obtain ⟨n, hn⟩ : ∃ n, n = rmN (rm3 g bu F) bu := ⟨_, rfl⟩
        have n7 : n ≤ 7 := by rw [hn]; exact skN_le _
        obtain ⟨s1, s2⟩ := skN_s (p := fun k : Nat => ¬ ((k : Int) + 1 < 8 ∧ rmI (rm3 g bu F) bu k 7 = 0 ∧ rmI (rm3 g bu F) bu k 3 = 2)) 7
        have hn' : skN (fun k : Nat => ¬ ((k : Int) + 1 < 8 ∧ rmI (rm3 g bu F) bu k 7 = 0 ∧ rmI (rm3 g bu F) bu k 3 = 2)) 7 = n := hn.symm
        rw [hn'] at s1 s2
        have on : ∀ j : Nat, j < n + 1 → mlS t2 B j 8 = 0 ∧ mlS t2 B j 6 = 2 := by
          intro j hj
          rcases j with _ | j
          · exact ⟨ta.2.1, d⟩
          · have q := Classical.not_not.mp (s1 j (by omega))
            exact (TR_go (I j (by omega))).mp q.2
        have e4 : rm4 g bu F = rmI (rm3 g bu F) bu n := by unfold rm4; rw [← hn]
        by_cases z : rmI (rm3 g bu F) bu n 7 = 0 ∧ rmI (rm3 g bu F) bu n 3 = 2
        · -- a ninth number
          have n77 : n = 7 := by
            rcases s2 with s2 | s2
            · have : ¬ ((n : Int) + 1 < 8) := fun a => s2 ⟨a, z⟩
              omega
            · exact s2
          subst n77
          have z8 := (TR_go (I 7 (by decide))).mp z
          have k9 : mlK t2 B = 9 := skN_w (by decide) (fun j hj a => by
            by_cases e : j = 8
            · rw [e] at a; exact a z8
            · exact a (on j (by omega))) (Or.inr rfl)
          have er : rmR g bu F = flR (tnR (rmI (rm3 g bu F) bu 7) bu 0 255) (tnR (rmI (rm3 g bu F) bu 7) bu 0 255 6) 4 := by
            unfold rmR
            rw [e4, if_pos z]
          have es : mlS t2 B 9 = goM (fM (lkM (mlS t2 B 8) 0 255) 4) B := by
            show goM (muM (lkM (mlS t2 B 8) 0 255) (bI (((8 : Nat) : Int) < 8)) 4) B = _
            rw [bI_f (by decide), mu_0]
          have T : TD (rmR g bu F) (mlS t2 B 9) := by
            rw [er, es, goM_8 (fM_8 (by decide))]
            have ta8 := TR_TA (I 7 (by decide)) z.1
            rcases tn_2 (p := 0) (q := 255) (roI 7) (by rw [rmI_1]; exact hb3) ta8 with ⟨x1, x2, x3, x4, x5⟩ | ⟨x1, x2⟩
            · rw [x2, x4, av_n (j := 6) (by decide) (by decide) (by decide) (by decide), up_s]
              exact fl_TD x5.1 ta8.2.1 ta8.2.2.2.1 (roI 7).1.1 (by decide)
            · rw [TD_fM x1]
              exact TD_f x2
          rw [m5, k9]
          exact ⟨Or.inr T, fun a => absurd a T.1⟩
        · have k1 : mlK t2 B = n + 1 := skN_w (by omega) (fun j hj a => a (on j hj)) (Or.inl (fun a => z ((TR_go (I n n7)).mpr a)))
          have er : rmR g bu F = rmI (rm3 g bu F) bu n := by
            unfold rmR
            rw [e4, if_neg z]
          have T : TR (rmR g bu F) (mlS t2 B (n + 1)) := by rw [er]; exact I n n7
          rw [m5, k1]
          refine ⟨T, fun a => ?_⟩
          unfold MF
          rw [m5, k1, ← hn]
          have a8 := (TR_TA T a).2.1
          have go : ∀ k : Nat, k ≤ n → mlS t2 B (k + 1) 8 = 0 := fun k hk => by
            by_cases e : k = n
            · rw [e]; exact a8
            · exact (on (k + 1) (by omega)).1
          refine ⟨V, cc, rfl, a8, fun k hk => lk_e (B := B) (by rw [← mlS_s (by omega)]; exact go k hk), ?_, fun k hk => tn_V (I k (by omega))⟩
          rw [r2]
          exact tn_V (Or.inl ta)
      · rw [bI_f d, mu_0] at m5
        have k0 : mlK (fM t2 1) B = 0 := skN_w (Nat.zero_le _) (fun j hj => absurd hj (Nat.not_lt_zero j)) (Or.inl (fun a => fM_8 (by decide) a.1))
        have T : TD (rmR g bu F) (fM t2 1) := by
          refine rm_D3 ?_
          have el2 : lkM t2 0 255 = fM t2 1 := if_neg d
          rcases tn_2 (p := 0) (q := 255) (g := g2) (t := t2) (bu := bu) (B := B) (by rw [← r2]; exact ro2) (by rw [← r2]; exact hb2) ta with ⟨x1, x2, x3, x4, x5⟩ | ⟨x1, x2⟩
          · rw [el2] at x1
            exact absurd x1 (fM_8 (by decide))
          · rw [el2] at x2
            show TD (tnR (rm2 g bu F) bu 0 255) (fM t2 1)
            rw [r2]
            exact x2
        rw [m5, k0]
        exact ⟨Or.inr T, fun a => absurd a T.1⟩
    · have hS : msS s B σ = me3 s B σ := by unfold msS; rw [if_neg (fun a => a.2 (bI_f c))]
      rw [el] at c8
      have m3 : me3 s B σ = fM (goM s B) 4 := by unfold me3; rw [bI_f c, mu_0, el]
      have g6 : avR (up g 6 (g 4)) bu 6 = g 4 := by rw [av_n (by decide) (by decide) (by decide) (by decide), up_s]
      rw [if_neg c, en, g6] at r2
      have T : TD (rmR g bu F) (fM (goM s B) 4) := by
        refine rm_D2 ?_
        rw [r2]
        exact fl_TD ta.1 c8 h.2.2.2.1 ho.1.1 (by decide)
      rw [hS, m3]
      exact ⟨Or.inr T, fun a => absurd a T.1⟩
  · have hS : msS s B σ = wl2 s B := by
      unfold msS
      rw [if_neg (fun a => c8 a.1)]
      exact TD_mu c8
    have T : TD (rmR g bu F) (wl2 s B) := by
      refine rm_D2 ?_
      rw [r2]
      split
      · exact td
      · exact TD_f td
    rw [hS]
    exact ⟨Or.inr T, fun a => absurd a T.1⟩
end MesT
