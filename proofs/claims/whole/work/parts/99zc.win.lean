section WinT
theorem av_n {f bu : Int → Int} {j : Int} (a : j ≠ 2) (b : j ≠ 3) (c : j ≠ 4) (d : j ≠ 5) : avR f bu j = f j := by
  have sk : skR f bu j = f j := by unfold skR; rw [up_n c, up_n a]
  unfold avR plR pdR
  (repeat' split) <;> simp only [up_n a, up_n b, up_n c, up_n d, sk]
theorem nt_cg {s s' B : Int → Int} (h3 : s' 3 = s 3) (h5 : s' 5 = s 5) {j : Int} (hj : s' j = s j) : ntM s' B j = ntM s B j := by
  have hb : ∀ k, bM s' B k = bM s B k := fun k => by unfold bM; rw [h3]
  have hst : stM s' B = stM s B := by unfold stM; rw [h3, h5]
  have hd : ∀ (st : Int) (k : Nat), dgM s' B st k = dgM s B st k := by
    intro st k
    induction k with
    | zero => rfl
    | succ k ih => simp only [dgM, ih, hb]
  have hs : sM1 s' B j = sM1 s B j := by unfold sM1; rw [hst]; unfold up; rw [hj]
  unfold ntM
  rw [hst, hb, h3]
  (repeat' split) <;> simp only [up, hd, hs]
theorem nt_n {s B : Int → Int} {j : Int} (a : j ≠ 4) (b : j ≠ 5) (c : j ≠ 6) (d : j ≠ 7) : ntM s B j = s j := by
  have sk : sM1 s B j = s j := by unfold sM1; rw [up_n c, up_n b, up_n a]
  unfold ntM
  (repeat' split) <;> simp only [up_n a, up_n b, up_n c, up_n d, sk]
theorem TD_av {f s bu : Int → Int} (h : TD f s) : TD (avR f bu) s := by
  unfold TD
  rw [av_n (by decide) (by decide) (by decide) (by decide)]
  exact h
theorem TD_u {f s : Int → Int} {k v : Int} (hk : k ≠ 7) (h : TD f s) : TD (up f k v) s := by
  unfold TD
  rw [up_n (Ne.symm hk)]
  exact h
theorem TD_f {f s : Int → Int} {o k : Int} (h : TD f s) : TD (flR f o k) s := by
  rw [TD_fl h.1]; exact h
theorem TD_tn {f s bu : Int → Int} {p q : Int} (h : TD f s) : TD (tnR f bu p q) s := by
  rw [show tnR f bu p q = f from if_pos h.1]; exact h
/-- a number, in both cases -/
theorem tn_2 {g t bu B : Int → Int} {p q : Int} (ho : RO g) (hb : BE bu B (g 1)) (h : TA g t) : (lkM t p q 8 = 0 ∧ lkM t p q = t ∧ g 3 = 2 ∧ tnR g bu p q = avR (up g 6 (g 4)) bu ∧ TA (avR (up g 6 (g 4)) bu) (ntM t B)) ∨ (¬ lkM t p q 8 = 0 ∧ TD (tnR g bu p q) (lkM t p q)) := by
  have T := tn_TR (p := p) (q := q) ho hb (Or.inl h)
  obtain ⟨a1, a2, a3, a4, a5, a6, a7, a8, a9⟩ := h
  unfold tkM at T
  by_cases c : lkM t p q 8 = 0
  · left
    by_cases c6 : t 6 = 2
    · by_cases d : p ≤ t 7 ∧ t 7 ≤ q
      · have el : lkM t p q = t := by unfold lkM; rw [if_pos c6, if_pos d]
        have g3 : g 3 = 2 := by rw [a5]; exact c6
        have e5 := a7 g3
        have en : tnR g bu p q = avR (up g 6 (g 4)) bu := by
          unfold tnR
          rw [if_neg (fun g => g a1), if_neg (fun g => g g3), if_neg (by omega)]
        rw [el, go_a a2, en] at T
        refine ⟨c, el, g3, en, ?_⟩
        rcases T with T | T
        · exact T
        · refine absurd ?_ T.1
          rw [av_n (by decide) (by decide) (by decide) (by decide), up_n (by decide)]; exact a1
      · have el : lkM t p q = fM t 3 := by unfold lkM; rw [if_pos c6, if_neg d]
        rw [el] at c
        exact absurd c (fM_8 (by decide))
    · have el : lkM t p q = fM t 1 := by unfold lkM; rw [if_neg c6]
      rw [el] at c
      exact absurd c (fM_8 (by decide))
  · right
    rw [TD_go c] at T
    rcases T with T | T
    · exact absurd T.2.1 c
    · exact ⟨c, T⟩
theorem wl4_at {st : Int} {t : Int → Int} {j : Int} (a : j ≠ 17) (b : j ≠ 18) : wl4 st t j = t j := by
  unfold wl4
  split
  · rw [up_n b, up_n a]
  · rw [up_n b, up_n a]
theorem bI_01e {v : Int} (h : v = 0 ∨ v = 1) : bI (¬ v = 0) = v := by
  rcases h with rfl | rfl
  · exact bI_f (by decide)
  · exact bI_t (by decide)
theorem wl4_TA {g t B : Int → Int} {st : Int} (hm : RM t) (h8 : t 8 = 0) (ta : TA g (ntM t B)) : TA (if st = 0 then up g 8 1 else up g 9 1) (goM (wl4 st t) B) := by
  have h8' : wl4 st t 8 = 0 := by rw [wl4_at (by decide) (by decide)]; exact h8
  rw [go_a h8']
  have q : ∀ j, j ≠ 17 → j ≠ 18 → ntM (wl4 st t) B j = ntM t B j := fun j a b => nt_cg (wl4_at (by decide) (by decide)) (wl4_at (by decide) (by decide)) (wl4_at a b)
  have q17 : ntM (wl4 st t) B 17 = wl4 st t 17 := nt_n (by decide) (by decide) (by decide) (by decide)
  have q18 : ntM (wl4 st t) B 18 = wl4 st t 18 := nt_n (by decide) (by decide) (by decide) (by decide)
  have n17 : ntM t B 17 = t 17 := nt_n (by decide) (by decide) (by decide) (by decide)
  have n18 : ntM t B 18 = t 18 := nt_n (by decide) (by decide) (by decide) (by decide)
  obtain ⟨a1, a2, a3, a4, a5, a6, a7, a8, a9⟩ := ta
  rw [n17] at a8
  rw [n18] at a9
  unfold TA
  rw [q 8 (by decide) (by decide), q 3 (by decide) (by decide), q 4 (by decide) (by decide), q 5 (by decide) (by decide), q 6 (by decide) (by decide), q 7 (by decide) (by decide), q17, q18]
  unfold wl4
  by_cases c : st = 0
  · rw [if_pos c, if_pos c]
    refine ⟨a1, a2, a3, a4, a5, a6, a7, ?_, ?_⟩
    · rw [up_s, up_n (by decide), up_s]
    · rw [up_s, up_n (by decide), bI_01e (RM_b18 hm)]; exact a9
  · rw [if_neg c, if_neg c]
    refine ⟨a1, a2, a3, a4, a5, a6, a7, ?_, ?_⟩
    · rw [up_n (by decide), up_n (by decide), up_s, bI_01e (RM_b17 hm)]; exact a8
    · rw [up_s, up_s]
theorem rw2_1 {f bu : Int → Int} : rw2 f bu 1 = f 1 := by
  unfold rw2
  generalize (if tnV f 0 1 = 0 then tnR f bu 0 1 8 else tnR f bu 0 1 9) = z
  split
  · exact tn_1
  · rw [fl_1]; exact tn_1
theorem rw3_1 {f bu : Int → Int} : rw3 f bu 1 = f 1 := by
  unfold rw3
  split
  · rw [up_n (by decide)]; exact rw2_1
  · rw [up_n (by decide)]; exact rw2_1
/-- a window -/
theorem wl_TR {g s bu B : Int → Int} (ho : RO g) (hbu : sB 1000 bu) (hm : RM (goM s B)) (hb : BE bu B (g 1)) (h : TA g (goM s B)) : TR (rwR g bu) (wlS s B) ∧ (rwR g bu 7 = 0 → tnV g 0 1 = wlst s B ∧ (wl2 s B 8 = 0 ∧ ¬ wlc s B = 0) ∧ tnV (rw3 g bu) 1 9 = lkV (goM (wl4 (wlst s B) (wl3 s B)) B) 1 9) := by
  have V := tn_V (p := 0) (q := 1) (Or.inl h : TR g (goM s B))
  have e3 := rw3_ok ho hbu
  have b3 : BE bu B (rw3 g bu 1) := by rw [rw3_1]; exact hb
  unfold wlS wl3 wlc
  have ew : wlst s B = lkV (goM s B) 0 1 := rfl
  rw [ew, ← V]
  unfold wl2
  have W := tn_2 (p := 0) (q := 1) ho hb h
  generalize goM s B = t at hm h W
  have V1 := tnV_in (p := 0) (q := 1) ho (by decide)
  unfold rwR
  rcases W with ⟨c8, el, g3, en, ta⟩ | ⟨c8, td⟩
  · rw [el]
    rw [el] at c8
    have g6 : avR (up g 6 (g 4)) bu 6 = g 4 := by rw [av_n (by decide) (by decide) (by decide) (by decide), up_s]
    have g7 : avR (up g 6 (g 4)) bu 7 = 0 := ta.1
    have g8 : avR (up g 6 (g 4)) bu 8 = t 17 := by rw [ta.2.2.2.2.2.2.2.1]; exact nt_n (by decide) (by decide) (by decide) (by decide)
    have g9 : avR (up g 6 (g 4)) bu 9 = t 18 := by rw [ta.2.2.2.2.2.2.2.2]; exact nt_n (by decide) (by decide) (by decide) (by decide)
    have key : (if tnV g 0 1 = 0 then bI (t 17 = 0) else bI (t 18 = 0)) = bI ((if tnV g 0 1 = 0 then tnR g bu 0 1 8 else tnR g bu 0 1 9) = 0) := by
      rw [en, g8, g9]
      split <;> rfl
    rw [key]
    by_cases c : (if tnV g 0 1 = 0 then tnR g bu 0 1 8 else tnR g bu 0 1 9) = 0
    · have er : rw3 g bu = if tnV g 0 1 = 0 then up (avR (up g 6 (g 4)) bu) 8 1 else up (avR (up g 6 (g 4)) bu) 9 1 := by
        unfold rw3 rw2
        rw [if_pos c, en]
      have ta2 := wl4_TA (st := tnV g 0 1) hm c8 ta
      rw [← er] at ta2
      rw [bI_t c, mu_1, if_pos ⟨c8, by decide⟩]
      exact ⟨tn_TR e3 b3 (Or.inl ta2), fun _ => ⟨rfl, ⟨c8, by decide⟩, tn_V (Or.inl ta2)⟩⟩
    · rw [bI_f c, mu_0, if_neg (fun g => g.2 rfl)]
      have td : TD (rw3 g bu) (fM t 2) := by
        unfold rw3 rw2
        rw [if_neg c, en, g6]
        have t1 : TD (flR (avR (up g 6 (g 4)) bu) (g 4) 2) (fM t 2) := fl_TD g7 c8 h.2.2.2.1 ho.1.1 (by decide)
        split
        · exact TD_u (by decide) t1
        · exact TD_u (by decide) t1
      exact ⟨Or.inr (TD_tn td), fun a => absurd a (TD_tn (bu := bu) (p := 1) (q := 9) td).1⟩
  · have td2 : TD (rw3 g bu) (lkM t 0 1) := by
      have t1 : TD (rw2 g bu) (lkM t 0 1) := by
        unfold rw2
        generalize (if tnV g 0 1 = 0 then tnR g bu 0 1 8 else tnR g bu 0 1 9) = z
        split
        · exact td
        · exact TD_f td
      unfold rw3
      split
      · exact TD_u (by decide) t1
      · exact TD_u (by decide) t1
    rw [if_neg (fun g => c8 g.1), TD_mu c8]
    exact ⟨Or.inr (TD_tn td2), fun a => absurd a (TD_tn (bu := bu) (p := 1) (q := 9) td2).1⟩
end WinT
