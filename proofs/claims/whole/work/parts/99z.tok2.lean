section Tok2
/-- both failed, at the same place for the same reason -/
def TD (f s : Int → Int) : Prop := ¬ f 7 = 0 ∧ ¬ s 8 = 0 ∧ f 7 = 8 * s 9 + s 8
def TR (f s : Int → Int) : Prop := TA f s ∨ TD f s
theorem fl_TD {f s : Int → Int} {o k : Int} (h7 : f 7 = 0) (h8 : s 8 = 0) (e : o = s 4) (h0 : 0 ≤ o) (hk : 1 ≤ k) : TD (flR f o k) (fM s k) := by
  have e1 : flR f o k = up f 7 (8 * o + k) := if_pos h7
  have e2 : fM s k = up (up s 8 k) 9 (s 4) := if_pos h8
  rw [e1, e2]
  refine ⟨?_, ?_, ?_⟩
  · rw [up_s]; omega
  · rw [up_n (by decide), up_s]; omega
  · rw [up_s, up_s, up_n (by decide), up_s, e]
theorem TD_fl {f : Int → Int} {o k : Int} (h : ¬ f 7 = 0) : flR f o k = f := if_neg h
theorem TD_fM {s : Int → Int} {k : Int} (h : ¬ s 8 = 0) : fM s k = s := if_neg h
theorem TD_mu {s : Int → Int} {c k : Int} (h : ¬ s 8 = 0) : muM s c k = s := by
  unfold muM
  rw [TD_fM h, ite_self]
theorem TD_lk {s : Int → Int} {p q : Int} (h : ¬ s 8 = 0) : lkM s p q = s := by
  unfold lkM
  rw [TD_fM h, TD_fM h, ite_self, ite_self]
theorem TD_go {s B : Int → Int} (h : ¬ s 8 = 0) : goM s B = s := if_neg h
theorem nt_TA {f s bu B : Int → Int} (ho : RO f) (hb : BE bu B (f 1)) (h : TA f s) (h4 : f 3 ≠ 4) : TA (avR f bu) (ntM s B) := by
  obtain ⟨a1, a2, a3, a4, a5, a6, a7, a8, a9⟩ := h
  have o := ho.1
  exact nt_eq hb a1 a2 a3 (a6 h4) a8 a9 (by omega) (by omega)
/-- a semicolon -/
theorem ts_TR {f s bu B : Int → Int} (ho : RO f) (hb : BE bu B (f 1)) (h : TR f s) : TR (tsR f bu) (if s 8 = 0 ∧ ¬ bI (s 6 = 3) = 0 then ntM (muM s (bI (s 6 = 3)) 1) B else muM s (bI (s 6 = 3)) 1) := by
  unfold tsR
  rcases h with h | h
  · have h' := h
    obtain ⟨a1, a2, a3, a4, a5, a6, a7, a8, a9⟩ := h'
    by_cases c : f 3 = 3
    · have b : bI (s 6 = 3) = 1 := bI_t (by rw [← a5]; exact c)
      rw [if_pos ⟨a1, c⟩, b, if_pos ⟨a2, by decide⟩]
      have m : muM s 1 1 = s := if_neg (by decide)
      rw [m]
      exact Or.inl (nt_TA ho hb h (by rw [c]; decide))
    · have b : bI (s 6 = 3) = 0 := bI_f (by rw [← a5]; exact c)
      rw [if_neg (fun g => c g.2), b, if_neg (fun g => g.2 rfl)]
      have m : muM s 0 1 = fM s 1 := if_pos rfl
      rw [m]
      exact Or.inr (fl_TD a1 a2 a4 ho.1.1 (by decide))
  · rw [if_neg (fun g => h.1 g.1), if_neg (fun g => h.2.1 g.1), TD_fl h.1, TD_mu h.2.1]
    exact Or.inr h
theorem tn_V {f s : Int → Int} {p q : Int} (h : TR f s) : tnV f p q = lkV s p q := by
  unfold tnV lkV
  rcases h with h | h
  · obtain ⟨a1, a2, a3, a4, a5, a6, a7, a8, a9⟩ := h
    rw [if_neg (fun g => g a1)]
    by_cases c : f 3 = 2
    · rw [if_neg (fun g => g c), ← a7 c]
      by_cases d : f 5 < p ∨ q < f 5
      · rw [if_pos d, if_neg (by omega)]
      · rw [if_neg d, if_pos ⟨a2, by rw [← a5]; exact c, by omega, by omega⟩]
    · rw [if_pos c, if_neg (fun g => c (by rw [a5]; exact g.2.1))]
  · rw [if_pos h.1, if_neg (fun g => h.2.1 g.1)]
/-- a number -/
theorem tn_TR {f s bu B : Int → Int} {p q : Int} (ho : RO f) (hb : BE bu B (f 1)) (h : TR f s) : TR (tnR f bu p q) (tkM s B p q) := by
  unfold tnR tkM lkM
  rcases h with h | h
  · have h' := h
    obtain ⟨a1, a2, a3, a4, a5, a6, a7, a8, a9⟩ := h'
    rw [if_neg (fun g => g a1)]
    by_cases c : f 3 = 2
    · have c6 : s 6 = 2 := by rw [← a5]; exact c
      rw [if_neg (fun g => g c), if_pos c6, ← a7 c]
      by_cases d : f 5 < p ∨ q < f 5
      · have d2 : ¬ (p ≤ f 5 ∧ f 5 ≤ q) := by omega
        rw [if_pos d, if_neg d2]
        have t := fl_TD (k := 3) a1 a2 a4 ho.1.1 (by decide)
        rw [TD_go t.2.1]
        exact Or.inr t
      · have d2 : p ≤ f 5 ∧ f 5 ≤ q := by omega
        rw [if_neg d, if_pos d2]
        have g : goM s B = ntM s B := if_pos a2
        rw [g]
        refine Or.inl (nt_eq ?_ ?_ a2 ?_ ?_ ?_ ?_ ?_ ?_)
        · rw [up_n (by decide)]; exact hb
        · rw [up_n (by decide)]; exact a1
        · rw [up_n (by decide)]; exact a3
        · rw [up_n (by decide)]; exact a6 (by rw [c]; decide)
        · rw [up_n (by decide)]; exact a8
        · rw [up_n (by decide)]; exact a9
        · rw [up_n (by decide)]; have o := ho.1; omega
        · rw [up_n (by decide), up_n (by decide)]; have o := ho.1; omega
    · rw [if_pos c, if_neg (fun g => c (by rw [a5]; exact g))]
      have t := fl_TD (k := 1) a1 a2 a4 ho.1.1 (by decide)
      rw [TD_go t.2.1]
      exact Or.inr t
  · rw [if_pos h.1, TD_fM h.2.1, TD_fM h.2.1, ite_self, ite_self, TD_go h.2.1]
    exact Or.inr h
end Tok2
