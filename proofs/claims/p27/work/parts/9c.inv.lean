section Inv
/-- a station's numbers beside the other's -/
def ST (a b : Int → Int) : Prop := (0 ≤ a 2 ∧ a 2 ≤ a 1 ∧ a 1 - a 2 ≤ a 3) ∧ (1 ≤ a 3 ∧ a 3 ≤ 9) ∧ (a 4 = 0 ∧ a 5 = 0 ∧ a 10 = 0) ∧ (0 ≤ a 6 ∧ a 6 ≤ b 1) ∧ (0 ≤ a 8 ∧ a 8 ≤ a 7 ∧ a 7 ≤ b 2 + b 3 ∧ a 8 ≤ a 0 ∧ a 0 ≤ 20) ∧ a 1 ≤ b 8 ∧ 0 ≤ a 9
def T0 (g : Int → Int) : Prop := (g 1 = 0 ∨ g 1 = 1) ∧ (g 6 = 0 ∨ g 6 = 1) ∧ (0 ≤ g 2 ∧ g 2 ≤ 7) ∧ g 9 = -1 ∧ (1 ≤ g 4 ∧ g 4 ≤ 7) ∧ (1 ≤ g 5 ∧ g 5 ≤ 99)
def T5 (g : Int → Int) (n : Int) : Prop := g 0 = g 2 + g 4 ∧ (0 ≤ g 1 ∧ g 1 ≤ g 0) ∧ (0 ≤ g 0 ∧ g 0 ≤ n)
def T5p (g : Int → Int) (n : Int) : Prop := g 0 = g 2 + g 4 + 1 ∧ (0 ≤ g 1 ∧ g 1 ≤ g 0) ∧ (0 ≤ g 0 ∧ g 0 ≤ n)
def LE (c le : Int → Int) : Prop := ∀ m : Int, 0 ≤ m → m < c 0 → 0 ≤ le m ∧ le m ≤ 8
def IN (F : Int → Int → Int) (n : Int) : Prop := T0 (F 0) ∧ (ST (F 1) (F 2) ∧ ST (F 2) (F 1)) ∧ T5 (F 5) n ∧ (LE (F 1) (F 3) ∧ LE (F 2) (F 4)) ∧ ∀ i, sB (10000 + 200 * n) (F i)
/-- in the middle of a step: the frame is counted, its kind is not yet -/
def INp (F : Int → Int → Int) (n : Int) : Prop := T0 (F 0) ∧ (ST (F 1) (F 2) ∧ ST (F 2) (F 1)) ∧ T5p (F 5) n ∧ (LE (F 1) (F 3) ∧ LE (F 2) (F 4)) ∧ ∀ i, sB (9900 + 200 * n) (F i)
theorem nh_0 {b a : Int → Int} (h1 : a 5 = 0) (h2 : b 10 = 0) : nhF b a = up (up b 6 (a 1)) 7 (a 2 + a 3) := by
  unfold nhF
  rw [if_pos (by omega)]
theorem rc_0 {b : Int → Int} (h : b 5 = 0) : rcF 0 b = up (up b 7 (b 7 - 0)) 5 0 := by
  have e : rcG 0 b = 0 := by
    unfold rcG
    rw [if_neg (by split <;> omega)]
  unfold rcF
  rw [e, h]
  rfl
theorem st_ever {a b : Int → Int} {m : Int} (h1 : ST a b) (h2 : ST b a) (hm : 0 ≤ m) (h7 : m < a 7) (h0 : m < a 0) (hc : a 8 ≤ m) : ST (up a 8 (m + 1)) b ∧ ST b (up a 8 (m + 1)) := by
  obtain ⟨x1, x2, x3, x4, x5, x6, x7⟩ := h1
  obtain ⟨y1, y2, y3, y4, y5, y6, y7⟩ := h2
  constructor
  · exact ⟨x1, x2, x3, x4, (show 0 ≤ m + 1 ∧ m + 1 ≤ a 7 ∧ a 7 ≤ b 2 + b 3 ∧ m + 1 ≤ a 0 ∧ a 0 ≤ 20 by omega), x6, x7⟩
  · exact ⟨y1, y2, y3, y4, y5, (show b 1 ≤ m + 1 by omega), y7⟩
theorem st_note {a b : Int → Int} (h1 : ST a b) (h2 : ST b a) : ST a (nhF b a) ∧ ST (nhF b a) a := by
  obtain ⟨x1, x2, x3, x4, x5, x6, x7⟩ := h1
  obtain ⟨y1, y2, y3, y4, y5, y6, y7⟩ := h2
  rw [nh_0 x3.2.1 y3.2.2]
  constructor
  · exact ⟨x1, x2, x3, x4, x5, x6, x7⟩
  · exact ⟨y1, y2, y3, (show 0 ≤ a 1 ∧ a 1 ≤ a 1 by omega), (show 0 ≤ b 8 ∧ b 8 ≤ a 2 + a 3 ∧ a 2 + a 3 ≤ a 2 + a 3 ∧ b 8 ≤ b 0 ∧ b 0 ≤ 20 by omega), y6, y7⟩
theorem nh_1 {a b : Int → Int} (h1 : ST a b) (h2 : ST b a) : nhF b a 1 = b 1 := by
  rw [nh_0 h1.2.2.1.2.1 h2.2.2.1.2.2]
  rfl
theorem st_acc {a b : Int → Int} {m : Int} (h1 : ST a b) (h2 : ST b a) (he : m < a 8) (h7 : m < a 7) (hb : m = b 1) : ST a (up b 1 (b 1 + 1)) ∧ ST (up b 1 (b 1 + 1)) a := by
  obtain ⟨x1, x2, x3, x4, x5, x6, x7⟩ := h1
  obtain ⟨y1, y2, y3, y4, y5, y6, y7⟩ := h2
  constructor
  · exact ⟨x1, x2, x3, (show 0 ≤ a 6 ∧ a 6 ≤ b 1 + 1 by omega), x5, x6, x7⟩
  · exact ⟨(show 0 ≤ b 2 ∧ b 2 ≤ b 1 + 1 ∧ b 1 + 1 - b 2 ≤ b 3 by omega), y2, y3, y4, y5, (show b 1 + 1 ≤ a 8 by omega), y7⟩
theorem st_turn {a b : Int → Int} (h1 : ST a b) (h2 : ST b a) : ST (up a 9 (a 9 + 1)) (rcF (a 4) (nhF b a)) ∧ ST (rcF (a 4) (nhF b a)) (up a 9 (a 9 + 1)) := by
  obtain ⟨z1, z2⟩ := st_note h1 h2
  rw [h1.2.2.1.1, rc_0 z2.2.2.1.2.1]
  obtain ⟨x1, x2, x3, x4, x5, x6, x7⟩ := z1
  generalize nhF b a = c at *
  obtain ⟨y1, y2, y3, y4, y5, y6, y7⟩ := z2
  constructor
  · exact ⟨x1, x2, x3, x4, x5, x6, (show 0 ≤ a 9 + 1 by omega)⟩
  · exact ⟨y1, y2, ⟨y3.1, rfl, y3.2.2⟩, y4, (show 0 ≤ c 8 ∧ c 8 ≤ c 7 - 0 ∧ c 7 - 0 ≤ a 2 + a 3 ∧ c 8 ≤ c 0 ∧ c 0 ≤ 20 by omega), y6, y7⟩
theorem nh_B {a b : Int → Int} {N : Int} (h1 : ST a b) (h2 : ST b a) (hN : 1000 ≤ N) (hb : sB N b) : sB N (nhF b a) := by
  obtain ⟨x1, x2, x3, x4, x5, x6, x7⟩ := h1
  obtain ⟨y1, y2, y3, y4, y5, y6, y7⟩ := h2
  rw [nh_0 x3.2.1 y3.2.2]
  exact sB_up (sB_up hb ⟨by omega, by omega⟩) ⟨by omega, by omega⟩
theorem rc_B {b : Int → Int} {N : Int} (h : b 5 = 0) (hN : 1000 ≤ N) (hb : sB N b) : sB N (rcF 0 b) := by
  rw [rc_0 h]
  have := hb 7
  exact sB_up (sB_up hb ⟨by omega, by omega⟩) ⟨by omega, by omega⟩
theorem T0_s {g : Int → Int} (h : T0 g) (hb : g 2 < g 4) : T0 (up g 2 (g 2 + 1)) := by
  obtain ⟨x1, x2, x3, x4, x5, x6⟩ := h
  exact ⟨x1, x2, (show 0 ≤ g 2 + 1 ∧ g 2 + 1 ≤ 7 by omega), x4, x5, x6⟩
theorem T0_t {g : Int → Int} {z : Int} (h : T0 g) (hz : z = 0) : T0 (up (up (up g 6 z) 1 (1 - g 1)) 2 0) := by
  obtain ⟨x1, x2, x3, x4, x5, x6⟩ := h
  exact ⟨(show 1 - g 1 = 0 ∨ 1 - g 1 = 1 by omega), Or.inl hz, (show (0 : Int) ≤ 0 ∧ (0 : Int) ≤ 7 by decide), x4, x5, x6⟩
theorem T0_l {g : Int → Int} {z : Int} (h : T0 g) (hz : z = 0 ∨ z = 1) : T0 (up g 6 z) := by
  obtain ⟨x1, x2, x3, x4, x5, x6⟩ := h
  exact ⟨x1, hz, x3, x4, x5, x6⟩
theorem T0_B {g : Int → Int} {N : Int} (h : T0 g) (hN : 1000 ≤ N) (hb : sB N g) : sB N (up g 2 (g 2 + 1)) ∧ sB N (up (up (up g 6 0) 1 (1 - g 1)) 2 0) := by
  obtain ⟨x1, x2, x3, x4, x5, x6⟩ := h
  exact ⟨sB_up hb ⟨by omega, by omega⟩, sB_up (sB_up (sB_up hb ⟨by omega, by omega⟩) ⟨by omega, by omega⟩) ⟨by omega, by omega⟩⟩
/-- what a step's end needs: every part of it -/
theorem IN.mk {F : Int → Int → Int} {n : Int} {g0 g1 g2 g5 : Int → Int} {G : Int → Int → Int} (hI : INp F n) (e0 : G 0 = g0) (e1 : G 1 = g1) (e2 : G 2 = g2) (e5 : G 5 = g5) (e3 : G 3 = F 3) (e4 : G 4 = F 4) (hG : ∀ i, sB (10000 + 200 * n) (G i)) (h0 : T0 g0) (h1 : ST g1 g2 ∧ ST g2 g1) (h5 : T5 g5 n) (hl1 : g1 0 = F 1 0) (hl2 : g2 0 = F 2 0) : IN G n := by
  obtain ⟨_, _, _, ⟨l1, l2⟩, _⟩ := hI
  refine ⟨by rw [e0]; exact h0, by rw [e1, e2]; exact h1, by rw [e5]; exact h5, ⟨fun m a b => ?_, fun m a b => ?_⟩, hG⟩
  · rw [e3]; exact l1 m a (by rw [e1, hl1] at b; exact b)
  · rw [e4]; exact l2 m a (by rw [e2, hl2] at b; exact b)
theorem T5_d {g : Int → Int} {n : Int} (h : T5p g n) : T5 (up g 2 (g 2 + 1)) n := by
  obtain ⟨x1, x2, x3⟩ := h
  exact ⟨(show g 0 = g 2 + 1 + g 4 by omega), x2, x3⟩
theorem T5_t {g : Int → Int} {n : Int} (h : T5p g n) : T5 (up g 4 (g 4 + 1)) n := by
  obtain ⟨x1, x2, x3⟩ := h
  exact ⟨(show g 0 = g 2 + (g 4 + 1) by omega), x2, x3⟩
theorem T5_up {g : Int → Int} {n i v : Int} (h : T5 g n) (hi : 0 ≠ i ∧ 1 ≠ i ∧ 2 ≠ i ∧ 4 ≠ i) : T5 (up g i v) n := by
  unfold T5
  rw [up_n hi.1, up_n hi.2.1, up_n hi.2.2.1, up_n hi.2.2.2]
  exact h
theorem sdL_in {F : Int → Int → Int} {m z n : Int} (hI : INp F n) (hn : 0 ≤ n) (hb : F 0 2 < F 0 4) (hm : m = nmL F) (h7 : m < stL F 7) (hm0 : 0 ≤ m) (h0 : m < stL F 0) : IN (sdL m z F) n := by
  have hI9 := hI
  obtain ⟨t0, ⟨s1, s2⟩, t5, le, hB⟩ := hI
  have hB2 : ∀ i, sB (10000 + 200 * n) (F i) := fun i => sB_mono (by omega) (hB i)
  have b0 := (T0_B t0 (by omega) (hB2 0)).1
  have a2 := hB 5 2; have a3 := hB 5 3; have a9 := hB 5 9
  have c5 : sB (10000 + 200 * n) (up (F 5) 2 (F 5 2 + 1)) := sB_up (hB2 5) ⟨by omega, by omega⟩
  have c53 : sB (10000 + 200 * n) (up (up (F 5) 2 (F 5 2 + 1)) 3 (F 5 3 + 1)) := sB_up c5 ⟨by omega, by omega⟩
  have c59 : sB (10000 + 200 * n) (up (up (F 5) 2 (F 5 2 + 1)) 9 (F 5 9 + 1)) := sB_up c5 ⟨by omega, by omega⟩
  have c539 : sB (10000 + 200 * n) (up (up (up (F 5) 2 (F 5 2 + 1)) 3 (F 5 3 + 1)) 9 (F 5 9 + 1)) := sB_up c53 ⟨by omega, by omega⟩
  have d5 := T5_d t5
  have d53 : T5 (up (up (F 5) 2 (F 5 2 + 1)) 3 (F 5 3 + 1)) n := T5_up d5 (by decide)
  have d59 : T5 (up (up (F 5) 2 (F 5 2 + 1)) 9 (F 5 9 + 1)) n := T5_up d5 (by decide)
  have d539 : T5 (up (up (up (F 5) 2 (F 5 2 + 1)) 3 (F 5 3 + 1)) 9 (F 5 9 + 1)) n := T5_up d53 (by decide)
  have u0 := T0_s t0 hb
  unfold sdL
  unfold stL at h7 h0
  by_cases ht : F 0 1 = 0
  · rw [if_pos ht]
    rw [if_pos ht] at h7 h0
    by_cases he : F 1 8 ≤ m
    · rw [if_pos he]
      obtain ⟨e1, e2⟩ := st_ever s1 s2 hm0 h7 h0 he
      have be : sB (10000 + 200 * n) (up (F 1) 8 (m + 1)) := sB_up (hB2 1) (by have := s1.2.2.2.2.1; exact ⟨by omega, by omega⟩)
      obtain ⟨n1, n2⟩ := st_note e1 e2
      have bn := nh_B e1 e2 (by omega) (hB2 2)
      by_cases hz : z = 0
      · rw [if_pos hz]
        by_cases ha : m = nhF (F 2) (up (F 1) 8 (m + 1)) 1
        · rw [if_pos ha]
          have q := st_acc n1 n2 (show m < m + 1 by omega) h7 ha
          have ba := bn 1
          have bq : sB (10000 + 200 * n) (up (nhF (F 2) (up (F 1) 8 (m + 1))) 1 (nhF (F 2) (up (F 1) 8 (m + 1)) 1 + 1)) := sB_up bn (by rw [nh_1 e1 e2]; have := s1.1; have := s2.1; have := s2.2.2.2.2.1; have := s1.2.2.2.2.1; have := s2.2.2.2.2.2.1; exact ⟨by omega, by omega⟩)
          exact IN.mk hI9 rfl rfl rfl rfl rfl rfl (sBF_up (sBF_up (sBF_up (sBF_up hB2 b0) be) bq) c5) u0 q d5 rfl (show nhF (F 2) (up (F 1) 8 (m + 1)) 0 = F 2 0 from (by rw [nh_0 e1.2.2.1.2.1 e2.2.2.1.2.2]; rfl))
        · rw [if_neg ha]
          exact IN.mk hI9 rfl rfl rfl rfl rfl rfl (sBF_up (sBF_up (sBF_up (sBF_up hB2 b0) be) bn) c59) u0 ⟨n1, n2⟩ d59 rfl (by rw [nh_0 e1.2.2.1.2.1 e2.2.2.1.2.2]; rfl)
      · rw [if_neg hz]
        exact IN.mk hI9 rfl rfl rfl rfl rfl rfl (sBF_up (sBF_up (sBF_up hB2 b0) be) c5) u0 ⟨e1, e2⟩ d5 rfl rfl
    · rw [if_neg he]
      obtain ⟨n1, n2⟩ := st_note s1 s2
      have bn := nh_B s1 s2 (by omega) (hB2 2)
      by_cases hz : z = 0
      · rw [if_pos hz]
        by_cases ha : m = nhF (F 2) (F 1) 1
        · rw [if_pos ha]
          have q := st_acc n1 n2 (show m < F 1 8 by omega) h7 ha
          have bq : sB (10000 + 200 * n) (up (nhF (F 2) (F 1)) 1 (nhF (F 2) (F 1) 1 + 1)) := sB_up bn (by rw [nh_1 s1 s2]; have := s1.1; have := s2.1; have := s2.2.2.2.2.1; have := s1.2.2.2.2.1; have := s2.2.2.2.2.2.1; exact ⟨by omega, by omega⟩)
          exact IN.mk hI9 rfl rfl rfl rfl rfl rfl (sBF_up (sBF_up (sBF_up hB2 b0) bq) c53) u0 q d53 rfl (show nhF (F 2) (F 1) 0 = F 2 0 from (by rw [nh_0 s1.2.2.1.2.1 s2.2.2.1.2.2]; rfl))
        · rw [if_neg ha]
          exact IN.mk hI9 rfl rfl rfl rfl rfl rfl (sBF_up (sBF_up (sBF_up hB2 b0) bn) c539) u0 ⟨n1, n2⟩ d539 rfl (by rw [nh_0 s1.2.2.1.2.1 s2.2.2.1.2.2]; rfl)
      · rw [if_neg hz]
        exact IN.mk hI9 rfl rfl rfl rfl rfl rfl (sBF_up (sBF_up hB2 b0) c53) u0 ⟨s1, s2⟩ d53 rfl rfl
  · rw [if_neg ht]
    rw [if_neg ht] at h7 h0
    by_cases he : F 2 8 ≤ m
    · rw [if_pos he]
      obtain ⟨e1, e2⟩ := st_ever s2 s1 hm0 h7 h0 he
      have be : sB (10000 + 200 * n) (up (F 2) 8 (m + 1)) := sB_up (hB2 2) (by have := s2.2.2.2.2.1; exact ⟨by omega, by omega⟩)
      obtain ⟨n1, n2⟩ := st_note e1 e2
      have bn := nh_B e1 e2 (by omega) (hB2 1)
      by_cases hz : z = 0
      · rw [if_pos hz]
        by_cases ha : m = nhF (F 1) (up (F 2) 8 (m + 1)) 1
        · rw [if_pos ha]
          have q := st_acc n1 n2 (show m < m + 1 by omega) h7 ha
          have bq : sB (10000 + 200 * n) (up (nhF (F 1) (up (F 2) 8 (m + 1))) 1 (nhF (F 1) (up (F 2) 8 (m + 1)) 1 + 1)) := sB_up bn (by rw [nh_1 e1 e2]; have := s1.1; have := s2.1; have := s2.2.2.2.2.1; have := s1.2.2.2.2.1; have := s1.2.2.2.2.2.1; exact ⟨by omega, by omega⟩)
          exact IN.mk hI9 rfl rfl rfl rfl rfl rfl (sBF_up (sBF_up (sBF_up (sBF_up hB2 b0) bq) be) c5) u0 ⟨q.2, q.1⟩ d5 (show nhF (F 1) (up (F 2) 8 (m + 1)) 0 = F 1 0 from (by rw [nh_0 e1.2.2.1.2.1 e2.2.2.1.2.2]; rfl)) rfl
        · rw [if_neg ha]
          exact IN.mk hI9 rfl rfl rfl rfl rfl rfl (sBF_up (sBF_up (sBF_up (sBF_up hB2 b0) bn) be) c59) u0 ⟨n2, n1⟩ d59 (by rw [nh_0 e1.2.2.1.2.1 e2.2.2.1.2.2]; rfl) rfl
      · rw [if_neg hz]
        exact IN.mk hI9 rfl rfl rfl rfl rfl rfl (sBF_up (sBF_up (sBF_up hB2 b0) be) c5) u0 ⟨e2, e1⟩ d5 rfl rfl
    · rw [if_neg he]
      obtain ⟨n1, n2⟩ := st_note s2 s1
      have bn := nh_B s2 s1 (by omega) (hB2 1)
      by_cases hz : z = 0
      · rw [if_pos hz]
        by_cases ha : m = nhF (F 1) (F 2) 1
        · rw [if_pos ha]
          have q := st_acc n1 n2 (show m < F 2 8 by omega) h7 ha
          have bq : sB (10000 + 200 * n) (up (nhF (F 1) (F 2)) 1 (nhF (F 1) (F 2) 1 + 1)) := sB_up bn (by rw [nh_1 s2 s1]; have := s1.1; have := s2.1; have := s2.2.2.2.2.1; have := s1.2.2.2.2.1; have := s1.2.2.2.2.2.1; exact ⟨by omega, by omega⟩)
          exact IN.mk hI9 rfl rfl rfl rfl rfl rfl (sBF_up (sBF_up (sBF_up hB2 b0) bq) c53) u0 ⟨q.2, q.1⟩ d53 (show nhF (F 1) (F 2) 0 = F 1 0 from (by rw [nh_0 s2.2.2.1.2.1 s1.2.2.1.2.2]; rfl)) rfl
        · rw [if_neg ha]
          exact IN.mk hI9 rfl rfl rfl rfl rfl rfl (sBF_up (sBF_up (sBF_up hB2 b0) bn) c539) u0 ⟨n2, n1⟩ d539 (by rw [nh_0 s2.2.2.1.2.1 s1.2.2.1.2.2]; rfl) rfl
      · rw [if_neg hz]
        exact IN.mk hI9 rfl rfl rfl rfl rfl rfl (sBF_up (sBF_up hB2 b0) c53) u0 ⟨s1, s2⟩ d53 rfl rfl
theorem stLn_in {F : Int → Int → Int} {z n : Int} (hI : INp F n) (hn : 0 ≤ n) (hz01 : z = 0 ∨ z = 1) : IN (stLn z F) n := by
  have hI9 := hI
  obtain ⟨t0, ⟨s1, s2⟩, t5, le, hB⟩ := hI
  have hB2 : ∀ i, sB (10000 + 200 * n) (F i) := fun i => sB_mono (by omega) (hB i)
  have a4 := hB 5 4; have a5 := hB 5 5; have a8 := hB 5 8
  have sil := t0.2.2.2.2.2
  have c4 : sB (10000 + 200 * n) (up (F 5) 4 (F 5 4 + 1)) := sB_up (hB2 5) ⟨by omega, by omega⟩
  have c48 : sB (10000 + 200 * n) (up (up (F 5) 4 (F 5 4 + 1)) 8 (F 5 8 + F 0 5)) := sB_up c4 ⟨by omega, by omega⟩
  have c45 : sB (10000 + 200 * n) (up (up (F 5) 4 (F 5 4 + 1)) 5 (F 5 5 + 1)) := sB_up c4 ⟨by omega, by omega⟩
  have c458 : sB (10000 + 200 * n) (up (up (up (F 5) 4 (F 5 4 + 1)) 5 (F 5 5 + 1)) 8 (F 5 8 + F 0 5)) := sB_up c45 ⟨by omega, by omega⟩
  have d4 := T5_t t5
  have d48 : T5 (up (up (F 5) 4 (F 5 4 + 1)) 8 (F 5 8 + F 0 5)) n := T5_up d4 (by decide)
  have d45 : T5 (up (up (F 5) 4 (F 5 4 + 1)) 5 (F 5 5 + 1)) n := T5_up d4 (by decide)
  have d458 : T5 (up (up (up (F 5) 4 (F 5 4 + 1)) 5 (F 5 5 + 1)) 8 (F 5 8 + F 0 5)) n := T5_up d45 (by decide)
  have ul := T0_l t0 hz01
  have bl : sB (10000 + 200 * n) (up (F 0) 6 z) := sB_up (hB2 0) ⟨by omega, by omega⟩
  unfold stLn
  by_cases ht : F 0 1 = 0
  · rw [if_pos ht]
    have q := st_turn s1 s2
    have b9 := hB 1 9
    have bt1 : sB (10000 + 200 * n) (up (F 1) 9 (F 1 9 + 1)) := sB_up (hB2 1) ⟨by omega, by omega⟩
    have bt2 : sB (10000 + 200 * n) (rcF (F 1 4) (nhF (F 2) (F 1))) := by
      rw [s1.2.2.1.1]
      exact rc_B (st_note s1 s2).2.2.2.1.2.1 (by omega) (nh_B s1 s2 (by omega) (hB2 2))
    have el : rcF (F 1 4) (nhF (F 2) (F 1)) 0 = F 2 0 := by
      rw [s1.2.2.1.1, rc_0 (st_note s1 s2).2.2.2.1.2.1, nh_0 s1.2.2.1.2.1 s2.2.2.1.2.2]; rfl
    by_cases h6 : F 0 6 = 0
    · rw [if_pos h6]
      by_cases hz : z = 0
      · rw [if_pos hz]
        have ut := T0_t t0 hz
        have bu := (T0_B t0 (by omega) (hB2 0)).2
        subst hz
        exact IN.mk hI9 rfl rfl rfl rfl rfl rfl (sBF_up (sBF_up (sBF_up (sBF_up hB2 bu) bt1) bt2) c4) ut q d4 rfl el
      · rw [if_neg hz]
        exact IN.mk hI9 rfl rfl rfl rfl rfl rfl (sBF_up (sBF_up hB2 bl) c48) ul ⟨s1, s2⟩ d48 rfl rfl
    · rw [if_neg h6]
      by_cases hz : z = 0
      · rw [if_pos hz]
        have ut := T0_t t0 hz
        have bu := (T0_B t0 (by omega) (hB2 0)).2
        subst hz
        exact IN.mk hI9 rfl rfl rfl rfl rfl rfl (sBF_up (sBF_up (sBF_up (sBF_up hB2 bu) bt1) bt2) c45) ut q d45 rfl el
      · rw [if_neg hz]
        exact IN.mk hI9 rfl rfl rfl rfl rfl rfl (sBF_up (sBF_up hB2 bl) c458) ul ⟨s1, s2⟩ d458 rfl rfl
  · rw [if_neg ht]
    have q := st_turn s2 s1
    have b9 := hB 2 9
    have bt1 : sB (10000 + 200 * n) (up (F 2) 9 (F 2 9 + 1)) := sB_up (hB2 2) ⟨by omega, by omega⟩
    have bt2 : sB (10000 + 200 * n) (rcF (F 2 4) (nhF (F 1) (F 2))) := by
      rw [s2.2.2.1.1]
      exact rc_B (st_note s2 s1).2.2.2.1.2.1 (by omega) (nh_B s2 s1 (by omega) (hB2 1))
    have el : rcF (F 2 4) (nhF (F 1) (F 2)) 0 = F 1 0 := by
      rw [s2.2.2.1.1, rc_0 (st_note s2 s1).2.2.2.1.2.1, nh_0 s2.2.2.1.2.1 s1.2.2.1.2.2]; rfl
    by_cases h6 : F 0 6 = 0
    · rw [if_pos h6]
      by_cases hz : z = 0
      · rw [if_pos hz]
        have ut := T0_t t0 hz
        have bu := (T0_B t0 (by omega) (hB2 0)).2
        subst hz
        exact IN.mk hI9 rfl rfl rfl rfl rfl rfl (sBF_up (sBF_up (sBF_up (sBF_up hB2 bu) bt2) bt1) c4) ut ⟨q.2, q.1⟩ d4 el rfl
      · rw [if_neg hz]
        exact IN.mk hI9 rfl rfl rfl rfl rfl rfl (sBF_up (sBF_up hB2 bl) c48) ul ⟨s1, s2⟩ d48 rfl rfl
    · rw [if_neg h6]
      by_cases hz : z = 0
      · rw [if_pos hz]
        have ut := T0_t t0 hz
        have bu := (T0_B t0 (by omega) (hB2 0)).2
        subst hz
        exact IN.mk hI9 rfl rfl rfl rfl rfl rfl (sBF_up (sBF_up (sBF_up (sBF_up hB2 bu) bt2) bt1) c45) ut ⟨q.2, q.1⟩ d45 el rfl
      · rw [if_neg hz]
        exact IN.mk hI9 rfl rfl rfl rfl rfl rfl (sBF_up (sBF_up hB2 bl) c458) ul ⟨s1, s2⟩ d458 rfl rfl
end Inv
