section ReadF
/-- the reader before its next token; at a token -/
def BF (g : Int → Int) (ln p w8 w9 : Int) : Prop := RO g ∧ g 1 = ln ∧ g 2 = p ∧ g 7 = 0 ∧ g 8 = w8 ∧ g 9 = w9
def TK (g : Int → Int) (ln e k s v w8 w9 : Int) : Prop := BF g ln e w8 w9 ∧ g 3 = k ∧ g 4 = s ∧ (k = 2 → g 5 = v)
/-- a text lies at p -/
def TA (f : Int → Int) : Int → List Int → Prop
  | _, [] => True
  | p, c :: l => f p = c ∧ TA f (p + 1) l
theorem TA_app {f : Int → Int} : ∀ (l m : List Int) (p : Int), TA f p (l ++ m) ↔ TA f p l ∧ TA f (p + (l.length : Int)) m := by
  intro l
  induction l with
  | nil => intro m p; show TA f p m ↔ True ∧ TA f (p + 0) m; rw [Int.add_zero]; exact ⟨fun h => ⟨trivial, h⟩, fun h => h.2⟩
  | cons c l ih =>
    intro m p
    show (f p = c ∧ TA f (p + 1) (l ++ m)) ↔ (f p = c ∧ TA f (p + 1) l) ∧ TA f (p + ((l.length + 1 : Nat) : Int)) m
    rw [ih m (p + 1), show p + ((l.length + 1 : Nat) : Int) = p + 1 + (l.length : Int) by omega]
    exact ⟨fun h => ⟨⟨h.1, h.2.1⟩, h.2.2⟩, fun h => ⟨h.1.1, h.1.2, h.2⟩⟩
theorem TA_c {f g : Int → Int} : ∀ (l : List Int) (p : Int), (∀ j, p ≤ j → j < p + (l.length : Int) → g j = f j) → TA f p l → TA g p l := by
  intro l
  induction l with
  | nil => intro p _ _; trivial
  | cons c l ih =>
    intro p h ht
    have e : ((c :: l).length : Int) = (l.length : Int) + 1 := by simp
    exact ⟨(h p (Int.le_refl _) (by omega)).trans ht.1, ih (p + 1) (fun j h0 h1 => h j (by omega) (by omega)) ht.2⟩
theorem TA_all {f : Int → Int} {P : Int → Prop} : ∀ (l : List Int) (p : Int), TA f p l → (∀ c ∈ l, P c) → ∀ j, p ≤ j → j < p + (l.length : Int) → P (f j) := by
  intro l
  induction l with
  | nil => intro p _ _ j h0 h1; exact absurd h1 (by simp; omega)
  | cons c l ih =>
    intro p ht hP j h0 h1
    have e : ((c :: l).length : Int) = (l.length : Int) + 1 := by simp
    by_cases hj : j = p
    · rw [hj, ht.1]; exact hP c List.mem_cons_self
    · exact ih (p + 1) ht.2 (fun c hc => hP c (List.mem_cons_of_mem _ hc)) j (by omega) (by omega)
theorem runE_u {p : Int → Prop} [DecidablePred p] {bu : Int → Int} {n s e : Int} (h0 : s ≤ e) (h1 : e ≤ n) (hin : ∀ j, s ≤ j → j < e → p (bu j)) (hout : e = n ∨ ¬ p (bu e)) : runE p bu n s = e := by
  have es : s + ((e - s).toNat : Int) = e := by omega
  have k := skN_u (p := fun j : Nat => ¬ (s + (j : Int) < n ∧ p (bu (s + (j : Int))))) (n - s).toNat (e - s).toNat (fun j hj h => h ⟨by omega, hin _ (by omega) (by omega)⟩) (by omega) (by
    rcases hout with h | h
    · exact Or.inr (by rw [h])
    · exact Or.inl (fun x => h (by rw [es] at x; exact x.2)))
  unfold runE
  rw [← k]
  exact es
def dcL (v : Int) : List Int := if v < 10 then [48 + v] else if v < 100 then [48 + v / 10, 48 + v % 10] else [48 + v / 100, 48 + v / 10 % 10, 48 + v % 10]
theorem dcL_len {v : Int} : ((dcL v).length : Int) = szI v := by
  unfold dcL szI
  split
  · rfl
  · split <;> rfl
theorem num_ok {bu : Int → Int} {q v : Int} (hv : 0 ≤ v ∧ v ≤ 255) (h : TA bu q (dcL v)) : (∀ j, q ≤ j → j < q + szI v → dgP (bu j)) ∧ dgV bu q (szI v).toNat = v := by
  have d0 : ∀ s, dgV bu s 0 = 0 := fun _ => rfl
  have ds : ∀ (s : Int) (k : Nat), dgV bu s (k + 1) = 10 * dgV bu s k + bu (s + (k : Int)) - 48 := fun _ _ => rfl
  unfold dcL at h
  by_cases c : v < 10
  · have es : szI v = 1 := if_pos c
    rw [if_pos c] at h
    obtain ⟨a0, _⟩ := h
    rw [es]
    refine ⟨fun j h0 h1 => ?_, ?_⟩
    · obtain rfl : j = q := by omega
      exact ⟨by omega, by omega⟩
    · show dgV bu q 1 = v
      rw [ds, d0, show q + ((0 : Nat) : Int) = q by omega]
      omega
  · rw [if_neg c] at h
    by_cases c2 : v < 100
    · have es : szI v = 2 := by unfold szI; rw [if_neg c, if_pos c2]
      rw [if_pos c2] at h
      obtain ⟨a0, a1, _⟩ := h
      rw [es]
      refine ⟨fun j h0 h1 => ?_, ?_⟩
      · rcases (show j = q ∨ j = q + 1 by omega) with rfl | rfl
        · exact ⟨by omega, by omega⟩
        · exact ⟨by omega, by omega⟩
      · show dgV bu q 2 = v
        rw [ds, ds, d0, show q + ((0 : Nat) : Int) = q by omega, show q + ((1 : Nat) : Int) = q + 1 by omega]
        omega
    · have es : szI v = 3 := by unfold szI; rw [if_neg c, if_neg c2]
      rw [if_neg c2] at h
      obtain ⟨a0, a1, a2, _⟩ := h
      rw [es]
      refine ⟨fun j h0 h1 => ?_, ?_⟩
      · rcases (show j = q ∨ j = q + 1 ∨ j = q + 1 + 1 by omega) with rfl | rfl | rfl
        · exact ⟨by omega, by omega⟩
        · exact ⟨by omega, by omega⟩
        · exact ⟨by omega, by omega⟩
      · show dgV bu q 3 = v
        rw [ds, ds, ds, d0, show q + ((0 : Nat) : Int) = q by omega, show q + ((1 : Nat) : Int) = q + 1 by omega, show q + ((2 : Nat) : Int) = q + 1 + 1 by omega]
        omega
/-- a word is read -/
theorem rd_word0 {bu h : Int → Int} {ln n w8 w9 c : Int} {wd : List Int} {r : List Int} (hb : sB 1000 bu) (ro : RO1 h) (g1 : h 1 = ln) (g2 : h 2 = n) (g7 : h 7 = 0) (g8 : h 8 = w8) (g9 : h 9 = w9) (hT : TA bu n (wd ++ c :: r)) (hw : ∀ x ∈ wd, ltP x) (hc : ¬ ltP c) (h1 : 1 ≤ wd.length ∧ wd.length ≤ 8) (hln : n + (wd.length : Int) < ln) :
    TK (avR h bu) ln (n + (wd.length : Int)) 1 n 0 w8 w9 := by
  obtain ⟨t1, t2, _⟩ := (TA_app _ _ _).mp hT
  have al := TA_all wd n t1 hw
  have l0 := al n (Int.le_refl _) (by omega)
  have s1 : runE spP bu ln n = n := runE_u (Int.le_refl _) (by omega) (fun j a b => absurd b (by omega)) (Or.inr (fun x => by unfold spP at x; unfold ltP at l0; omega))
  have s2 : runE ltP bu ln n = n + (wd.length : Int) := runE_u (by omega) (by omega) (fun j a b => al j a b) (Or.inr (by rw [t2]; exact hc))
  have e : avR h bu = plR (skR h bu) bu := by
    unfold avR
    rw [g1, g2, s1, if_neg (by omega), if_neg (by unfold ltP at l0; omega), if_pos l0]
  have hr := avR_ok ro hb
  rw [e] at hr ⊢
  have f2 : plR (skR h bu) bu 2 = n + (wd.length : Int) := by
    show runE ltP bu (h 1) (runE spP bu (h 1) (h 2)) = _
    rw [g1, g2, s1, s2]
  have f3 : plR (skR h bu) bu 3 = 1 := by
    show (if 8 < runE ltP bu (h 1) (runE spP bu (h 1) (h 2)) - runE spP bu (h 1) (h 2) then (4 : Int) else 1) = 1
    rw [g1, g2, s1, s2, if_neg (by omega)]
  have f4 : plR (skR h bu) bu 4 = n := by
    show runE spP bu (h 1) (h 2) = _
    rw [g1, g2, s1]
  exact ⟨⟨hr, g1, f2, g7, g8, g9⟩, f3, f4, fun x => absurd x (by decide)⟩
theorem rd_word {bu h : Int → Int} {ln n w8 w9 c : Int} {wd : List Int} {r : List Int} (hb : sB 1000 bu) (hh : BF h ln n w8 w9) (hT : TA bu n (wd ++ c :: r)) (hw : ∀ x ∈ wd, ltP x) (hc : ¬ ltP c) (h1 : 1 ≤ wd.length ∧ wd.length ≤ 8) (hln : n + (wd.length : Int) < ln) :
    TK (avR h bu) ln (n + (wd.length : Int)) 1 n 0 w8 w9 := rd_word0 hb hh.1.one hh.2.1 hh.2.2.1 hh.2.2.2.1 hh.2.2.2.2.1 hh.2.2.2.2.2 hT hw hc h1 hln
/-- a number is read -/
theorem rd_num {bu h : Int → Int} {ln n w8 w9 v c : Int} {r : List Int} (hb : sB 1000 bu) (hh : BF h ln n w8 w9) (hv : 0 ≤ v ∧ v ≤ 255) (hT : TA bu n (32 :: (dcL v ++ c :: r))) (hc : ¬ dgP c) (hln : n + 1 + szI v < ln) :
    TK (avR h bu) ln (n + 1 + szI v) 2 (n + 1) v w8 w9 := by
  obtain ⟨ro, g1, g2, g7, g8, g9⟩ := hh
  obtain ⟨t0, hT2⟩ := hT
  obtain ⟨t1, t2, _⟩ := (TA_app _ _ _).mp hT2
  rw [dcL_len] at t2
  obtain ⟨al, vl⟩ := num_ok hv t1
  have sz := szI_in (v := v)
  have l0 := al (n + 1) (Int.le_refl _) (by omega)
  have s1 : runE spP bu ln n = n + 1 := runE_u (by omega) (by omega) (fun j a b => by have ej : j = n := (by omega); rw [ej]; exact Or.inl t0) (Or.inr (fun x => by unfold spP at x; unfold dgP at l0; omega))
  have s2 : runE dgP bu ln (n + 1) = n + 1 + szI v := runE_u (by omega) (by omega) (fun j a b => al j a b) (Or.inr (by rw [t2]; exact hc))
  have e : avR h bu = pdR (skR h bu) bu := by
    unfold avR
    rw [g1, g2, s1, if_neg (by omega), if_neg (by unfold dgP at l0; omega), if_neg (by unfold ltP; unfold dgP at l0; omega), if_pos l0]
  have hr := avR_ok ro.one hb
  rw [e] at hr ⊢
  have f2 : pdR (skR h bu) bu 2 = n + 1 + szI v := by
    show runE dgP bu (h 1) (runE spP bu (h 1) (h 2)) = _
    rw [g1, g2, s1, s2]
  have f3 : pdR (skR h bu) bu 3 = 2 := by
    show (if 3 < runE dgP bu (h 1) (runE spP bu (h 1) (h 2)) - runE spP bu (h 1) (h 2) then (4 : Int) else 2) = 2
    rw [g1, g2, s1, s2, if_neg (by omega)]
  have f4 : pdR (skR h bu) bu 4 = n + 1 := by
    show runE spP bu (h 1) (h 2) = _
    rw [g1, g2, s1]
  have f5 : pdR (skR h bu) bu 5 = v := by
    show dgV bu (runE spP bu (h 1) (h 2)) (runE dgP bu (h 1) (runE spP bu (h 1) (h 2)) - runE spP bu (h 1) (h 2)).toNat = v
    rw [g1, g2, s1, s2, show n + 1 + szI v - (n + 1) = szI v by omega]
    exact vl
  exact ⟨⟨hr, g1, f2, g7, g8, g9⟩, f3, f4, fun _ => f5⟩
/-- a semicolon is read; the end is reached -/
theorem rd_semi {bu h : Int → Int} {ln n w8 w9 : Int} {r : List Int} (hb : sB 1000 bu) (hh : BF h ln n w8 w9) (hT : TA bu n (59 :: r)) (hln : n < ln) : TK (avR h bu) ln (n + 1) 3 n 0 w8 w9 := by
  obtain ⟨ro, g1, g2, g7, g8, g9⟩ := hh
  obtain ⟨t0, _⟩ := hT
  have s1 : runE spP bu ln n = n := runE_u (Int.le_refl _) (by omega) (fun j a b => absurd b (by omega)) (Or.inr (fun x => by unfold spP at x; omega))
  have e : avR h bu = up (up (skR h bu) 3 3) 2 (n + 1) := by
    unfold avR
    rw [g1, g2, s1, if_neg (by omega), if_pos t0]
  have hr := avR_ok ro.one hb
  rw [e] at hr ⊢
  have f4 : up (up (skR h bu) 3 3) 2 (n + 1) 4 = n := by
    show runE spP bu (h 1) (h 2) = _
    rw [g1, g2, s1]
  exact ⟨⟨hr, g1, rfl, g7, g8, g9⟩, rfl, f4, fun x => absurd x (by decide)⟩
theorem rd_end {bu h : Int → Int} {ln w8 w9 : Int} (_hb : sB 1000 bu) (hh : BF h ln ln w8 w9) : (avR h bu) 7 = 0 ∧ (avR h bu) 3 = 0 := by
  obtain ⟨ro, g1, g2, g7, g8, g9⟩ := hh
  have s1 : runE spP bu ln ln = ln := runE_u (Int.le_refl _) (Int.le_refl _) (fun j a b => absurd b (by omega)) (Or.inl rfl)
  have e : avR h bu = up (skR h bu) 3 0 := by
    unfold avR
    rw [g1, g2, s1, if_pos (Int.le_refl _)]
  rw [e]
  exact ⟨g7, rfl⟩
/-- a number is taken -/
theorem tn_ok {bu g : Int → Int} {ln e s v w8 w9 p q : Int} (ht : TK g ln e 2 s v w8 w9) (hv : p ≤ v ∧ v ≤ q) : tnV g p q = v ∧ tnR g bu p q = avR (up g 6 s) bu ∧ BF (up g 6 s) ln e w8 w9 := by
  obtain ⟨⟨ro, g1, g2, g7, g8, g9⟩, g3, g4, g5⟩ := ht
  have g5 := g5 rfl
  have a4 := ro.at4
  refine ⟨?_, ?_, ⟨RO_up6 ro (by rw [← g4]; exact a4), g1, g2, g7, g8, g9⟩⟩
  · unfold tnV
    rw [if_neg (by omega), if_neg (by omega), if_neg (by omega), g5]
  · unfold tnR
    rw [if_neg (by omega), if_neg (by omega), if_neg (by omega), g4]
theorem isWd_t {bu g : Int → Int} {ln s v w8 w9 : Int} {b : List Int32} {wd r : List Int} (hl : (wd.length : Int) = (b.length : Int)) (ht : TK g ln (s + (wd.length : Int)) 1 s v w8 w9) (hT : TA bu s (wd ++ r)) (hk : ∀ j : Nat, j < b.length → ∀ (f : Int → Int), TA f s wd → f (s + (j : Int)) = chK b (j : Int)) : isWd g bu b := by
  obtain ⟨⟨ro, g1, g2, g7, g8, g9⟩, g3, g4, g5⟩ := ht
  refine ⟨g3, by omega, ?_⟩
  rw [g4]
  exact eqK_t.mpr (fun j hj => hk j hj bu ((TA_app _ _ _).mp hT).1)
theorem isWd_n {bu g : Int → Int} {ln e s v w8 w9 : Int} {b : List Int32} (ht : TK g ln e 1 s v w8 w9) (hl : e - s ≠ (b.length : Int)) : ¬ isWd g bu b := by
  obtain ⟨⟨ro, g1, g2, g7, g8, g9⟩, g3, g4, g5⟩ := ht
  intro h
  exact hl (by have := h.2.1; omega)
theorem ts_ok {bu g : Int → Int} {ln e s v w8 w9 : Int} (ht : TK g ln e 3 s v w8 w9) : tsR g bu = avR g bu := by
  obtain ⟨⟨ro, g1, g2, g7, g8, g9⟩, g3, g4, g5⟩ := ht
  unfold tsR
  rw [if_pos ⟨g7, g3⟩]
theorem wd_win {f : Int → Int} {s : Int} (h : TA f s [119, 105, 110, 100, 111, 119]) : ∀ j : Nat, j < 6 → f (s + (j : Int)) = chK sK1 (j : Int) := by
  obtain ⟨a0, a1, a2, a3, a4, a5, _⟩ := h
  intro j hj
  rcases (show j = 0 ∨ j = 1 ∨ j = 2 ∨ j = 3 ∨ j = 4 ∨ j = 5 by omega) with rfl | rfl | rfl | rfl | rfl | rfl
  · rw [show s + ((0 : Nat) : Int) = s by omega]; exact a0
  · rw [show s + ((1 : Nat) : Int) = s + 1 by omega]; exact a1
  · rw [show s + ((2 : Nat) : Int) = s + 1 + 1 by omega]; exact a2
  · rw [show s + ((3 : Nat) : Int) = s + 1 + 1 + 1 by omega]; exact a3
  · rw [show s + ((4 : Nat) : Int) = s + 1 + 1 + 1 + 1 by omega]; exact a4
  · rw [show s + ((5 : Nat) : Int) = s + 1 + 1 + 1 + 1 + 1 by omega]; exact a5
theorem wd_msg {f : Int → Int} {s : Int} (h : TA f s [109, 101, 115, 115, 97, 103, 101]) : ∀ j : Nat, j < 7 → f (s + (j : Int)) = chK sK2 (j : Int) := by
  obtain ⟨a0, a1, a2, a3, a4, a5, a6, _⟩ := h
  intro j hj
  rcases (show j = 0 ∨ j = 1 ∨ j = 2 ∨ j = 3 ∨ j = 4 ∨ j = 5 ∨ j = 6 by omega) with rfl | rfl | rfl | rfl | rfl | rfl | rfl
  · rw [show s + ((0 : Nat) : Int) = s by omega]; exact a0
  · rw [show s + ((1 : Nat) : Int) = s + 1 by omega]; exact a1
  · rw [show s + ((2 : Nat) : Int) = s + 1 + 1 by omega]; exact a2
  · rw [show s + ((3 : Nat) : Int) = s + 1 + 1 + 1 by omega]; exact a3
  · rw [show s + ((4 : Nat) : Int) = s + 1 + 1 + 1 + 1 by omega]; exact a4
  · rw [show s + ((5 : Nat) : Int) = s + 1 + 1 + 1 + 1 + 1 by omega]; exact a5
  · rw [show s + ((6 : Nat) : Int) = s + 1 + 1 + 1 + 1 + 1 + 1 by omega]; exact a6
theorem wd_lose {f : Int → Int} {s : Int} (h : TA f s [108, 111, 115, 101]) : ∀ j : Nat, j < 4 → f (s + (j : Int)) = chK sK3 (j : Int) := by
  obtain ⟨a0, a1, a2, a3, _⟩ := h
  intro j hj
  rcases (show j = 0 ∨ j = 1 ∨ j = 2 ∨ j = 3 by omega) with rfl | rfl | rfl | rfl
  · rw [show s + ((0 : Nat) : Int) = s by omega]; exact a0
  · rw [show s + ((1 : Nat) : Int) = s + 1 by omega]; exact a1
  · rw [show s + ((2 : Nat) : Int) = s + 1 + 1 by omega]; exact a2
  · rw [show s + ((3 : Nat) : Int) = s + 1 + 1 + 1 by omega]; exact a3
theorem wd_line {f : Int → Int} {s : Int} (h : TA f s [108, 105, 110, 101]) : ∀ j : Nat, j < 4 → f (s + (j : Int)) = chK sK0 (j : Int) := by
  obtain ⟨a0, a1, a2, a3, _⟩ := h
  intro j hj
  rcases (show j = 0 ∨ j = 1 ∨ j = 2 ∨ j = 3 by omega) with rfl | rfl | rfl | rfl
  · rw [show s + ((0 : Nat) : Int) = s by omega]; exact a0
  · rw [show s + ((1 : Nat) : Int) = s + 1 by omega]; exact a1
  · rw [show s + ((2 : Nat) : Int) = s + 1 + 1 by omega]; exact a2
  · rw [show s + ((3 : Nat) : Int) = s + 1 + 1 + 1 by omega]; exact a3
/-- what reading one statement does -/
def ST1 (bu : Int → Int) (ln p2 w8 w9 : Int) (h : Int → Int) (F F2 : Int → Int → Int) (K K2 : Int → Int → Int64) : Prop := ((avR h bu) 7 = 0 ∧ ¬ (avR h bu) 3 = 0) ∧ ∃ h2 : Int → Int, rsT bu (avR h bu, F, K) = (avR h2 bu, F2, K2) ∧ BF h2 ln p2 w8 w9
theorem st_win {bu h : Int → Int} {F : Int → Int → Int} {K : Int → Int → Int64} {ln n k c w8 w9 : Int} (hb : sB 1000 bu) (hh : BF h ln n w8 w9) (hk : k = 0 ∨ k = 1) (hc : 1 ≤ c ∧ c ≤ 9) (hT : TA bu n ([119, 105, 110, 100, 111, 119] ++ 32 :: (dcL k ++ 32 :: (dcL c ++ [59])))) (hl : n + 11 ≤ ln) (hw : if k = 0 then w8 = 0 else w9 = 0) :
    ST1 bu ln (n + 11) (if k = 0 then 1 else w8) (if k = 0 then w9 else 1) h F (if k = 0 then up F 1 (up (F 1) 3 c) else up F 2 (up (F 2) 3 c)) K K := by
  have zk : szI k = 1 := by unfold szI; rw [if_pos (by omega)]
  have zc : szI c = 1 := by unfold szI; rw [if_pos (by omega)]
  have t0 := rd_word hb hh hT (by decide) (by decide) (by decide) (by show n + 6 < ln; omega)
  have t0' : TK (avR h bu) ln (n + 6) 1 n 0 w8 w9 := t0
  have i1 : isWd (avR h bu) bu sK1 := isWd_t (wd := [119, 105, 110, 100, 111, 119]) rfl t0 hT (fun j hj f hf => wd_win hf j hj)
  have T1 : TA bu (n + 6) (32 :: (dcL k ++ 32 :: (dcL c ++ [59]))) := ((TA_app _ _ _).mp hT).2
  have T2 : TA bu (n + 8) (32 :: (dcL c ++ [59])) := by
    have := ((TA_app _ _ _).mp T1.2).2
    rw [dcL_len, zk, show n + 6 + 1 + 1 = n + 8 by omega] at this
    exact this
  have T3 : TA bu (n + 10) [59] := by
    have := ((TA_app _ _ _).mp T2.2).2
    rw [dcL_len, zc, show n + 8 + 1 + 1 = n + 10 by omega] at this
    exact this
  have t1 := rd_num hb t0'.1 (v := k) (by omega) T1 (by decide) (by omega)
  rw [zk, show n + 6 + 1 + 1 = n + 8 by omega] at t1
  generalize hg1 : avR (avR h bu) bu = g1 at *
  obtain ⟨v1, r1, b1⟩ := tn_ok (bu := bu) (p := 0) (q := 1) t1 (by omega)
  have t2 := rd_num hb b1 (v := c) (by omega) T2 (by decide) (by omega)
  rw [zc, show n + 8 + 1 + 1 = n + 10 by omega] at t2
  rw [← r1] at t2
  have e2 : rw2 g1 bu = tnR g1 bu 0 1 := by
    unfold rw2
    rw [v1]
    have z8 := t2.1.2.2.2.2.1
    have z9 := t2.1.2.2.2.2.2
    rw [if_pos (by split <;> rename_i q <;> simp only [q, if_true, if_false] at hw <;> omega)]
  have t3 : TK (rw3 g1 bu) ln (n + 10) 2 (n + 8 + 1) c (if k = 0 then 1 else w8) (if k = 0 then w9 else 1) := by
    unfold rw3
    rw [v1, e2]
    generalize tnR g1 bu 0 1 = g2 at *
    obtain ⟨⟨ro, a1, a2, a7, a8, a9⟩, a3, a4, a5⟩ := t2
    by_cases c0 : k = 0
    · rw [if_pos c0, if_pos c0, if_pos c0]
      exact ⟨⟨⟨ro.1, ro.2.1, ro.2.2.1, ro.2.2.2.1, ro.2.2.2.2.1, Or.inr rfl, ro.2.2.2.2.2.2⟩, a1, a2, a7, rfl, a9⟩, a3, a4, a5⟩
    · rw [if_neg c0, if_neg c0, if_neg c0]
      exact ⟨⟨⟨ro.1, ro.2.1, ro.2.2.1, ro.2.2.2.1, ro.2.2.2.2.1, ro.2.2.2.2.2.1, Or.inr rfl, ro.2.2.2.2.2.2.2⟩, a1, a2, a7, a8, rfl⟩, a3, a4, a5⟩
  obtain ⟨v3, r3, b3⟩ := tn_ok (bu := bu) (p := 1) (q := 9) t3 hc
  have t4 := rd_semi hb b3 T3 (by omega)
  rw [show n + 10 + 1 = n + 11 by omega] at t4
  refine ⟨⟨t0'.1.2.2.2.1, by rw [t0'.2.1]; decide⟩, rwR g1 bu, ?_, ?_⟩
  · unfold rsT rsR rsF rsK
    dsimp only
    rw [if_pos i1, if_pos i1, if_pos i1, hg1]
    have eR : rwR g1 bu = avR (up (rw3 g1 bu) 6 (n + 8 + 1)) bu := r3
    rw [← eR] at t4
    rw [ts_ok t4]
    unfold rwF
    rw [v1, v3]
  · have eR : rwR g1 bu = avR (up (rw3 g1 bu) 6 (n + 8 + 1)) bu := r3
    rw [eR]
    exact t4.1
theorem st_lose {bu h : Int → Int} {F : Int → Int → Int} {K : Int → Int → Int64} {ln n v w8 w9 : Int} (hb : sB 1000 bu) (hh : BF h ln n w8 w9) (hv : 0 ≤ v ∧ v ≤ 255) (hT : TA bu n ([108, 111, 115, 101] ++ 32 :: (dcL v ++ [59]))) (hl : n + 6 + szI v ≤ ln) (hF : F 0 7 < 20) (hn : ¬ tlL (K 2) v) :
    ST1 bu ln (n + 6 + szI v) w8 w9 h F (tLF K v F) K (tLK v K) := by
  have t0 := rd_word hb hh hT (by decide) (by decide) (by decide) (by show n + 4 < ln; have := szI_in (v := v); omega)
  have t0' : TK (avR h bu) ln (n + 4) 1 n 0 w8 w9 := t0
  have i1 : ¬ isWd (avR h bu) bu sK1 := isWd_n t0' (by show n + 4 - n ≠ 6; omega)
  have i2 : ¬ isWd (avR h bu) bu sK2 := isWd_n t0' (by show n + 4 - n ≠ 7; omega)
  have i3 : isWd (avR h bu) bu sK3 := isWd_t (wd := [108, 111, 115, 101]) rfl t0 hT (fun j hj f hf => wd_lose hf j hj)
  have T1 : TA bu (n + 4) (32 :: (dcL v ++ [59])) := ((TA_app _ _ _).mp hT).2
  have T3 : TA bu (n + 5 + szI v) [59] := by
    have := ((TA_app _ _ _).mp T1.2).2
    rw [dcL_len, show n + 4 + 1 + szI v = n + 5 + szI v by omega] at this
    exact this
  have e3 : rs3 (avR h bu) F = avR h bu := by
    unfold rs3
    rw [if_pos hF]
  have t1 := rd_num hb t0'.1 (v := v) hv T1 (by decide) (by omega)
  rw [show n + 4 + 1 + szI v = n + 5 + szI v by omega] at t1
  generalize hg1 : avR (avR h bu) bu = g1 at *
  obtain ⟨v1, r1, b1⟩ := tn_ok (bu := bu) (p := 0) (q := 499) t1 (by omega)
  have t4 := rd_semi hb b1 T3 (by omega)
  rw [show n + 5 + szI v + 1 = n + 6 + szI v by omega] at t4
  refine ⟨⟨t0'.1.2.2.2.1, by rw [t0'.2.1]; decide⟩, avR (up g1 6 (n + 4 + 1)) bu, ?_, t4.1⟩
  unfold rsT rsR rsF rsK
  dsimp only
  rw [if_neg i1, if_neg i1, if_neg i1, if_neg i2, if_neg i2, if_neg i2, if_pos i3, if_pos i3, if_pos i3, e3, hg1]
  unfold rlR rlF rlK
  rw [v1, if_neg hn, r1, ts_ok t4]
/-- a message's bytes, as they are written -/
def bsT : List Int → List Int
  | [] => []
  | b :: l => 32 :: (dcL b ++ bsT l)
theorem bsT_app : ∀ (l m : List Int), bsT (l ++ m) = bsT l ++ bsT m := by
  intro l
  induction l with
  | nil => intro m; rfl
  | cons b l ih => intro m; show 32 :: (dcL b ++ bsT (l ++ m)) = 32 :: (dcL b ++ bsT l) ++ bsT m; rw [ih]; simp
/-- numbers are taken one behind another -/
theorem rm_run {bu : Int → Int} {ln w8 w9 e : Int} (hb : sB 1000 bu) : ∀ (bs : List Int) (g h : Int → Int) (p : Int), g = avR h bu → BF h ln p w8 w9 → (∀ b ∈ bs, 0 ≤ b ∧ b ≤ 255) → TA bu p (bsT bs ++ [59]) → p + ((bsT bs).length : Int) + 1 = e → e ≤ ln →
    TK (rmI g bu bs.length) ln e 3 (e - 1) 0 w8 w9 ∧ ∀ j : Nat, j < bs.length → rmI g bu j 7 = 0 ∧ rmI g bu j 3 = 2 := by
  intro bs
  induction bs with
  | nil =>
    intro g h p hg hh _ hT he hl
    have e0 : ((bsT []).length : Int) = 0 := rfl
    have t := rd_semi hb hh hT (by omega)
    rw [show p + 1 = e by omega, show p = e - 1 by omega] at t
    refine ⟨by rw [hg]; exact t, fun j hj => absurd hj (Nat.not_lt_zero j)⟩
  | cons b bs ih =>
    intro g h p hg hh hB hT he hl
    have hb0 := hB b List.mem_cons_self
    have hlen : ((bsT (b :: bs)).length : Int) = 1 + szI b + ((bsT bs).length : Int) := by
      show ((32 :: (dcL b ++ bsT bs)).length : Int) = _
      have := dcL_len (v := b)
      simp only [List.length_cons, List.length_append]
      omega
    have hT' : TA bu p (32 :: (dcL b ++ (bsT bs ++ [59]))) := by
      have e1 : bsT (b :: bs) ++ [59] = 32 :: (dcL b ++ (bsT bs ++ [59])) := by
        show 32 :: (dcL b ++ bsT bs) ++ [59] = _
        simp
      rw [← e1]; exact hT
    obtain ⟨c, r, hcr, hnc⟩ : ∃ (c : Int) (r : List Int), bsT bs ++ [59] = c :: r ∧ ¬ dgP c := by
      cases bs with
      | nil => exact ⟨59, [], rfl, by decide⟩
      | cons b2 l => exact ⟨32, dcL b2 ++ bsT l ++ [59], by show 32 :: (dcL b2 ++ bsT l) ++ [59] = _; simp, by decide⟩
    have T2 := ((TA_app _ _ _).mp hT'.2).2
    rw [dcL_len] at T2
    have t := rd_num hb hh hb0 (c := c) (r := r) (by rw [← hcr]; exact hT') hnc (by omega)
    rw [← hg] at t
    obtain ⟨v1, r1, b1⟩ := tn_ok (bu := bu) (p := 0) (q := 255) t hb0
    have key := ih (tnR g bu 0 255) (up g 6 (p + 1)) (p + 1 + szI b) r1 b1 (fun x hx => hB x (List.mem_cons_of_mem _ hx)) T2 (by omega) hl
    have sh : ∀ k : Nat, rmI (tnR g bu 0 255) bu k = rmI g bu (k + 1) := by
      intro k
      induction k with
      | zero => rfl
      | succ k ihk => show tnR (rmI (tnR g bu 0 255) bu k) bu 0 255 = tnR (rmI g bu (k + 1)) bu 0 255; rw [ihk]
    refine ⟨by rw [sh] at key; exact key.1, fun j hj => ?_⟩
    cases j with
    | zero => exact ⟨t.1.2.2.2.1, t.2.1⟩
    | succ j =>
      have := key.2 j (by simpa using hj)
      rw [sh] at this
      exact this
theorem st_msg {bu h : Int → Int} {F : Int → Int → Int} {K : Int → Int → Int64} {ln n k w8 w9 e : Int} {bs : List Int} (hb : sB 1000 bu) (hh : BF h ln n w8 w9) (hk : k = 0 ∨ k = 1) (hB : ∀ b ∈ bs, 0 ≤ b ∧ b ≤ 255) (hL : 1 ≤ bs.length ∧ bs.length ≤ 5)
    (hT : TA bu n ([109, 101, 115, 115, 97, 103, 101] ++ 32 :: (dcL k ++ (bsT bs ++ [59])))) (he : n + 9 + ((bsT bs).length : Int) + 1 = e) (hl : e ≤ ln) (hF : (if k = 0 then F 1 0 else F 2 0) < 20) :
    ∃ K2 : Int → Int → Int64, K2 2 = K 2 ∧ ST1 bu ln e w8 w9 h F (if k = 0 then up (up F 1 (adF (F 1))) 3 (adL (F 1) (F 3) (bs.length : Int)) else up (up F 2 (adF (F 2))) 4 (adL (F 2) (F 4) (bs.length : Int))) K K2 := by
  have zk : szI k = 1 := by unfold szI; rw [if_pos (by omega)]
  have hbl : 0 ≤ ((bsT bs).length : Int) := by omega
  have t0 := rd_word hb hh hT (by decide) (by decide) (by decide) (by show n + 7 < ln; omega)
  have t0' : TK (avR h bu) ln (n + 7) 1 n 0 w8 w9 := t0
  have i1 : ¬ isWd (avR h bu) bu sK1 := isWd_n t0' (by show n + 7 - n ≠ 6; omega)
  have i2 : isWd (avR h bu) bu sK2 := isWd_t (wd := [109, 101, 115, 115, 97, 103, 101]) rfl t0 hT (fun j hj f hf => wd_msg hf j hj)
  have T1 : TA bu (n + 7) (32 :: (dcL k ++ (bsT bs ++ [59]))) := ((TA_app _ _ _).mp hT).2
  have T2 : TA bu (n + 9) (bsT bs ++ [59]) := by
    have := ((TA_app _ _ _).mp T1.2).2
    rw [dcL_len, zk, show n + 7 + 1 + 1 = n + 9 by omega] at this
    exact this
  obtain ⟨b0, bl, rfl⟩ : ∃ b0 bl, bs = b0 :: bl := by
    cases bs with
    | nil => exact absurd hL.1 (by decide)
    | cons a l => exact ⟨a, l, rfl⟩
  have T2' : TA bu (n + 9) (32 :: (dcL b0 ++ (bsT bl ++ [59]))) := by
    have e1 : bsT (b0 :: bl) ++ [59] = 32 :: (dcL b0 ++ (bsT bl ++ [59])) := by
      show 32 :: (dcL b0 ++ bsT bl) ++ [59] = _
      simp
    rw [← e1]; exact T2
  have hT1' : TA bu (n + 7) (32 :: (dcL k ++ 32 :: (dcL b0 ++ (bsT bl ++ [59])))) := by
    have e1 : bsT (b0 :: bl) ++ [59] = 32 :: (dcL b0 ++ (bsT bl ++ [59])) := by
      show 32 :: (dcL b0 ++ bsT bl) ++ [59] = _
      simp
    rw [← e1]; exact T1
  have t1 := rd_num hb t0'.1 (v := k) (by omega) hT1' (by decide) (by omega)
  rw [zk, show n + 7 + 1 + 1 = n + 9 by omega] at t1
  generalize hg1 : avR (avR h bu) bu = g1 at *
  obtain ⟨v1, r1, b1⟩ := tn_ok (bu := bu) (p := 0) (q := 1) t1 (by omega)
  have e2 : rm2 g1 bu F = tnR g1 bu 0 1 := by
    unfold rm2
    rw [v1, if_pos hF]
  obtain ⟨key, kind⟩ := rm_run (e := e) hb (b0 :: bl) (tnR g1 bu 0 1) _ (n + 9) r1 b1 hB T2 he hl
  have sh : ∀ q : Nat, rmI (rm3 g1 bu F) bu q = rmI (tnR g1 bu 0 1) bu (q + 1) := by
    intro q
    induction q with
    | zero => show rm3 g1 bu F = tnR (tnR g1 bu 0 1) bu 0 255; unfold rm3; rw [e2]
    | succ q ihq => show tnR (rmI (rm3 g1 bu F) bu q) bu 0 255 = tnR (rmI (tnR g1 bu 0 1) bu (q + 1)) bu 0 255; rw [ihq]
  have hlen : bl.length ≤ 4 := by have := hL.2; simpa using this
  have hN : rmN (rm3 g1 bu F) bu = bl.length := by
    have k := skN_u (p := fun k : Nat => ¬ ((k : Int) + 1 < 8 ∧ rmI (rm3 g1 bu F) bu k 7 = 0 ∧ rmI (rm3 g1 bu F) bu k 3 = 2)) 7 bl.length (fun j hj hx => hx ⟨by omega, by rw [sh]; exact kind (j + 1) (by simp; omega)⟩) (by omega) (Or.inl (fun hx => by
      have := hx.2.2
      rw [sh] at this
      have k3 := key.2.1
      rw [show (b0 :: bl).length = bl.length + 1 from rfl] at k3
      omega))
    exact k.symm
  have e4 : rm4 g1 bu F = rmI (tnR g1 bu 0 1) bu (b0 :: bl).length := by
    unfold rm4
    rw [hN, sh]
    rfl
  have eR : rmR g1 bu F = rmI (tnR g1 bu 0 1) bu (b0 :: bl).length := by
    unfold rmR
    rw [e4, if_neg (by rw [key.2.1]; omega)]
  refine ⟨rmK g1 bu F K, ?_, ⟨t0'.1.2.2.2.1, by rw [t0'.2.1]; decide⟩, rmR g1 bu F, ?_, ?_⟩
  · unfold rmK
    split
    · rfl
    · split <;> rfl
  · unfold rsT rsR rsF rsK
    dsimp only
    rw [if_neg i1, if_neg i1, if_neg i1, if_pos i2, if_pos i2, if_pos i2, hg1]
    have ts : tsR (rmR g1 bu F) bu = avR (rmR g1 bu F) bu := by rw [eR]; exact ts_ok key
    rw [ts]
    congr 2
    unfold rmF
    rw [if_neg (by rw [eR, key.1.2.2.2.1]; exact fun h => h rfl), v1, hN]
    rfl
  · rw [eR]
    exact key.1
end ReadF
