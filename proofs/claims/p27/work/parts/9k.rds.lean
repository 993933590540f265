section RdsF
/-- a text of n bytes, and more of it -/
def ET (f : Int → Int) (n : Int) (f2 : Int → Int) (n2 : Int) (l : List Int) : Prop := n2 = n + (l.length : Int) ∧ (∀ j : Int, 0 ≤ j → j < n → f2 j = f j) ∧ TA f2 n l
theorem ET.rf {f : Int → Int} {n : Int} : ET f n f n [] := ⟨(Int.add_zero n).symm, fun _ _ _ => rfl, trivial⟩
theorem ET.trans {f f2 f3 : Int → Int} {n n2 n3 : Int} {l m : List Int} (hn : 0 ≤ n) (a : ET f n f2 n2 l) (b : ET f2 n2 f3 n3 m) : ET f n f3 n3 (l ++ m) := by
  have e : ((l ++ m).length : Int) = (l.length : Int) + (m.length : Int) := by simp
  refine ⟨by have := a.1; have := b.1; omega, fun j h0 h1 => (b.2.1 j h0 (by have := a.1; omega)).trans (a.2.1 j h0 h1), (TA_app _ _ _).mpr ⟨TA_c l n (fun j h0 h1 => b.2.1 j (by omega) (by have := a.1; omega)) a.2.2, ?_⟩⟩
  rw [← a.1]
  exact b.2.2
theorem TA_str {F : Int → Int} : ∀ (b : List Int32) (p : Int), (∀ j : Int, 0 ≤ j → j < (b.length : Int) → F (p + j) = chK b j) → TA F p (b.map Int32.toInt) := by
  intro b
  induction b with
  | nil => intro p _; trivial
  | cons c b ih =>
    intro p h
    have e : ((c :: b).length : Int) = (b.length : Int) + 1 := by simp
    refine ⟨?_, ih (p + 1) (fun j h0 h1 => ?_)⟩
    · have := h 0 (Int.le_refl _) (by omega)
      rw [Int.add_zero] at this
      exact this
    · have := h (1 + j) (by omega) (by omega)
      rw [show p + 1 + j = p + (1 + j) by omega, this]
      unfold chK
      rw [show (1 + j).toNat = j.toNat + 1 by omega]
      rfl
theorem TA_dc {F : Int → Int} {p v : Int} (h : ∀ j : Int, 0 ≤ j → j < szI v → F (p + j) = dgI v j) : TA F p (dcL v) := by
  unfold dcL
  unfold szI dgI at h
  by_cases c : v < 10
  · simp only [if_pos c] at h ⊢
    have a0 := h 0 (by decide) (by decide)
    rw [Int.add_zero] at a0
    exact ⟨a0, trivial⟩
  · simp only [if_neg c] at h ⊢
    by_cases c2 : v < 100
    · simp only [if_pos c2] at h ⊢
      have a0 := h 0 (by decide) (by decide)
      have a1 := h 1 (by decide) (by decide)
      rw [Int.add_zero, if_pos rfl] at a0
      rw [if_neg (by decide)] at a1
      exact ⟨a0, a1, trivial⟩
    · simp only [if_neg c2] at h ⊢
      have a0 := h 0 (by decide) (by decide)
      have a1 := h 1 (by decide) (by decide)
      have a2 := h 2 (by decide) (by decide)
      rw [Int.add_zero, if_pos rfl] at a0
      rw [if_neg (by decide), if_pos rfl] at a1
      rw [if_neg (by decide), if_neg (by decide)] at a2
      exact ⟨a0, a1, by rw [show p + 1 + 1 = p + 2 by omega]; exact a2, trivial⟩
theorem ET_str {f f2 : Int → Int} {n : Int} {b : List Int32} {l : List Int} (hl : b.map Int32.toInt = l) (h : apS f n (fun j => chK b j) (b.length : Int) f2) : ET f n f2 (n + (b.length : Int)) l := by
  subst hl
  exact ⟨by simp, h.1, TA_str b n h.2⟩
theorem ET_int {f f2 : Int → Int} {n v : Int} (h : apS f n (dgI v) (szI v) f2) : ET f n f2 (n + szI v) (dcL v) := ⟨by rw [dcL_len], h.1, TA_dc h.2⟩
/-- whatever comes behind it, this text reads as PR says -/
def RDS (F0 : Int → Int → Int) (f : Int → Int) (n w8 w9 : Int) (PR : (Int → Int → Int) → (Int → Int → Int64) → Prop) : Prop := ∀ (bu f0 : Int → Int) (ln : Int), RO f0 → sB 1000 bu → (∀ j : Int, 0 ≤ j → j < n → bu j = f j) → n ≤ ln → ln ≤ 700 →
  ∃ (q : Nat) (g : Int → Int) (F : Int → Int → Int) (K : Int → Int → Int64), (q : Int) ≤ n ∧ (∀ j : Nat, j < q → (itT bu (hdT f0 bu ln F0 (fun _ _ => 0)) j).1 7 = 0 ∧ ¬ (itT bu (hdT f0 bu ln F0 (fun _ _ => 0)) j).1 3 = 0) ∧ itT bu (hdT f0 bu ln F0 (fun _ _ => 0)) q = (avR g bu, F, K) ∧ BF g ln n w8 w9 ∧ PR F K
theorem rds_step {F0 : Int → Int → Int} {f f2 : Int → Int} {n n2 w8 w9 v8 v9 : Int} {l : List Int} {PR PR2 : (Int → Int → Int) → (Int → Int → Int64) → Prop} (h : RDS F0 f n w8 w9 PR) (hn : 0 ≤ n) (he : ET f n f2 n2 l) (hl : 1 ≤ l.length)
    (hst : ∀ (bu : Int → Int) (ln : Int) (g : Int → Int) (F : Int → Int → Int) (K : Int → Int → Int64), sB 1000 bu → BF g ln n w8 w9 → TA bu n l → n2 ≤ ln → PR F K → ∃ (F2 : Int → Int → Int) (K2 : Int → Int → Int64), ST1 bu ln n2 v8 v9 g F F2 K K2 ∧ PR2 F2 K2) : RDS F0 f2 n2 v8 v9 PR2 := by
  intro bu f0 ln ro hb hag hle h700
  have e1 := he.1
  obtain ⟨q, g, F, K, hq, hj, hi, hB, hP⟩ := h bu f0 ln ro hb (fun j h0 h1 => (hag j h0 (by omega)).trans (he.2.1 j h0 h1)) (by omega) h700
  obtain ⟨F2, K2, ⟨⟨z7, z3⟩, g2, hr, hB2⟩, hP2⟩ := hst bu ln g F K hb hB (TA_c l n (fun j h0 h1 => hag j (by omega) (by omega)) he.2.2) hle hP
  refine ⟨q + 1, g2, F2, K2, by omega, fun j hj1 => ?_, ?_, hB2, hP2⟩
  · by_cases c : j = q
    · rw [c, hi]; exact ⟨z7, z3⟩
    · exact hj j (by omega)
  · show rsT bu (itT bu (hdT f0 bu ln F0 (fun _ _ => 0)) q) = _
    rw [hi]
    exact hr
theorem rds_head {F0 : Int → Int → Int} {f g : Int → Int} {n a b : Int} (ha : 1 ≤ a ∧ a ≤ 7) (hbb : 1 ≤ b ∧ b ≤ 99) (he : ET g 0 f n ([108, 105, 110, 101] ++ 32 :: (dcL a ++ 32 :: (dcL b ++ [59])))) : RDS F0 f n 0 0 (fun F K => F = up F0 0 (up (up (F0 0) 4 a) 5 b) ∧ K = fun _ _ => 0) := by
  intro bu f0 ln ro hb hag hle h700
  have za : szI a = 1 := by unfold szI; rw [if_pos (by omega)]
  have sb := szI_in (v := b)
  have e1 : n = 8 + szI b := by
    have := he.1
    have l1 := dcL_len (v := a)
    have l2 := dcL_len (v := b)
    simp only [List.length_cons, List.length_append, List.length_nil] at this
    omega
  have hT : TA bu 0 ([108, 105, 110, 101] ++ 32 :: (dcL a ++ 32 :: (dcL b ++ [59]))) := TA_c _ 0 (fun j h0 h1 => hag j h0 (by have := he.1; omega)) he.2.2
  have hr1 := hdR_ok (ln := ln) ro ⟨by omega, h700⟩
  have t0 := rd_word0 (h := hdR f0 ln) (n := 0) (w8 := 0) (w9 := 0) hb hr1 rfl rfl rfl rfl rfl hT (by decide) (by decide) (by decide) (by show 0 + 4 < ln; omega)
  have i0 : isWd (avR (hdR f0 ln) bu) bu sK0 := isWd_t (wd := [108, 105, 110, 101]) rfl t0 hT (fun j hj f hf => wd_line hf j hj)
  have t0' : TK (avR (hdR f0 ln) bu) ln 4 1 0 0 0 0 := t0
  have eW : hdW f0 bu ln = avR (avR (hdR f0 ln) bu) bu := by
    unfold hdW twR
    rw [if_pos i0]
  have T1 : TA bu 4 (32 :: (dcL a ++ 32 :: (dcL b ++ [59]))) := ((TA_app _ _ _).mp hT).2
  have T2 : TA bu 6 (32 :: (dcL b ++ [59])) := by
    have := ((TA_app _ _ _).mp T1.2).2
    rw [dcL_len, za] at this
    exact this
  have T3 : TA bu (7 + szI b) [59] := by
    have := ((TA_app _ _ _).mp T2.2).2
    rw [dcL_len] at this
    exact this
  have t1 := rd_num hb t0'.1 (v := a) (by omega) T1 (by decide) (by omega)
  rw [← eW, za, show (4 : Int) + 1 + 1 = 6 by decide] at t1
  obtain ⟨v1, r1, b1⟩ := tn_ok (bu := bu) (p := 1) (q := 7) t1 ha
  have t2 := rd_num hb b1 (v := b) (by omega) T2 (by decide) (by omega)
  rw [← r1, show (6 : Int) + 1 + szI b = 7 + szI b by omega] at t2
  obtain ⟨v2, r2, b2⟩ := tn_ok (bu := bu) (p := 1) (q := 99) t2 hbb
  have t3 := rd_semi hb b2 T3 (by omega)
  rw [← r2, show 7 + szI b + 1 = n by omega] at t3
  refine ⟨0, tnR (tnR (hdW f0 bu ln) bu 1 7) bu 1 99, up F0 0 (up (up (F0 0) 4 a) 5 b), fun _ _ => 0, by omega, fun j hj => absurd hj (Nat.not_lt_zero j), ?_, t3.1, rfl, rfl⟩
  show hdT f0 bu ln F0 (fun _ _ => 0) = _
  unfold hdT
  rw [ts_ok t3, v1, v2]
/-- what a text's line holds -/
def SX (a : Int → Int) (m : Int) : Prop := (a 0 = m ∧ a 1 = 0 ∧ a 2 = 0) ∧ (1 ≤ a 3 ∧ a 3 ≤ 9) ∧ (a 4 = 0 ∧ a 5 = 0 ∧ a 6 = 0) ∧ (a 8 = 0 ∧ a 9 = 0 ∧ a 10 = 0)
def TXF (m0 m1 ls tb : Int) (F : Int → Int → Int) (K : Int → Int → Int64) : Prop := T0 (F 0) ∧ F 0 7 = ls ∧ SX (F 1) m0 ∧ SX (F 2) m1 ∧ (F 5 0 = 0 ∧ F 5 1 = 0 ∧ F 5 2 = 0 ∧ F 5 4 = 0) ∧ (LE (F 1) (F 3) ∧ LE (F 2) (F 4)) ∧ ∀ q, 0 ≤ q → q < tb → ¬ tlL (K 2) q
theorem RDS.weak {F0 : Int → Int → Int} {f : Int → Int} {n w8 w9 : Int} {PR PR2 : (Int → Int → Int) → (Int → Int → Int64) → Prop} (h : RDS F0 f n w8 w9 PR) (hw : ∀ F K, PR F K → PR2 F K) : RDS F0 f n w8 w9 PR2 := by
  intro bu f0 ln ro hb hag hle h700
  obtain ⟨q, g, F, K, h1, h2, h3, h4, h5⟩ := h bu f0 ln ro hb hag hle h700
  exact ⟨q, g, F, K, h1, h2, h3, h4, hw F K h5⟩
theorem liI_TXF {a b : Int} (ha : 1 ≤ a ∧ a ≤ 7) (hb : 1 ≤ b ∧ b ≤ 99) : TXF 0 0 0 1000 (up liI 0 (up (up (liI 0) 4 a) 5 b)) (fun _ _ => 0) := by
  refine ⟨⟨Or.inl rfl, Or.inl rfl, (show (0 : Int) ≤ 0 ∧ (0 : Int) ≤ 7 by decide), rfl, ha, hb⟩, rfl, ⟨⟨rfl, rfl, rfl⟩, (show (1 : Int) ≤ 4 ∧ (4 : Int) ≤ 9 by decide), ⟨rfl, rfl, rfl⟩, rfl, rfl, rfl⟩, ⟨⟨rfl, rfl, rfl⟩, (show (1 : Int) ≤ 4 ∧ (4 : Int) ≤ 9 by decide), ⟨rfl, rfl, rfl⟩, rfl, rfl, rfl⟩, ⟨rfl, rfl, rfl, rfl⟩, ⟨fun m h0 h1 => absurd (show m < 0 from h1) (by omega), fun m h0 h1 => absurd (show m < 0 from h1) (by omega)⟩, fun q _ _ => tlL_z⟩
theorem rds_win {F0 : Int → Int → Int} {f f2 : Int → Int} {n n2 w8 w9 k c m0 m1 ls tb : Int} (h : RDS F0 f n w8 w9 (TXF m0 m1 ls tb)) (hn : 0 ≤ n) (hk : k = 0 ∨ k = 1) (hc : 1 ≤ c ∧ c ≤ 9) (hw : if k = 0 then w8 = 0 else w9 = 0)
    (he : ET f n f2 n2 ([119, 105, 110, 100, 111, 119] ++ 32 :: (dcL k ++ 32 :: (dcL c ++ [59])))) : RDS F0 f2 n2 (if k = 0 then 1 else w8) (if k = 0 then w9 else 1) (TXF m0 m1 ls tb) := by
  have zk : szI k = 1 := by unfold szI; rw [if_pos (by omega)]
  have zc : szI c = 1 := by unfold szI; rw [if_pos (by omega)]
  have e1 : n2 = n + 11 := by
    have := he.1
    have l1 := dcL_len (v := k)
    have l2 := dcL_len (v := c)
    simp only [List.length_cons, List.length_append, List.length_nil] at this
    omega
  refine rds_step h hn he (by simp) (fun bu ln g F K hb hB hT hle hP => ⟨_, _, (by rw [e1]; exact st_win hb hB hk hc hT (by omega) hw), ?_⟩)
  obtain ⟨p0, p1, ⟨x1, x2, x3, x4⟩, ⟨y1, y2, y3, y4⟩, p4, p5, p6⟩ := hP
  by_cases c0 : k = 0
  · rw [if_pos c0]
    exact ⟨p0, p1, ⟨x1, hc, x3, x4⟩, ⟨y1, y2, y3, y4⟩, p4, p5, p6⟩
  · rw [if_neg c0]
    exact ⟨p0, p1, ⟨x1, x2, x3, x4⟩, ⟨y1, hc, y3, y4⟩, p4, p5, p6⟩
theorem LE_ad {a le : Int → Int} {q : Int} (h : LE a le) (h0 : 0 ≤ a 0) (h1 : a 0 < 20) (hq : 0 ≤ q ∧ q ≤ 8) : LE (adF a) (adL a le q) := by
  intro m g0 g1
  unfold adF at g1
  unfold adL
  rw [if_pos ⟨h0, h1⟩] at g1 ⊢
  have g1 : m < a 0 + 1 := g1
  by_cases c : m = a 0
  · rw [c, up_s]; exact hq
  · rw [up_n c]; exact h m g0 (by omega)
theorem SX_ad {a : Int → Int} {m : Int} (h : SX a m) (h0 : 0 ≤ m) (h1 : m < 20) : SX (adF a) (m + 1) := by
  obtain ⟨⟨x0, x1, x2⟩, x3, x4, x5⟩ := h
  unfold adF
  rw [if_pos ⟨by omega, by omega⟩]
  exact ⟨⟨(show a 0 + 1 = m + 1 by omega), x1, x2⟩, x3, x4, x5⟩
theorem rds_msg {F0 : Int → Int → Int} {f f2 : Int → Int} {n n2 w8 w9 k m0 m1 ls tb : Int} {bs : List Int} (h : RDS F0 f n w8 w9 (TXF m0 m1 ls tb)) (hn : 0 ≤ n) (hk : k = 0 ∨ k = 1) (hB : ∀ b ∈ bs, 0 ≤ b ∧ b ≤ 255) (hL : 1 ≤ bs.length ∧ bs.length ≤ 5) (hm0 : 0 ≤ m0 ∧ m0 < 20) (hm1 : 0 ≤ m1 ∧ m1 < 20)
    (he : ET f n f2 n2 ([109, 101, 115, 115, 97, 103, 101] ++ 32 :: (dcL k ++ (bsT bs ++ [59])))) : RDS F0 f2 n2 w8 w9 (TXF (if k = 0 then m0 + 1 else m0) (if k = 0 then m1 else m1 + 1) ls tb) := by
  have zk : szI k = 1 := by unfold szI; rw [if_pos (by omega)]
  have e1 : n + 9 + ((bsT bs).length : Int) + 1 = n2 := by
    have := he.1
    have l1 := dcL_len (v := k)
    simp only [List.length_cons, List.length_append, List.length_nil] at this
    omega
  refine rds_step h hn he (by simp) (fun bu ln g F K hb hBF hT hle hP => ?_)
  obtain ⟨p0, p1, x, y, p4, ⟨l1, l2⟩, p6⟩ := hP
  have x0 := x.1.1
  have y0 := y.1.1
  obtain ⟨K2, k2, hs⟩ := st_msg (F := F) (K := K) hb hBF hk hB hL hT e1 hle (by split <;> omega)
  refine ⟨_, K2, hs, ?_⟩
  by_cases c0 : k = 0
  · rw [if_pos c0, if_pos c0, if_pos c0]
    exact ⟨p0, p1, SX_ad x hm0.1 hm0.2, y, p4, ⟨LE_ad l1 (by omega) (by omega) (by omega), l2⟩, fun q a b => by rw [k2]; exact p6 q a b⟩
  · rw [if_neg c0, if_neg c0, if_neg c0]
    exact ⟨p0, p1, x, SX_ad y hm1.1 hm1.2, p4, ⟨l1, LE_ad l2 (by omega) (by omega) (by omega)⟩, fun q a b => by rw [k2]; exact p6 q a b⟩
theorem rds_lose {F0 : Int → Int → Int} {f f2 : Int → Int} {n n2 w8 w9 v m0 m1 ls tb : Int} (h : RDS F0 f n w8 w9 (TXF m0 m1 ls tb)) (hn : 0 ≤ n) (hv : 0 ≤ v ∧ v ≤ 255) (hvt : v < tb) (hls : ls < 20)
    (he : ET f n f2 n2 ([108, 111, 115, 101] ++ 32 :: (dcL v ++ [59]))) : RDS F0 f2 n2 w8 w9 (TXF m0 m1 (ls + 1) v) := by
  have e1 : n2 = n + 6 + szI v := by
    have := he.1
    have l1 := dcL_len (v := v)
    simp only [List.length_cons, List.length_append, List.length_nil] at this
    omega
  refine rds_step h hn he (by simp) (fun bu ln g F K hb hBF hT hle hP => ?_)
  obtain ⟨p0, p1, x, y, p4, pl, p6⟩ := hP
  have hnt := p6 v hv.1 hvt
  refine ⟨_, _, (by rw [e1]; exact st_lose hb hBF hv hT (by omega) (by omega) hnt), ?_⟩
  have c : (0 ≤ v ∧ v < 2000) ∧ ¬ tlL (K 2) v := ⟨⟨hv.1, by omega⟩, hnt⟩
  unfold tLF tLK
  rw [if_pos c, if_pos c]
  obtain ⟨q1, q2, q3, q4, q5, q6⟩ := p0
  refine ⟨⟨q1, q2, q3, q4, q5, q6⟩, (show F 0 7 + 1 = ls + 1 by omega), x, y, p4, pl, fun q a b => ?_⟩
  show ¬ tlL (up (K 2) (v / 64) (orB (K 2 (v / 64)) (v % 64))) q
  rw [tlL_or ⟨hv.1, by omega⟩]
  exact fun z => z.elim (p6 q a (by omega)) (by omega)
/-- the whole text read -/
theorem rds_end {f bu f0 : Int → Int} {n w8 w9 m0 m1 ls tb : Int} (h : RDS liI f n w8 w9 (TXF m0 m1 ls tb)) (hn : 0 ≤ n ∧ n ≤ 500) (hm : 0 ≤ m0 ∧ m0 ≤ 20 ∧ 0 ≤ m1 ∧ m1 ≤ 20) (ro : RO f0) (hb : sB 1000 bu) (hag : ∀ j : Int, 0 ≤ j → j < n → bu j = f j) (hL : ∀ i, sB 2000 (liI i)) :
    RO (paT f0 bu n liI (fun _ _ => 0)).1 ∧ (paT f0 bu n liI (fun _ _ => 0)).1 7 = 0 ∧ (pdF (paT f0 bu n liI (fun _ _ => 0)) 0 6 = 0 ∨ pdF (paT f0 bu n liI (fun _ _ => 0)) 0 6 = 1) ∧ pdF (paT f0 bu n liI (fun _ _ => 0)) 1 0 + pdF (paT f0 bu n liI (fun _ _ => 0)) 2 0 = m0 + m1 ∧ IN (pdF (paT f0 bu n liI (fun _ _ => 0))) 0 := by
  obtain ⟨q, g, F, K, hq, hj, hi, hB, hP⟩ := h bu f0 n ro hb hag (Int.le_refl _) (by omega)
  have he := rd_end hb hB
  have eN : itN bu (hdT f0 bu n liI (fun _ _ => 0)) = q := by
    have k := skN_u (p := fun z : Nat => ¬ (z < 700 ∧ (itT bu (hdT f0 bu n liI (fun _ _ => 0)) z).1 7 = 0 ∧ ¬ (itT bu (hdT f0 bu n liI (fun _ _ => 0)) z).1 3 = 0)) 700 q (fun j hj1 hx => hx ⟨by omega, hj j hj1⟩) (by omega) (Or.inl (fun hx => by rw [hi] at hx; exact hx.2.2 he.2))
    exact k.symm
  have hx : paT f0 bu n liI (fun _ _ => 0) = (avR g bu, F, K) := by
    unfold paT
    rw [eN, hi]
  have hro : RO (hdT f0 bu n liI (fun _ _ => 0)).1 := tsR_ok (tnR_ok (tnR_ok (hdW_ok ro hb ⟨hn.1, by omega⟩) hb (by decide)) hb (by decide)) hb
  have hbd := hdT_B (K := fun _ _ => 0) ro hb ⟨hn.1, (show n ≤ 700 by omega)⟩ hL
  have hok := itT_ok (x := hdT f0 bu n liI (fun _ _ => 0)) hb hro hbd q
  rw [hi] at hok
  rw [hx]
  obtain ⟨p0, p1, ⟨⟨x0, x1, x2⟩, x3, ⟨x4, x5, x6⟩, x8, x9, x10⟩, ⟨⟨y0, y1, y2⟩, y3, ⟨y4, y5, y6⟩, y8, y9, y10⟩, ⟨z0, z1, z2, z4⟩, ⟨l1, l2⟩, p6⟩ := hP
  have hFB : ∀ i, sB 9000 (F i) := fun i => sB_mono (by omega) (hok.2 i)
  refine ⟨hok.1, he.1, p0.2.1, (show F 1 0 + F 2 0 = m0 + m1 by omega), p0, ⟨?_, ?_⟩, ⟨(show F 5 0 = F 5 2 + F 5 4 by omega), (show 0 ≤ F 5 1 ∧ F 5 1 ≤ F 5 0 by omega), (show 0 ≤ F 5 0 ∧ F 5 0 ≤ 0 by omega)⟩, ⟨l1, l2⟩, ?_⟩
  · exact ⟨(show 0 ≤ F 1 2 ∧ F 1 2 ≤ F 1 1 ∧ F 1 1 - F 1 2 ≤ F 1 3 by omega), x3, ⟨x4, x5, x10⟩, (show 0 ≤ F 1 6 ∧ F 1 6 ≤ F 2 1 by omega), (show 0 ≤ F 1 8 ∧ F 1 8 ≤ F 2 3 ∧ F 2 3 ≤ F 2 2 + F 2 3 ∧ F 1 8 ≤ F 1 0 ∧ F 1 0 ≤ 20 by omega), (show F 1 1 ≤ F 2 8 by omega), (show 0 ≤ F 1 9 by omega)⟩
  · exact ⟨(show 0 ≤ F 2 2 ∧ F 2 2 ≤ F 2 1 ∧ F 2 1 - F 2 2 ≤ F 2 3 by omega), y3, ⟨y4, y5, y10⟩, (show 0 ≤ F 2 6 ∧ F 2 6 ≤ F 1 1 by omega), (show 0 ≤ F 2 8 ∧ F 2 8 ≤ F 1 3 ∧ F 1 3 ≤ F 1 2 + F 1 3 ∧ F 2 8 ≤ F 2 0 ∧ F 2 0 ≤ 20 by omega), (show F 2 1 ≤ F 1 8 by omega), (show 0 ≤ F 2 9 by omega)⟩
  · exact sBF_up (sBF_up (fun i => sB_mono (by omega) (hFB i)) (sB_up (sB_mono (by omega) (hFB 1)) (show -(10000 + 200 * 0) < F 2 3 ∧ F 2 3 < 10000 + 200 * 0 by omega))) (sB_up (sB_mono (by omega) (hFB 2)) (show -(10000 + 200 * 0) < F 1 3 ∧ F 1 3 < 10000 + 200 * 0 by omega))
/-- bytes into ints, ints into bytes -/
theorem shl8 {a : Int} (h0 : 0 ≤ a) (h1 : a < 8388608) : iI a <<< (iI 8 &&& 31) = iI (a * 256) := by
  obtain ⟨n, rfl⟩ := Int.eq_ofNat_of_zero_le h0
  have k := pk_shlN (n := n) (iI 8 &&& 31) 8 (by decide +kernel) (by omega)
  rw [iI_nI, iI_nI] at k
  rw [k]
  congr 1
theorem fa_or (a b : Nat) : nI a ||| nI b = nI (a ||| b) := by
  apply Int32.toBitVec_inj.1
  show BitVec.ofNat 32 a ||| BitVec.ofNat 32 b = BitVec.ofNat 32 (a ||| b)
  apply BitVec.eq_of_getLsbD_eq
  intro i hi
  simp [hi]
theorem or8 {a c : Int} (h0 : 0 ≤ a) (h1 : a < 8388608) (hc : 0 ≤ c ∧ c < 256) : iI (a * 256) ||| iI c = iI (a * 256 + c) := by
  obtain ⟨n, rfl⟩ := Int.eq_ofNat_of_zero_le h0
  obtain ⟨m, rfl⟩ := Int.eq_ofNat_of_zero_le hc.1
  have k := fa_or (n * 256) m
  rw [iI_nI, iI_nI, iI_nI] at k
  rw [show ((n : Int) * 256) = ((n * 256 : Nat) : Int) by omega, k]
  congr 1
  have e : n * 256 ||| m = n * 256 + m := by
    have := Nat.two_pow_add_eq_or_of_lt (i := 8) (b := m) (by omega) n
    rw [show 2 ^ 8 * n = n * 256 by omega] at this
    exact this.symm
  omega
theorem u8_at {v s : Int} {k : Nat} (hk : (s = 0 ∧ k = 0) ∨ (s = 8 ∧ k = 8) ∨ (s = 16 ∧ k = 16) ∨ (s = 24 ∧ k = 24)) (h0 : 0 ≤ v) (h1 : v < 2147483648) (hb : v / 2 ^ k % 256 < 128) : u8 v s = v / 2 ^ k % 256 := by
  obtain ⟨n, rfl⟩ := Int.eq_ofNat_of_zero_le h0
  have hn : n < 2147483648 := by omega
  have hs : ((iI s).toUInt32 &&& Int32.toUInt32 31).toNat = k := by
    rcases hk with ⟨rfl, rfl⟩ | ⟨rfl, rfl⟩ | ⟨rfl, rfl⟩ | ⟨rfl, rfl⟩ <;> decide +kernel
  have hk32 : k < 32 := by rcases hk with ⟨_, rfl⟩ | ⟨_, rfl⟩ | ⟨_, rfl⟩ | ⟨_, rfl⟩ <;> decide
  have hu : ((iI (n : Int)).toUInt32).toNat = n := by
    show (BitVec.ofInt 32 (n : Int)).toNat = n
    rw [BitVec.toNat_ofInt]
    omega
  have e1 : ((iI (n : Int)).toUInt32 >>> ((iI s).toUInt32 &&& Int32.toUInt32 31)).toNat = n / 2 ^ k := by
    rw [UInt32.toNat_shiftRight, hs, hu, Nat.mod_eq_of_lt hk32, Nat.shiftRight_eq_div_pow]
  generalize hx : ((iI (n : Int)).toUInt32 >>> ((iI s).toUInt32 &&& Int32.toUInt32 31)) = x at e1
  have e2 : u8 (n : Int) s = x.toInt32.toInt8.toInt := by
    unfold u8
    rw [hx]
    exact Int8.toInt_toInt32 _
  rw [e2]
  have e3 : x.toInt32.toInt8.toInt = x.toBitVec.toInt.bmod (2 ^ 8) := Int32.toInt_toInt8 _
  rw [e3, BitVec.toInt_eq_toNat_bmod]
  have e4 : x.toBitVec.toNat = n / 2 ^ k := e1
  rw [e4]
  have hq : ((n / 2 ^ k : Nat) : Int) = (n : Int) / 2 ^ k := by simp
  have hm : n / 2 ^ k % 2 ^ 8 < 128 := by
    rw [← hq] at hb
    omega
  rw [← hq]
  generalize n / 2 ^ k = y at *
  rw [Int.bmod_bmod_of_dvd (by decide), show (2 : Nat) ^ 8 = 256 from rfl] 
  rw [show (2 : Nat) ^ 8 = 256 from rfl] at hm
  have hy : (y : Int) % ((256 : Nat) : Int) = ((y % 256 : Nat) : Int) := rfl
  rw [Int.bmod_def, hy]
  generalize y % 256 = z at *
  rw [if_pos (by omega)]
  exact hy.symm
end RdsF
