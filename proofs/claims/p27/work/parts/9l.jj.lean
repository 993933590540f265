section JJ
/-- the world of a TurnLine before its first text: c bytes are there -/
def tlX (G : GG) (A : Nat → Nat) (B : Nat → Nat → Nat) (c : Int) (bu : Int → Int) (F : Int → Int → Int) (K : Int → Int → Int64) (w : va_W) : Prop := ∃ (lads : Nat → Nat → Nat) (cf cp ff fp : Int → Int) (Q : Nat → Int → Int → Int) (R : Nat → Int → Int → Int64) (LF : Nat → Int → Int → Int) (LK : Nat → Int → Int → Int64) (z : Int → Int), w = tlW G A B lads (up (fun _ => 0) 0 c) bu cf cp ff fp Q R LF LK z ∧ Q 0 = F ∧ R 0 = K ∧ Q 1 = liI ∧ R 1 = (fun _ _ => 0) ∧ z 0 = 0 ∧ ∀ n : Nat, LF n 0 6 = 0 ∨ LF n 0 6 = 1
theorem tlX.at0 {G : GG} {A : Nat → Nat} {B : Nat → Nat → Nat} {c : Int} {bu : Int → Int} {F : Int → Int → Int} {K : Int → Int → Int64} {w : va_W} (h : tlX G A B c bu F K w) : w[0]? = some (A 0, .inr (7, tlR A B)) := by
  obtain ⟨lads, cf, cp, ff, fp, Q, R, LF, LK, z, rfl, rfl, rfl, hq1, hr1, hz, hL⟩ := h
  rfl
theorem RO_c {c : Int} (hc : 0 ≤ c ∧ c ≤ 700) : RO (up (fun _ => 0) 0 c) :=
  RO_mk (x0 := c) (x1 := 0) (x2 := 0) (x3 := 0) (x4 := 0) (x5 := 0) (x6 := 0) (x7 := 0) (x8 := 0) (x9 := 0) rfl rfl rfl rfl rfl rfl rfl rfl rfl rfl (by decide) (by decide) (by decide) (by decide) (by decide) (Or.inl rfl) (Or.inl rfl) hc
theorem afF_c {c : Int} : afF (up (fun _ => 0) 0 c) = up (fun _ => 0) 0 (c + 4) := by
  funext j
  unfold afF up
  by_cases h : j = 0
  · rw [if_pos h, if_pos rfl, if_pos h]
  · rw [if_neg h, if_neg h, if_neg h]
theorem afB_at {f b : Int → Int} {v j : Int} : afB u8 f v b j = if j = f 0 + 3 then u8 v 0 else if j = f 0 + 2 then u8 v 8 else if j = f 0 + 1 then u8 v 16 else if j = f 0 then u8 v 24 else b j := rfl
/-- four bytes as an int -/
def pv (T : Int → Int) (q : Int) : Int := ((T (4 * q) * 256 + T (4 * q + 1)) * 256 + T (4 * q + 2)) * 256 + T (4 * q + 3)
theorem pv_b {T : Int → Int} (hT : ∀ j, 0 ≤ T j ∧ T j < 128) (q : Int) : u8 (pv T q) 24 = T (4 * q) ∧ u8 (pv T q) 16 = T (4 * q + 1) ∧ u8 (pv T q) 8 = T (4 * q + 2) ∧ u8 (pv T q) 0 = T (4 * q + 3) := by
  have a := hT (4 * q); have b := hT (4 * q + 1); have c := hT (4 * q + 2); have d := hT (4 * q + 3)
  unfold pv
  generalize T (4 * q) = x0 at *
  generalize T (4 * q + 1) = x1 at *
  generalize T (4 * q + 2) = x2 at *
  generalize T (4 * q + 3) = x3 at *
  have e24 : (((x0 * 256 + x1) * 256 + x2) * 256 + x3) / 2 ^ 24 % 256 = x0 := by omega
  have e16 : (((x0 * 256 + x1) * 256 + x2) * 256 + x3) / 2 ^ 16 % 256 = x1 := by omega
  have e8 : (((x0 * 256 + x1) * 256 + x2) * 256 + x3) / 2 ^ 8 % 256 = x2 := by omega
  have e0 : (((x0 * 256 + x1) * 256 + x2) * 256 + x3) / 2 ^ 0 % 256 = x3 := by omega
  refine ⟨?_, ?_, ?_, ?_⟩
  · rw [u8_at (k := 24) (by omega) (by omega) (by omega) (by omega), e24]
  · rw [u8_at (k := 16) (by omega) (by omega) (by omega) (by omega), e16]
  · rw [u8_at (k := 8) (by omega) (by omega) (by omega) (by omega), e8]
  · rw [u8_at (k := 0) (by omega) (by omega) (by omega) (by omega), e0]
/-- the buffer behind twenty bytes more -/
def bu20 (c : Int) (bu T : Int → Int) : Int → Int := afB u8 (up (fun _ => 0) 0 (c + 4 + 4 + 4 + 4)) (pv T 4) (afB u8 (up (fun _ => 0) 0 (c + 4 + 4 + 4)) (pv T 3) (afB u8 (up (fun _ => 0) 0 (c + 4 + 4)) (pv T 2) (afB u8 (up (fun _ => 0) 0 (c + 4)) (pv T 1) (afB u8 (up (fun _ => 0) 0 c) (pv T 0) bu))))
theorem afB_lo {f b : Int → Int} {v j : Int} (h : j < f 0) : afB u8 f v b j = b j := by
  rw [afB_at, if_neg (by omega), if_neg (by omega), if_neg (by omega), if_neg (by omega)]
theorem afB_in {f b : Int → Int} {v c : Int} (h : f 0 = c) : afB u8 f v b c = u8 v 24 ∧ afB u8 f v b (c + 1) = u8 v 16 ∧ afB u8 f v b (c + 2) = u8 v 8 ∧ afB u8 f v b (c + 3) = u8 v 0 := by
  refine ⟨?_, ?_, ?_, ?_⟩
  · rw [afB_at, if_neg (by omega), if_neg (by omega), if_neg (by omega), if_pos (by omega)]
  · rw [afB_at, if_neg (by omega), if_neg (by omega), if_pos (by omega)]
  · rw [afB_at, if_neg (by omega), if_pos (by omega)]
  · rw [afB_at, if_pos (by omega)]
theorem bu20_lo {c : Int} {bu T : Int → Int} {j : Int} (h : j < c) : bu20 c bu T j = bu j := by
  unfold bu20
  rw [afB_lo (show j < c + 4 + 4 + 4 + 4 by omega), afB_lo (show j < c + 4 + 4 + 4 by omega), afB_lo (show j < c + 4 + 4 by omega), afB_lo (show j < c + 4 by omega), afB_lo (show j < c by omega)]
theorem bu20_in {c : Int} {bu T : Int → Int} {j : Int} (hT : ∀ j, 0 ≤ T j ∧ T j < 128) (h0 : 0 ≤ j) (h1 : j < 20) : bu20 c bu T (c + j) = T j := by
  obtain ⟨a0, a1, a2, a3⟩ := pv_b hT 0
  obtain ⟨b0, b1, b2, b3⟩ := pv_b hT 1
  obtain ⟨c0, c1, c2, c3⟩ := pv_b hT 2
  obtain ⟨d0, d1, d2, d3⟩ := pv_b hT 3
  obtain ⟨e0, e1, e2, e3⟩ := pv_b hT 4
  unfold bu20
  by_cases g4 : 16 ≤ j
  · obtain ⟨q0, q1, q2, q3⟩ := afB_in (f := up (fun _ => 0) 0 (c + 4 + 4 + 4 + 4)) (b := (afB u8 (up (fun _ => 0) 0 (c + 4 + 4 + 4)) (pv T 3) (afB u8 (up (fun _ => 0) 0 (c + 4 + 4)) (pv T 2) (afB u8 (up (fun _ => 0) 0 (c + 4)) (pv T 1) (afB u8 (up (fun _ => 0) 0 c) (pv T 0) bu))))) (v := pv T 4) (c := c + 16) (show c + 4 + 4 + 4 + 4 = c + 16 by omega)
    rcases (show j = 16 ∨ j = 17 ∨ j = 18 ∨ j = 19 by omega) with rfl | rfl | rfl | rfl
    · rw [q0, e0]; rfl
    · rw [show c + 17 = c + 16 + 1 by omega, q1, e1]; rfl
    · rw [show c + 18 = c + 16 + 2 by omega, q2, e2]; rfl
    · rw [show c + 19 = c + 16 + 3 by omega, q3, e3]; rfl
  · rw [afB_lo (show c + j < c + 4 + 4 + 4 + 4 by omega)]
    by_cases g3 : 12 ≤ j
    · obtain ⟨q0, q1, q2, q3⟩ := afB_in (f := up (fun _ => 0) 0 (c + 4 + 4 + 4)) (b := (afB u8 (up (fun _ => 0) 0 (c + 4 + 4)) (pv T 2) (afB u8 (up (fun _ => 0) 0 (c + 4)) (pv T 1) (afB u8 (up (fun _ => 0) 0 c) (pv T 0) bu)))) (v := pv T 3) (c := c + 12) (show c + 4 + 4 + 4 = c + 12 by omega)
      rcases (show j = 12 ∨ j = 13 ∨ j = 14 ∨ j = 15 by omega) with rfl | rfl | rfl | rfl
      · rw [q0, d0]; rfl
      · rw [show c + 13 = c + 12 + 1 by omega, q1, d1]; rfl
      · rw [show c + 14 = c + 12 + 2 by omega, q2, d2]; rfl
      · rw [show c + 15 = c + 12 + 3 by omega, q3, d3]; rfl
    · rw [afB_lo (show c + j < c + 4 + 4 + 4 by omega)]
      by_cases g2 : 8 ≤ j
      · obtain ⟨q0, q1, q2, q3⟩ := afB_in (f := up (fun _ => 0) 0 (c + 4 + 4)) (b := (afB u8 (up (fun _ => 0) 0 (c + 4)) (pv T 1) (afB u8 (up (fun _ => 0) 0 c) (pv T 0) bu))) (v := pv T 2) (c := c + 8) (show c + 4 + 4 = c + 8 by omega)
        rcases (show j = 8 ∨ j = 9 ∨ j = 10 ∨ j = 11 by omega) with rfl | rfl | rfl | rfl
        · rw [q0, c0]; rfl
        · rw [show c + 9 = c + 8 + 1 by omega, q1, c1]; rfl
        · rw [show c + 10 = c + 8 + 2 by omega, q2, c2]; rfl
        · rw [show c + 11 = c + 8 + 3 by omega, q3, c3]; rfl
      · rw [afB_lo (show c + j < c + 4 + 4 by omega)]
        by_cases g1 : 4 ≤ j
        · obtain ⟨q0, q1, q2, q3⟩ := afB_in (f := up (fun _ => 0) 0 (c + 4)) (b := (afB u8 (up (fun _ => 0) 0 c) (pv T 0) bu)) (v := pv T 1) (c := c + 4) rfl
          rcases (show j = 4 ∨ j = 5 ∨ j = 6 ∨ j = 7 by omega) with rfl | rfl | rfl | rfl
          · rw [q0, b0]; rfl
          · rw [show c + 5 = c + 4 + 1 by omega, q1, b1]; rfl
          · rw [show c + 6 = c + 4 + 2 by omega, q2, b2]; rfl
          · rw [show c + 7 = c + 4 + 3 by omega, q3, b3]; rfl
        · rw [afB_lo (show c + j < c + 4 by omega)]
          obtain ⟨q0, q1, q2, q3⟩ := afB_in (f := up (fun _ => 0) 0 c) (b := bu) (v := pv T 0) (c := c) rfl
          rcases (show j = 0 ∨ j = 1 ∨ j = 2 ∨ j = 3 by omega) with rfl | rfl | rfl | rfl
          · rw [show c + 0 = c by omega, q0, a0]; rfl
          · rw [q1, a1]; rfl
          · rw [q2, a2]; rfl
          · rw [q3, a3]; rfl
theorem u8_B {v s : Int} : -1000 < u8 v s ∧ u8 v s < 1000 := by
  unfold u8
  rw [Int8.toInt_toInt32]
  have h1 := Int8.le_toInt ((iI v).toUInt32 >>> ((iI s).toUInt32 &&& Int32.toUInt32 31)).toInt32.toInt8
  have h2 := Int8.toInt_lt ((iI v).toUInt32 >>> ((iI s).toUInt32 &&& Int32.toUInt32 31)).toInt32.toInt8
  omega
theorem afB_B {f b : Int → Int} {v : Int} (h : sB 1000 b) : sB 1000 (afB u8 f v b) := sB_up (sB_up (sB_up (sB_up h u8_B) u8_B) u8_B) u8_B
theorem bu20_B {c : Int} {bu T : Int → Int} (h : sB 1000 bu) : sB 1000 (bu20 c bu T) := afB_B (afB_B (afB_B (afB_B (afB_B h))))
theorem liI_B : ∀ i, sB 2000 (liI i) := by
  have s0 : sB 2000 (fun _ : Int => (0 : Int)) := fun _ => (show -2000 < (0 : Int) ∧ (0 : Int) < 2000 by decide)
  have s1 : sB 2000 stI := sB_up (sB_up s0 (by decide)) (by decide)
  exact sBF_up (sBF_up (sBF_up (fun _ => s0) (sB_up (sB_up (sB_up s0 (by decide)) (by decide)) (by decide))) s1) s1
theorem liI_nd : ¬ isDL liI := fun h => absurd h.2.2.2.2.1 (by show ¬ (0 : Int) + 0 < 0; decide)
theorem j_size {G : GG} {l : Launch} {A : Nat → Nat} {B : Nat → Nat → Nat} {c : Int} {bu : Int → Int} {F : Int → Int → Int} {K : Int → Int → Int64} {w : va_W} {q v : Int} (hst : l.stackTraces = false) (hw : tlX G A B c bu F K w) (hq : 0 ≤ q ∧ q ≤ 5) (hv : ∀ c, szC F c q = v) : Ct G l yX7_size (Cond.code yX7_size cX7_size 2 (some .int) :: wsL_law) 6 90 1 6 [.ref (A 0), vI q] w (fun r w' => r = some (vI v) ∧ tlX G A B c bu F K w') := by
  obtain ⟨lads, cf, cp, ff, fp, Q, R, LF, LK, z, rfl, rfl, rfl, hq1, hr1, hz, hL⟩ := hw
  exact Ct.post (CtX.ct (C_X7_size G l A B lads (up (fun _ => 0) 0 c) bu cf cp ff fp Q R LF LK z q hst ⟨by omega, by omega⟩) (fun E w h => h.2.2 ⟨by omega, by omega⟩)) (fun r w' h => by obtain ⟨rfl, rfl, _⟩ := h; exact ⟨by rw [hv], ⟨lads, cf, cp, ff, fp, Q, R, LF, LK, z, rfl, rfl, rfl, hq1, hr1, hz, hL⟩⟩)

theorem j_next {G : GG} {l : Launch} {A : Nat → Nat} {B : Nat → Nat → Nat} {c : Int} {bu : Int → Int} {F : Int → Int → Int} {K : Int → Int → Int64} {w : va_W} {q v : Int} (hst : l.stackTraces = false) (hw : tlX G A B c bu F K w) (hq : 0 ≤ q ∧ q ≤ 5) (hv : nxC K F q = v) (hQ : ∀ i, sB 1000000 (F i)) (hT : F 0 1 = 0 ∨ F 0 1 = 1) (hd2 : isDL F → 0 ≤ leL F (nmL F) ∧ leL F (nmL F) ≤ 8) : Ct G l yX7_next (Cond.code yX7_next cX7_next 2 (some .int) :: wsL_law) 6 90 1 6 [.ref (A 0), vI q] w (fun r w' => r = some (vI v) ∧ tlX G A B c bu F K w') := by
  obtain ⟨lads, cf, cp, ff, fp, Q, R, LF, LK, z, rfl, rfl, rfl, hq1, hr1, hz, hL⟩ := hw
  exact Ct.post (CtX.ct (C_X7_next G l A B lads (up (fun _ => 0) 0 c) bu cf cp ff fp Q R LF LK z q hst ⟨by omega, by omega⟩ hQ hT hd2) (fun E w h => by obtain ⟨_, _, _, _, h⟩ := h; exact h ⟨by omega, by omega⟩)) (fun r w' h => by obtain ⟨f2, p2, rfl, rfl, _⟩ := h; exact ⟨by rw [hv], lads, f2, p2, ff, fp, Q, R, LF, LK, z, rfl, rfl, rfl, hq1, hr1, hz, hL⟩)

theorem j_undo {G : GG} {l : Launch} {A : Nat → Nat} {B : Nat → Nat → Nat} {c : Int} {bu : Int → Int} {F : Int → Int → Int} {K : Int → Int → Int64} {w : va_W}  (hst : l.stackTraces = false) (hw : tlX G A B c bu F K w)  : Ct G l yX7_undo (Cond.code yX7_undo cX7_undo 1 (some .int) :: wsL_law) 4 124 0 0 [.ref (A 0)] w (fun r w' => r = some (vI (-1)) ∧ tlX G A B c bu F K w') := by
  obtain ⟨lads, cf, cp, ff, fp, Q, R, LF, LK, z, rfl, rfl, rfl, hq1, hr1, hz, hL⟩ := hw
  exact Ct.post (C_X7_undo G l A B lads (up (fun _ => 0) 0 c) bu cf cp ff fp Q R LF LK z (by omega) hL) (fun r w' h => by obtain ⟨F1, K1, c1, hx, rfl⟩ := h; rcases hx with ⟨_, rfl, rfl, rfl, rfl⟩ | ⟨x, _⟩; exact ⟨rfl, lads, cf, cp, ff, fp, upN Q 0 (Q 0), upN R 0 (R 0), LF, LK, up z 0 (z 0), rfl, rfl, rfl, hq1, hr1, up_s.trans hz, hL⟩; exact absurd x (by omega))

theorem j_efficiency {G : GG} {l : Launch} {A : Nat → Nat} {B : Nat → Nat → Nat} {c : Int} {bu : Int → Int} {F : Int → Int → Int} {K : Int → Int → Int64} {w : va_W}  (hst : l.stackTraces = false) (hw : tlX G A B c bu F K w) (hQ : ∀ i, sB 1000000 (F i)) (h56 : F 5 6 = 0) : Ct G l yX7_efficiency (Cond.code yX7_efficiency cX7_efficiency 3 (some .double) :: wsL_law) 3 65 0 0 [.ref (A 0)] w (fun r w' => r = some (.double FP.dconst0) ∧ tlX G A B c bu F K w') := by
  obtain ⟨lads, cf, cp, ff, fp, Q, R, LF, LK, z, rfl, rfl, rfl, hq1, hr1, hz, hL⟩ := hw
  exact Ct.post (C_X7_efficiency G l A B lads (up (fun _ => 0) 0 c) bu cf cp ff fp Q R LF LK z hQ h56) (fun r w' h => by obtain ⟨rfl, rfl⟩ := h; exact ⟨by rw [show efC (Q 0) = FP.dconst0 from if_pos (by omega)], ⟨lads, cf, cp, ff, fp, Q, R, LF, LK, z, rfl, rfl, rfl, hq1, hr1, hz, hL⟩⟩)

theorem j_append {G : GG} {l : Launch} {A : Nat → Nat} {B : Nat → Nat → Nat} {c : Int} {bu : Int → Int} {F : Int → Int → Int} {K : Int → Int → Int64} {w : va_W} {T : Int → Int} {v0 v1 v2 v3 v4 : Int} (hst : l.stackTraces = false) (hw : tlX G A B c bu F K w) (hc : 0 ≤ c ∧ c + 20 ≤ 700) (e0 : v0 = pv T 0) (e1 : v1 = pv T 1) (e2 : v2 = pv T 2) (e3 : v3 = pv T 3) (e4 : v4 = pv T 4) : Ct G l yX7_append (Cond.code yX7_append cX7_append 6 (some .int) :: wsL_law) 1 22 0 0 [.ref (A 0), vI v0, vI v1, vI v2, vI v3, vI v4] w (fun r w' => ∃ q : Int, r = some (vI q) ∧ tlX G A B (c + 20) (bu20 c bu T) F K w') := by
  obtain ⟨lads, cf, cp, ff, fp, Q, R, LF, LK, z, rfl, rfl, rfl, hq1, hr1, hz, hL⟩ := hw
  exact Ct.post (C_X7_append G l A B lads (up (fun _ => 0) 0 c) bu cf cp ff fp Q R LF LK z v0 v1 v2 v3 v4 u8 (fun _ _ => rfl) (RO_sb (RO_c ⟨hc.1, by omega⟩)) hc.1) (fun r w' h => by
    subst e0 e1 e2 e3 e4
    obtain ⟨f1, b1, hx, rfl⟩ := h
    rcases hx with ⟨_, rfl, rfl, rfl⟩ | ⟨x, _⟩
    · refine ⟨_, rfl, lads, cf, cp, ff, fp, Q, R, LF, LK, z, ?_, rfl, rfl, hq1, hr1, hz, hL⟩
      rw [afF_c, afF_c, afF_c, afF_c, afF_c, show c + 4 + 4 + 4 + 4 + 4 = c + 20 by omega]
      rfl
    · exact absurd (show c + 20 ≤ 700 from hc.2) x)

theorem j_parse {G : GG} {l : Launch} {A : Nat → Nat} {B : Nat → Nat → Nat} {c : Int} {bu : Int → Int} {F : Int → Int → Int} {K : Int → Int → Int64} {w : va_W} {f : Int → Int} {n m0 m1 ls tb : Int} (hst : l.stackTraces = false) (hw : tlX G A B c bu F K w) (hR : RDS liI f n 1 1 (TXF m0 m1 ls tb)) (hn : 0 ≤ n ∧ n ≤ 500) (hm : 0 ≤ m0 ∧ m0 ≤ 20 ∧ 0 ≤ m1 ∧ m1 ≤ 20) (hc : n ≤ c ∧ c ≤ 700) (hb : sB 1000 bu) (hag : ∀ j : Int, 0 ≤ j → j < n → bu j = f j) : Ct G l yX7_parse (Cond.code yX7_parse cX7_parse 3 (some .int) :: wsL_law) 7 154 1 6 [.ref (A 0), vI n] w (fun r w' => r = some (vI (m0 + m1)) ∧ ∃ (F2 : Int → Int → Int) (K2 : Int → Int → Int64), tlS G A B F2 K2 w' ∧ IN F2 0) := by
  obtain ⟨lads, cf, cp, ff, fp, Q, R, LF, LK, z, rfl, rfl, rfl, hq1, hr1, hz, hL⟩ := hw
  exact Ct.post (CtX.ct (C_X7_parse G l A B lads (up (fun _ => 0) 0 c) bu cf cp ff fp Q R LF LK z n hst ⟨by omega, by omega⟩ (RO_c ⟨by omega, hc.2⟩) hb (by rw [hq1]; exact liI_B) (by rw [hq1]; exact Or.inl rfl) (fun _ => by rw [hq1, hr1]; have e := rds_end hR hn hm (RO_c ⟨by omega, hc.2⟩) hb hag liI_B; exact ⟨e.1, e.2.2.1⟩)) (fun E w h => h.2.2 ⟨hn.1, hc.1⟩)) (fun r w' h => by
    have e := rds_end hR hn hm (RO_c (c := c) ⟨by omega, hc.2⟩) hb hag liI_B
    obtain ⟨_, tx, F1, F2, K1, K2, f1, c0, c1, c2, htx, _, hx, rfl⟩ := h
    rw [hq1, hr1] at htx
    rw [← htx] at e
    rcases hx with ⟨x, _⟩ | ⟨_, hF1, hK1, rfl, rfl, rfl, rfl⟩
    · exact absurd e.2.1 x
    · rw [← hF1] at e
      exact ⟨by rw [e.2.2.2.1], F1, K1, ⟨lads, f1, bu, cf, cp, ff, fp, _, _, LF, LK, _, rfl, rfl, rfl, (show (0 : Int) ≤ 0 by decide), (show (0 : Int) ≤ 10 by decide)⟩, e.2.2.2.2⟩)
/-- what holds of a builder -/
def SBK (cap : Nat) (n : Int) (f : Int → Int) : Prop := cap ≤ 1000 ∧ (0 ≤ n ∧ n ≤ (cap : Int)) ∧ btO f
theorem b_str (G : GG) (l : Launch) (i : Nat) (b : List Int32) (tx : List Int) (a v cap : Nat) (n : Int) (f : Int → Int) (hi : strB[i]? = some b) (hl : b.map Int32.toInt = tx) (hk : SBK cap n f) (hm : n + (b.length : Int) ≤ 500) : Ct G l yJ4_append_15ec4 (Cond.code yJ4_append_15ec4 cJ4_append_15ec4 2 (some (.object "java/lang/StringBuilder")) :: wsL_law) 5 127 1 1000 [.ref a, .ref (G.1.2 i)] ([(a, .inr (8, [.ref v, vI 0, vI 0, vI n])), (v, .inl (G.2 0, cap, .inl (fI f)))]) (fun r w => r = some (.ref a) ∧ ∃ (v2 cap2 : Nat) (n2 : Int) (f2 : Int → Int), w = [(a, .inr (8, [.ref v2, vI 0, vI 0, vI n2])), (v2, .inl (G.2 0, cap2, .inl (fI f2)))] ∧ SBK cap2 n2 f2 ∧ ET f n f2 n2 tx ∧ n2 = n + (b.length : Int)) :=
  Ct.post (c_J4_append_15ec4 G l i b a v cap n f hi hk.1 hk.2.1 hk.2.2 hm) (fun r w h => by
    obtain ⟨rfl, v2, cap2, f2, rfl, e1, e2, e3, e4⟩ := h
    have := hk.2.1
    exact ⟨rfl, v2, cap2, _, f2, rfl, ⟨e1, ⟨by omega, e2⟩, e3⟩, ET_str hl e4, rfl⟩)
theorem b_int (G : GG) (l : Launch) (a v cap : Nat) (n : Int) (f : Int → Int) (x : Int) (hk : SBK cap n f) (hx : 0 ≤ x ∧ x ≤ 255) (hm : n + 3 ≤ 500) : Ct G l yJ4_append_bf812 (Cond.code yJ4_append_bf812 cJ4_append_bf812 2 (some (.object "java/lang/StringBuilder")) :: wsL_law) 5 127 1 1000 [.ref a, vI x] ([(a, .inr (8, [.ref v, vI 0, vI 0, vI n])), (v, .inl (G.2 0, cap, .inl (fI f)))]) (fun r w => r = some (.ref a) ∧ ∃ (v2 cap2 : Nat) (n2 : Int) (f2 : Int → Int), w = [(a, .inr (8, [.ref v2, vI 0, vI 0, vI n2])), (v2, .inl (G.2 0, cap2, .inl (fI f2)))] ∧ SBK cap2 n2 f2 ∧ ET f n f2 n2 (dcL x) ∧ n2 = n + szI x ∧ (1 ≤ szI x ∧ szI x ≤ 3)) :=
  Ct.post (c_J4_append_bf812 G l a v cap n f x hk.1 hk.2.1 hk.2.2 hx (by have := szI_in (v := x); omega)) (fun r w h => by
    obtain ⟨rfl, v2, cap2, f2, rfl, e1, e2, e3, e4⟩ := h
    have := hk.2.1
    have hs := szI_in (v := x)
    exact ⟨rfl, v2, cap2, _, f2, rfl, ⟨e1, ⟨by omega, e2⟩, e3⟩, ET_int e4, rfl, hs⟩)
end JJ
