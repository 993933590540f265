section KK
theorem CtX.ct {G : GG} {l : Launch} {y : MethodName} {wy : List Cond} {fr lo mc ms : Nat} {args : List Value} {ws : va_W} {Po : Option Value → va_W → Prop} {PX : String → va_W → Prop} (h : CtX G l y wy fr lo mc ms args ws Po PX) (hx : ∀ E w, ¬ PX E w) : Ct G l y wy fr lo mc ms args ws Po := fun sz =>
  MetFree.mono (h sz) (fun _ _ h => h) (fun _ _ _ _ _ h => h) (fun _ _ _ _ _ h => by
    rcases h with h | ⟨q, e, E, ce, L, ⟨w, hw, _⟩, _⟩
    · exact h
    · exact absurd hw (hx E w))
/-- the world of a TurnLine whose now is F, K -/
def tlS (G : GG) (A : Nat → Nat) (B : Nat → Nat → Nat) (F : Int → Int → Int) (K : Int → Int → Int64) (w : va_W) : Prop := ∃ (lads : Nat → Nat → Nat) (f bu cf cp ff fp : Int → Int) (Q : Nat → Int → Int → Int) (R : Nat → Int → Int → Int64) (LF : Nat → Int → Int → Int) (LK : Nat → Int → Int → Int64) (z : Int → Int), w = tlW G A B lads f bu cf cp ff fp Q R LF LK z ∧ Q 0 = F ∧ R 0 = K ∧ 0 ≤ z 0 ∧ z 0 ≤ 10
def tlR (A : Nat → Nat) (B : Nat → Nat → Nat) : List Value := [.ref (A 1), .ref (B 0 0), .ref (B 1 0), .ref (B 2 0), .ref (A 3), .ref (A 5), .ref (A 8), .ref (A 10), .ref (A 11)]
theorem kpC_in {z : Int → Int} (h0 : 0 ≤ z 0) (h1 : z 0 ≤ 10) : 0 ≤ (up z 0 (kpC (z 0))) 0 ∧ (up z 0 (kpC (z 0))) 0 ≤ 10 := by
  rw [up_s]
  unfold kpC
  split <;> omega
theorem tlS.at0 {G : GG} {A : Nat → Nat} {B : Nat → Nat → Nat} {F : Int → Int → Int} {K : Int → Int → Int64} {w : va_W} (h : tlS G A B F K w) : w[0]? = some (A 0, .inr (7, tlR A B)) := by
  obtain ⟨lads, f, bu, cf, cp, ff, fp, Q, R, LF, LK, z, rfl, rfl, rfl, hz0, hz1⟩ := h
  rfl
theorem k_size {G : GG} {l : Launch} {A : Nat → Nat} {B : Nat → Nat → Nat} {F : Int → Int → Int} {K : Int → Int → Int64} {w : va_W} {q v : Int} (hst : l.stackTraces = false) (hw : tlS G A B F K w) (hq : 0 ≤ q ∧ q ≤ 5) (hv : ∀ c, szC F c q = v) : Ct G l yX7_size (Cond.code yX7_size cX7_size 2 (some .int) :: wsL_law) 6 90 1 6 [.ref (A 0), vI q] w (fun r w' => r = some (vI v) ∧ tlS G A B F K w') := by
  obtain ⟨lads, f, bu, cf, cp, ff, fp, Q, R, LF, LK, z, rfl, rfl, rfl, hz0, hz1⟩ := hw
  exact Ct.post (CtX.ct (C_X7_size G l A B lads f bu cf cp ff fp Q R LF LK z q hst ⟨by omega, by omega⟩) (fun E w h => h.2.2 ⟨by omega, by omega⟩)) (fun r w' h => by obtain ⟨rfl, rfl, _⟩ := h; exact ⟨by rw [hv], ⟨lads, f, bu, cf, cp, ff, fp, Q, R, LF, LK, z, rfl, rfl, rfl, hz0, hz1⟩⟩)

theorem k_account {G : GG} {l : Launch} {A : Nat → Nat} {B : Nat → Nat → Nat} {F : Int → Int → Int} {K : Int → Int → Int64} {w : va_W} {q : Int} (hst : l.stackTraces = false) (hw : tlS G A B F K w) (hq : 0 ≤ q ∧ q ≤ 9) : Ct G l yX7_account (Cond.code yX7_account cX7_account 2 (some .int) :: wsL_law) 6 90 1 6 [.ref (A 0), vI q] w (fun r w' => r = some (vI (F 5 q)) ∧ tlS G A B F K w') := by
  obtain ⟨lads, f, bu, cf, cp, ff, fp, Q, R, LF, LK, z, rfl, rfl, rfl, hz0, hz1⟩ := hw
  exact Ct.post (CtX.ct (C_X7_account G l A B lads f bu cf cp ff fp Q R LF LK z q hst ⟨by omega, by omega⟩) (fun E w h => h.2.2 ⟨by omega, by omega⟩)) (fun r w' h => by obtain ⟨rfl, rfl, _⟩ := h; exact ⟨rfl, ⟨lads, f, bu, cf, cp, ff, fp, Q, R, LF, LK, z, rfl, rfl, rfl, hz0, hz1⟩⟩)

theorem k_isTold {G : GG} {l : Launch} {A : Nat → Nat} {B : Nat → Nat → Nat} {F : Int → Int → Int} {K : Int → Int → Int64} {w : va_W} {q v : Int} (hst : l.stackTraces = false) (hw : tlS G A B F K w) (hq : sm q) (hv : bI (tlL (K 2) q) = v) : Ct G l yX7_isTold (Cond.code yX7_isTold cX7_isTold 2 (some .boolean) :: wsL_law) 1 21 0 0 [.ref (A 0), vI q] w (fun r w' => r = some (vI v) ∧ tlS G A B F K w') := by
  obtain ⟨lads, f, bu, cf, cp, ff, fp, Q, R, LF, LK, z, rfl, rfl, rfl, hz0, hz1⟩ := hw
  exact Ct.post (C_X7_isTold G l A B lads f bu cf cp ff fp Q R LF LK z q hq) (fun r w' h => by obtain ⟨rfl, rfl⟩ := h; exact ⟨by rw [hv], ⟨lads, f, bu, cf, cp, ff, fp, Q, R, LF, LK, z, rfl, rfl, rfl, hz0, hz1⟩⟩)

theorem k_station {G : GG} {l : Launch} {A : Nat → Nat} {B : Nat → Nat → Nat} {F : Int → Int → Int} {K : Int → Int → Int64} {w : va_W} {s q : Int} (hst : l.stackTraces = false) (hw : tlS G A B F K w) (hs : 0 ≤ s ∧ s ≤ 1) (hq : 0 ≤ q ∧ q ≤ 9) : Ct G l yX7_station (Cond.code yX7_station cX7_station 3 (some .int) :: wsL_law) 7 110 2 12 [.ref (A 0), vI s, vI q] w (fun r w' => r = some (vI (F (1 + s) q)) ∧ tlS G A B F K w') := by
  obtain ⟨lads, f, bu, cf, cp, ff, fp, Q, R, LF, LK, z, rfl, rfl, rfl, hz0, hz1⟩ := hw
  exact Ct.post (CtX.ct (C_X7_station G l A B lads f bu cf cp ff fp Q R LF LK z s q hst ⟨by omega, by omega⟩ ⟨by omega, by omega⟩) (fun E w h => by rcases h with ⟨_, ⟨_, h⟩ | ⟨_, _, h⟩⟩ <;> exact h ⟨by omega, by omega⟩)) (fun r w' h => by obtain ⟨rfl, rfl, _⟩ := h; exact ⟨rfl, ⟨lads, f, bu, cf, cp, ff, fp, Q, R, LF, LK, z, rfl, rfl, rfl, hz0, hz1⟩⟩)

theorem k_messageByte {G : GG} {l : Launch} {A : Nat → Nat} {B : Nat → Nat → Nat} {F : Int → Int → Int} {K : Int → Int → Int64} {w : va_W} {s m j : Int} (hst : l.stackTraces = false) (hw : tlS G A B F K w) (hs : 0 ≤ s ∧ s ≤ 1) (hm : (0 ≤ m ∧ m < F (1 + s) 0) ∧ m < 20) (hj : sm j) (hQ : ∀ i, sB 1000000 (F i)) : Ct G l yX7_messageByte (Cond.code yX7_messageByte cX7_messageByte 5 (some .int) :: wsL_law) 7 110 2 12 [.ref (A 0), vI s, vI m, vI j] w (fun r w' => r = some (vI (if 0 ≤ j ∧ j < F (3 + s) m then cB0 (K s m) j % 256 else -1)) ∧ tlS G A B F K w') := by
  obtain ⟨lads, f, bu, cf, cp, ff, fp, Q, R, LF, LK, z, rfl, rfl, rfl, hz0, hz1⟩ := hw
  exact Ct.post (CtX.ct (C_X7_messageByte G l A B lads f bu cf cp ff fp Q R LF LK z s m j hst ⟨by omega, by omega⟩ ⟨by omega, by omega⟩ hj hQ) (fun E w h => h.2.2 ⟨hs, hm⟩)) (fun r w' h => by obtain ⟨rfl, rfl, _⟩ := h; exact ⟨by congr 2; by_cases c : 0 ≤ j ∧ j < Q 0 (3 + s) m; rw [if_pos ⟨hm, c⟩, if_pos c]; rw [if_neg (fun x => c x.2), if_neg c], ⟨lads, f, bu, cf, cp, ff, fp, Q, R, LF, LK, z, rfl, rfl, rfl, hz0, hz1⟩⟩)

theorem k_next {G : GG} {l : Launch} {A : Nat → Nat} {B : Nat → Nat → Nat} {F : Int → Int → Int} {K : Int → Int → Int64} {w : va_W} {q v : Int} (hst : l.stackTraces = false) (hw : tlS G A B F K w) (hq : 0 ≤ q ∧ q ≤ 5) (hv : nxC K F q = v) (hQ : ∀ i, sB 1000000 (F i)) (hT : F 0 1 = 0 ∨ F 0 1 = 1) (hd2 : isDL F → 0 ≤ leL F (nmL F) ∧ leL F (nmL F) ≤ 8) : Ct G l yX7_next (Cond.code yX7_next cX7_next 2 (some .int) :: wsL_law) 6 90 1 6 [.ref (A 0), vI q] w (fun r w' => r = some (vI v) ∧ tlS G A B F K w') := by
  obtain ⟨lads, f, bu, cf, cp, ff, fp, Q, R, LF, LK, z, rfl, rfl, rfl, hz0, hz1⟩ := hw
  exact Ct.post (CtX.ct (C_X7_next G l A B lads f bu cf cp ff fp Q R LF LK z q hst ⟨by omega, by omega⟩ hQ hT hd2) (fun E w h => by obtain ⟨_, _, _, _, h⟩ := h; exact h ⟨by omega, by omega⟩)) (fun r w' h => by obtain ⟨f2, p2, rfl, rfl, _⟩ := h; exact ⟨by rw [hv], lads, f, bu, f2, p2, ff, fp, Q, R, LF, LK, z, rfl, rfl, rfl, hz0, hz1⟩)

theorem k_nextByte {G : GG} {l : Launch} {A : Nat → Nat} {B : Nat → Nat → Nat} {F : Int → Int → Int} {K : Int → Int → Int64} {w : va_W} {q : Int} (hst : l.stackTraces = false) (hw : tlS G A B F K w) (hq : sm q) (hQ : ∀ i, sB 1000000 (F i)) (hT : F 0 1 = 0 ∨ F 0 1 = 1) (hd2 : isDL F → 0 ≤ leL F (nmL F) ∧ leL F (nmL F) ≤ 8) : Ct G l yX7_nextByte (Cond.code yX7_nextByte cX7_nextByte 2 (some .int) :: wsL_law) 3 69 0 0 [.ref (A 0), vI q] w (fun r w' => ∃ v : Int, r = some (vI v) ∧ tlS G A B F K w' ∧ (∀ li : Int → Int, LSp li (pbL F K) (7 + dlL F) → li (1 + (7 + dlL F) + escI (pbL F K) (7 + dlL F)) = 126 → v = if 0 ≤ q ∧ q ≤ (1 + (7 + dlL F) + escI (pbL F K) (7 + dlL F)) then li q else -1)) := by
  obtain ⟨lads, f, bu, cf, cp, ff, fp, Q, R, LF, LK, z, rfl, rfl, rfl, hz0, hz1⟩ := hw
  exact Ct.post (C_X7_nextByte G l A B lads f bu cf cp ff fp Q R LF LK z q hq hQ hT hd2) (fun r w' h => by obtain ⟨v, f2, p2, rfl, rfl, h⟩ := h; exact ⟨v, rfl, ⟨lads, f, bu, f2, p2, ff, fp, Q, R, LF, LK, z, rfl, rfl, rfl, hz0, hz1⟩, h⟩)

theorem k_read {G : GG} {l : Launch} {A : Nat → Nat} {B : Nat → Nat → Nat} {F : Int → Int → Int} {K : Int → Int → Int64} {w : va_W} {s q : Int} (hst : l.stackTraces = false) (hw : tlS G A B F K w) (hs : 0 ≤ s ∧ s ≤ 1) (hq : (1 ≤ q ∧ q ≤ 20) ∧ q ≤ F (1 + s) 1 - F (1 + s) 2) (hQ : ∀ i, sB 1000000 (F i)) (hz : F 0 6 = 0 ∨ F 0 6 = 1) : Ct G l yX7_read (Cond.code yX7_read cX7_read 4 (some .int) :: wsL_law) 7 124 3 18 [.ref (A 0), vI s, vI q] w (fun r w' => r = some (vI (F (1 + s) 1 - (F (1 + s) 2 + q))) ∧ tlS G A B (up F (1 + s) (up (F (1 + s)) 2 (F (1 + s) 2 + q))) K w') := by
  obtain ⟨lads, f, bu, cf, cp, ff, fp, Q, R, LF, LK, z, rfl, rfl, rfl, hz0, hz1⟩ := hw
  exact Ct.post (CtX.ct (C_X7_read G l A B lads f bu cf cp ff fp Q R LF LK z s q hst ⟨by omega, by omega⟩ ⟨by omega, by omega⟩ hQ ⟨hz0, hz1⟩ hz) (fun E w h => by rcases h with ⟨_, ⟨_, h⟩ | ⟨_, _, h⟩ | ⟨_, _, _, h⟩⟩ <;> first | exact h ⟨by omega, by omega⟩ | exact h hq.2)) (fun r w' h => by obtain ⟨lads2, F1, K1, rfl, rfl, rfl, rfl, _⟩ := h; exact ⟨rfl, lads2, f, bu, cf, cp, ff, fp, _, _, _, _, _, rfl, rfl, rfl, kpC_in hz0 hz1⟩)

theorem k_run {G : GG} {l : Launch} {A : Nat → Nat} {B : Nat → Nat → Nat} {F : Int → Int → Int} {K : Int → Int → Int64} {w : va_W} {F2 : Int → Int → Int} (hst : l.stackTraces = false) (hw : tlS G A B F K w) (hf : F 5 0 + 1 ≤ 2000) (hok : OKL F) (hQ : ∀ i, sB 1000000 (F i)) (hz : F 0 6 = 0 ∨ F 0 6 = 1) (h2 : spL K F = F2) : Ct G l yX7_run (Cond.code yX7_run cX7_run 3 (some .int) :: wsL_law) 7 128 2 12 [.ref (A 0), vI 1] w (fun r w' => r = some (vI (tmL F2)) ∧ tlS G A B F2 K w') := by
  obtain ⟨lads, f, bu, cf, cp, ff, fp, Q, R, LF, LK, z, rfl, rfl, rfl, hz0, hz1⟩ := hw
  exact Ct.post (CtX.ct (C_X7_run G l A B lads f bu cf cp ff fp Q R LF LK z 1 hst (by decide) (fun j hj => by have e : j = 0 := (by omega); subst e; exact hok) hQ ⟨hz0, hz1⟩ hz) (fun E w h => by rcases h with ⟨_, ⟨_, h⟩ | ⟨_, _, h⟩⟩; exact h (by decide); exact h hf)) (fun r w' h => by subst h2; obtain ⟨lads2, F1, K1, f2, p2, rfl, rfl, rfl, rfl, _⟩ := h; exact ⟨rfl, lads2, f, bu, f2, p2, ff, fp, _, _, _, _, _, rfl, rfl, rfl, kpC_in hz0 hz1⟩)

theorem k_efficiency {G : GG} {l : Launch} {A : Nat → Nat} {B : Nat → Nat → Nat} {F : Int → Int → Int} {K : Int → Int → Int64} {w : va_W}  (hst : l.stackTraces = false) (hw : tlS G A B F K w) (hQ : ∀ i, sB 1000000 (F i)) (h56 : F 5 6 = 0) : Ct G l yX7_efficiency (Cond.code yX7_efficiency cX7_efficiency 3 (some .double) :: wsL_law) 3 65 0 0 [.ref (A 0)] w (fun r w' => r = some (.double FP.dconst0) ∧ tlS G A B F K w') := by
  obtain ⟨lads, f, bu, cf, cp, ff, fp, Q, R, LF, LK, z, rfl, rfl, rfl, hz0, hz1⟩ := hw
  exact Ct.post (C_X7_efficiency G l A B lads f bu cf cp ff fp Q R LF LK z hQ h56) (fun r w' h => by obtain ⟨rfl, rfl⟩ := h; exact ⟨by rw [show efC (Q 0) = FP.dconst0 from if_pos (by omega)], ⟨lads, f, bu, cf, cp, ff, fp, Q, R, LF, LK, z, rfl, rfl, rfl, hz0, hz1⟩⟩)
theorem iI_div {a b : Int} (h0 : 0 ≤ a) (h1 : a < 2147483648) (hb : 0 < b) (hb1 : b < 2147483648) : iI a / iI b = iI (a / b) := by
  obtain ⟨n, rfl⟩ := Int.eq_ofNat_of_zero_le h0
  obtain ⟨d, rfl⟩ := Int.eq_ofNat_of_zero_le (Int.le_of_lt hb)
  have := pk_div (a := n) (d := d) (by omega) (by omega) (by omega)
  rw [iI_nI, iI_nI] at this
  exact this.trans (by rw [iI_nI]; congr 1)
theorem iI_rem {a b : Int} (h0 : 0 ≤ a) (h1 : a < 2147483648) (hb : 0 < b) (hb1 : b < 2147483648) : iI a - iI a / iI b * iI b = iI (a % b) := by
  obtain ⟨n, rfl⟩ := Int.eq_ofNat_of_zero_le h0
  obtain ⟨d, rfl⟩ := Int.eq_ofNat_of_zero_le (Int.le_of_lt hb)
  have := pk_rem (a := n) (d := d) (by omega) (by omega) (by omega)
  rw [iI_nI, iI_nI] at this
  exact this.trans (by rw [iI_nI]; congr 1)
theorem iI_n0 {b : Int} (hb : 0 < b) (hb1 : b < 2147483648) : ¬ iI b = 0 := fun h => by
  have := (iI_eq (⟨by omega, by omega⟩ : sm b) (by decide : sm 0)).mp (h.trans iI_0)
  omega
theorem iI_andM (a : Int) : iI a &&& iI 65535 = iI (a % 65536) := by
  have h := pk_and (iI a) (m := iI 65535) 16 (by decide +kernel)
  have e : (iI a).toBitVec.toNat = (a % 4294967296).toNat := by
    unfold iI
    show (BitVec.ofInt 32 a).toNat = _
    rw [BitVec.toNat_ofInt]
    rfl
  rw [h, iI_nI, e]
  congr 1
  omega
theorem vC_len {X : vCx} {cc : ByteArray} {own : String} {Ts : List Cond} {fr lo mR sR : Nat} (C : vC X cc own Ts fr lo mR sR) : (vG X).1.2 301 ≤ 1000 := by
  obtain ⟨p, l, e, R, s, m, args, below, meth, c, Q, A, nL, G⟩ := X
  obtain ⟨hx, hb, hml, hown, hts, hK, hA, hR1, hR2, hR3, hR4, hNn⟩ := C
  exact hNn.2.2.2.2.2.2.2.2.2
end KK
