section LawL
theorem hR_k {a b : Bool} {x y z w : Nat} (ha : a = true) (hb : b = true) (h1 : x ≤ y) (h2 : z ≤ w) : (a && b && Nat.ble x y && Nat.ble z w) = true := by
  rw [ha, hb, Nat.ble_eq_true_of_le h1, Nat.ble_eq_true_of_le h2]
  rfl
/-- the law's script -/
def vScr (X : vCx) (b L : Nat) (xs : Nat → Int) : Prop := match X with
  | (p, l, e, R, s, m, args, below, meth, c, Q, A, nL, G) => va_X b L (fun j => iI (xs j)) s s.heap ∧ b < s.heap.size ∧ ¬ A b
section
variable {X : vCx} {cc : ByteArray} {own : String} {Ts : List Cond} {fr lo mR sR k n pc : Nat} {L0 : List (Nat × Value)} {st : List Value} {ws : va_W}
theorem v_sld (C : vC X cc own Ts fr lo mR sR) {b L : Nat} {xs : Nat → Int} (S : vScr X b L xs) {i a : Int} (h0 : 0 ≤ i) (h1 : i < L) (hL : L < 2147483648) (ha : a = xs i.toNat) (hd : decode cc pc = .ok (.iaload, 1)) (kk : V X k n (pc + 1) L0 (vI a :: st) ws) : V X k n pc L0 (vI i :: .ref b :: st) ws := by
  obtain ⟨p, l, e, R, s, m, args, below, meth, c, Q, A, nL, G⟩ := X
  obtain ⟨hx, hb, hml, hown, hts, hK, hA, hR1, hR2, hR3, hR4, hNn⟩ := C
  obtain ⟨s1, s2, s3⟩ := S
  intro H locs ls hP hD hS hl
  refine va_sld hx hb s1 s2 s3 hS (iI_in h0 h1 hL) hd ?_
  rw [iI_cl h0 ⟨by omega, by omega⟩]
  show W p l e R s m args below meth c H locs k n Q (F0 m (pc + 1) ls (vI (xs i.toNat) :: st))
  rw [← ha]
  exact kk H locs ls hP hD hS hl
theorem v_slen (C : vC X cc own Ts fr lo mR sR) {b L : Nat} {xs : Nat → Int} (S : vScr X b L xs) (hd : decode cc pc = .ok (.arraylength, 1)) (kk : V X k n (pc + 1) L0 (vI (L : Int) :: st) ws) : V X k n pc L0 (.ref b :: st) ws := by
  obtain ⟨p, l, e, R, s, m, args, below, meth, c, Q, A, nL, G⟩ := X
  obtain ⟨hx, hb, hml, hown, hts, hK, hA, hR1, hR2, hR3, hR4, hNn⟩ := C
  obtain ⟨s1, s2, s3⟩ := S
  intro H locs ls hP hD hS hl
  refine va_slen hx hb s1 s2 s3 hS hd ?_
  have e : Int32.ofNat L = iI (L : Int) := (Int32.ofInt_eq_ofNat).symm
  rw [e]
  exact kk H locs ls hP hD hS hl
theorem v_tabI (C : vC X cc own Ts fr lo mR sR) {dflt lo' hi : Int} {offs : Array Int} {len : Nat} {x off : Int} {tgt : Nat} (hd : decode cc pc = .ok (.tableswitch dflt lo' hi offs, len)) (hs : sm x) (h1 : ¬ x < lo') (h2 : ¬ hi < x) (ho : offs[(x - lo').toNat]? = some off) (ht : (pc : Int) + off = (tgt : Int)) (kk : V X k n tgt L0 st ws) : V X k n pc L0 (vI x :: st) ws := by
  obtain ⟨p, l, e, R, s, m, args, below, meth, c, Q, A, nL, G⟩ := X
  obtain ⟨hx, hb, hml, hown, hts, hK, hA, hR1, hR2, hR3, hR4, hNn⟩ := C
  intro H locs ls hP hD hS hl
  have e := iI_toInt hs
  exact lv_tableIn hx hb hd (by rw [e]; exact h1) (by rw [e]; exact h2) (by rw [e]; exact ho) ht (kk H locs ls hP hD hS hl)
theorem v_tabO (C : vC X cc own Ts fr lo mR sR) {dflt lo' hi : Int} {offs : Array Int} {len : Nat} {x : Int} {tgt : Nat} (hd : decode cc pc = .ok (.tableswitch dflt lo' hi offs, len)) (hs : sm x) (h1 : x < lo' ∨ hi < x) (ht : (pc : Int) + dflt = (tgt : Int)) (kk : V X k n tgt L0 st ws) : V X k n pc L0 (vI x :: st) ws := by
  obtain ⟨p, l, e, R, s, m, args, below, meth, c, Q, A, nL, G⟩ := X
  obtain ⟨hx, hb, hml, hown, hts, hK, hA, hR1, hR2, hR3, hR4, hNn⟩ := C
  intro H locs ls hP hD hS hl
  have e := iI_toInt hs
  exact lv_tableOut hx hb hd (by rw [e]; exact h1) ht (kk H locs ls hP hD hS hl)
theorem lg_self (x : Int64) : lg_cmp x x = iI 0 := by
  unfold lg_cmp
  have h : ¬ x < x := by
    rw [Int64.lt_iff_toInt_lt]
    omega
  rw [if_neg h, if_pos rfl]
  rfl
theorem v_lcmpS (C : vC X cc own Ts fr lo mR sR) {x : Int64} (hd : decode cc pc = .ok (.lcmp, 1)) (kk : V X k n (pc + 1) L0 (vI 0 :: st) ws) : V X k n pc L0 (.long x :: .long x :: st) ws := by
  refine v_lcmp C hd ?_
  rw [lg_self]
  exact kk
end
theorem iI_and31 (a : Int) : iI a &&& iI 31 = iI (a % 32) := by
  have h := pk_and (iI a) (m := iI 31) 5 (by decide +kernel)
  have e : (iI a).toBitVec.toNat = (a % 4294967296).toNat := by
    unfold iI
    show (BitVec.ofInt 32 a).toNat = _
    rw [BitVec.toNat_ofInt]
    rfl
  rw [h, iI_nI, e]
  congr 1
  omega
/-- what a helper's call and the reference's give together -/
theorem PH_out {G : GG} {A : Nat → Nat} {B : Nat → Nat → Nat} {ad : Nat → Nat} {Po : Option Value → va_W → Prop} {PX : String → va_W → Prop} {cd : String → Int → Prop} {Pm : Option Value → va_W → Prop} (h : PH G A B ad Po PX cd Pm) {o : Nat} {g : Int → Int64} {r9 : Option Value} {w9 : va_W}
    (hp : (∃ (z : Int) (w1 : va_W), Po (some (vI z)) w1 ∧ r9 = some (vI 0) ∧ w9 = w1 ++ [(o, .inl (G.2 2, 1, .inr (.inl (fL (up g 0 (iI z).toInt64)))))]) ∨ (∃ (E : String) (w1 : va_W) (k : Int), PX E w1 ∧ cd E k ∧ r9 = some (vI k) ∧ w9 = w1 ++ [(o, .inl (G.2 2, 1, .inr (.inl (fL g))))])) :
    ∃ (w1 : va_W) (g' : Int → Int64) (k : Int), r9 = some (vI k) ∧ sm k ∧ w9 = w1 ++ [(o, .inl (G.2 2, 1, .inr (.inl (fL g'))))] ∧ ∀ (r : Option Value) (w2 : va_W), Pm r w2 → ∃ v : Int, r = some (vI v) ∧ LIk G A B ad k w1 w2 ∧ (k = 0 → (iI v).toInt64 = g' 0) := by
  obtain ⟨h1, h2, h3⟩ := h
  rcases hp with ⟨z, w1, a, rfl, rfl⟩ | ⟨E, w1, k, a, c, rfl, rfl⟩
  · refine ⟨w1, _, 0, rfl, by decide, rfl, fun r w2 hm => ?_⟩
    obtain ⟨v, b1, b2, b3⟩ := h1 z w1 r w2 a hm
    exact ⟨v, b1, b3, fun _ => by rw [up_s, b2]⟩
  · have hk := h3 E k c
    refine ⟨w1, _, k, rfl, ⟨by omega, by omega⟩, rfl, fun r w2 hm => ?_⟩
    obtain ⟨v, b1, b2⟩ := h2 E k w1 r w2 a c hm
    exact ⟨v, b1, b2, fun e => by omega⟩
/-- the law's locals at the head of its loop -/
abbrev lwL (A ad : Nat → Nat) (o b : Nat) (i : Int) : List (Nat × Value) := [(4, vI i), (3, .ref o), (2, .ref (ad 0)), (1, .ref (A 0)), (0, .ref b)]
abbrev lwO (G : GG) (o : Nat) (g : Int → Int64) : va_W := [(o, .inl (G.2 2, 1, .inr (.inl (fL g))))]
abbrev lwC (X : vCx) (c0 : Cond) : Prop := vC X cL_law RL (c0 :: wsL_law) 12 436 601024 7293034
set_option maxHeartbeats 1000000 in
set_option maxRecDepth 100000 in
/-- from the reference's answer on: was the same thrown, and, if nothing was, is the same answered -/
theorem lw_tail {X : vCx} {c0 : Cond} (C : lwC X c0) (M9 : vM X 9) {A : Nat → Nat} {B : Nat → Nat → Nat} {ad : Nat → Nat} {o b k n pc : Nat} {i kk v off : Int} {w1 w2 : va_W} {g : Int → Int64} (hkk : sm kk) (hLI : LIk (vG X) A B ad kk w1 w2) (hv : kk = 0 → (iI v).toInt64 = g 0) (hk : k ≤ 601024) (hn : n ≤ 7293034)
    (d0 : decode cL_law pc = .ok (.istore 6, 2)) (d2 : decode cL_law (pc + 2) = .ok (.aload_n 2, 1)) (d3 : decode cL_law (pc + 3) = .ok (.invokevirtual 80, 3)) (d6 : decode cL_law (pc + 6) = .ok (.iload 5, 2)) (d8 : decode cL_law (pc + 8) = .ok (.if_icmp .eq 5, 3)) (d13 : decode cL_law (pc + 13) = .ok (.iload 5, 2)) (d15 : decode cL_law (pc + 15) = .ok (.ifCond .ne 15, 3)) (d18 : decode cL_law (pc + 18) = .ok (.aload_n 3, 1)) (d19 : decode cL_law (pc + 19) = .ok (.iconst 0, 1)) (d20 : decode cL_law (pc + 20) = .ok (.laload, 1)) (d21 : decode cL_law (pc + 21) = .ok (.iload 6, 2)) (d23 : decode cL_law (pc + 23) = .ok (.i2l, 1)) (d24 : decode cL_law (pc + 24) = .ok (.lcmp, 1)) (d25 : decode cL_law (pc + 25) = .ok (.ifCond .eq 5, 3)) (d30 : decode cL_law (pc + 30) = .ok (.goto off, 3)) (hg : ((pc + 30 : Nat) : Int) + off = ((1413 : Nat) : Int))
    (nx : V X k n 1413 (lwL A ad o b i) [] (w1 ++ w2 ++ lwO (vG X) o g)) : V X k n pc ((5, vI kk) :: lwL A ad o b i) [vI v] (w2 ++ (w1 ++ lwO (vG X) o g)) := by
  obtain ⟨lads, f, bu, cf, cp, ff, fp, Q, R, LF, LK, z, M, T, hM0, h1, h2⟩ := hLI
  subst h2
  have hend : V X k n 1413 ((6, vI v) :: (5, vI kk) :: lwL A ad o b i) [] (lwO (vG X) o g ++ (w1 ++ mW (vG X) ad M)) := by
    refine V.loc [2, 3, 4, 5, 6] rfl ?_
    exact V.sb (Sb.bl [1, 2, 0] 3 (fl_app fl1 fl2) fl3 rfl rfl (by decide +kernel)) nx
  refine v_istore C M9 d0 (by decide) (L' := (6, vI v) :: (5, vI kk) :: lwL A ad o b i) rfl ?_
  refine v_aload_n C d2 rfl 4 rfl ?_
  refine v_callV (na := 0) (wy := (Cond.code yX8_thrown cX8_thrown 1 (some .int) :: wsL_law)) (wc := mW (vG X) ad M) (wr := w1 ++ lwO (vG X) o g) C [] [] (c_X8_thrown (vG X) (vL X) ad M) rfl (gwV mw_412 mw_409 mw_410 mw_411 mw_5) rfl (by decide +kernel) 0 rfl rfl (hR_k rfl rfl (by omega) (by omega)) rfl Sb.rf rfl rfl d3 (fun r w9 hp => ?_)
  obtain ⟨v9, rfl, rfl, rfl⟩ := hp
  refine V.sb (ws' := lwO (vG X) o g ++ (w1 ++ mW (vG X) ad M)) (Sb.bl [2, 1, 0] 3 (fl_app fl1 fl2) (fl_app fl1 fl2) rfl rfl (by decide +kernel)) ?_
  rw [hM0]
  refine v_iload C d6 1 rfl ?_
  refine v_icmp_eq (tgt := pc + 13) C d8 (by omega) hkk hkk (fun _ => ?_) (fun c => absurd rfl c)
  refine v_iload C d13 1 rfl ?_
  refine v_if_ne (tgt := pc + 30) C d15 (by omega) hkk (fun c => ?_) (fun c => ?_)
  · refine v_goto (tgt := 1413) C d30 hg ?_
    exact hend
  · have e0 : kk = 0 := by first | exact c | exact Classical.not_not.mp c
    refine v_aload_n C d18 rfl 3 rfl ?_
    refine v_iconst C d19 ?_
    refine v_lald C 0 rfl (by decide) (by decide) (by decide) d20 ?_
    refine v_iload C d21 0 rfl ?_
    refine v_i2l C d23 (hv e0) ?_
    refine v_lcmpS C d24 ?_
    refine v_if_eq (tgt := pc + 30) C d25 (by omega) (by decide) (fun _ => ?_) (fun c => absurd rfl c)
    refine v_goto (tgt := 1413) C d30 hg ?_
    exact hend
end LawL
