section VLay4
section Rules4
variable {X : vCx} {cc : ByteArray} {own : String} {Ts : List Cond} {fr lo mR sR : Nat} {k n pc : Nat} {L : List (Nat × Value)} {st : List Value} {ws : va_W}
def fQ (f : Int → Option Nat) : Nat → Option Nat := fun i => f (i : Int)
theorem fQ_at {f : Int → Option Nat} {i : Int} (h0 : 0 ≤ i) (hs : sm i) : fQ f (iI i).toNatClampNeg = f i := by
  rw [iI_cl h0 hs]
  unfold fQ
  rw [Int.toNat_of_nonneg h0]
theorem fQ_up {f : Int → Option Nat} {i : Int} {v : Option Nat} (h0 : 0 ≤ i) (hs : sm i) : va_up (fQ f) (iI i).toNatClampNeg v = fQ (up f i v) := by
  rw [iI_cl h0 hs]
  funext j
  unfold va_up fQ up
  by_cases hj : j = i.toNat
  · rw [if_pos hj, if_pos (by omega)]
  · rw [if_neg hj, if_neg (by omega)]
theorem v_anew (C : vC X cc own Ts fr lo mR sR) {z : Int} {index N' : Nat} (hcl : Cond.classLink own index "TurnLine$Line" ∈ Ts) (h0 : 0 ≤ z) (hs : sm z) (hN : z.toNat = N') (hby : Nat.ble (N' * 4) 536870912 = true) (hc1 : Nat.ble (k + 1) mR = true) (hs1 : Nat.ble (n + N') sR = true) (hd : decode cc pc = .ok (.anewarray index, 3))
    (kk : ∀ q : Nat, V X (k + 1) (n + N') (pc + 3) L (.ref q :: st) (ws ++ [(q, .inl ((vG X).2 4, N', .inr (.inr (.inr (.inr (fQ (fun _ => none)))))))])) : V X k n pc L (vI z :: st) ws := by
  obtain ⟨p, l, e, R, s, m, args, below, meth, c, Q, A, nL, G⟩ := X
  obtain ⟨hx, hb, hml, hown, hts, hK, hA, hR1, hR2, hR3, hR4, hNn⟩ := C
  intro H locs ls hP hD hS hl
  subst hR3 hR4
  refine va_newq (D := G.1.1) (cl := vwCl) hx hb hown (hts _ hcl) hNn.1.1.2 hK hP hD hS hA (by rw [iI_0, iI_lt hs (by decide)]; omega) (by rw [iI_cl h0 hs]; exact hN) (Nat.le_of_ble_eq_true hby) (Nat.le_of_ble_eq_true hc1) (Nat.le_of_ble_eq_true hs1) hd (fun q cA H1 hK1 hP1 hD1 hS1 => ?_)
  obtain ⟨kA1, co1, x1, x2, x3, e1⟩ := (hK1.2 5 (cA, .object "TurnLine$Line") rfl).2
  obtain ⟨kA2, co2, y1, y2, y3, e2⟩ := (hK.2 4 (G.2 4, .object "TurnLine$Line") rfl).2
  have e3 : cA = G.2 4 := Option.some.inj (e1.symm.trans e2)
  subst e3
  exact kk q H1 locs ls hP1 hD1 hS1 hl
theorem v_aald (C : vC X cc own Ts fr lo mR sR) {a N : Nat} {f : Int → Option Nat} {i : Int} (q0 : Nat) (ha : ws[q0]? = some (a, .inl ((vG X).2 4, N, .inr (.inr (.inr (.inr (fQ f))))))) (h0 : 0 ≤ i) (h1 : i < N) (hN : N < 2147483648) (hd : decode cc pc = .ok (.aaload, 1))
    (kk : V X k n (pc + 1) L (va_rf (f i) :: st) ws) : V X k n pc L (vI i :: .ref a :: st) ws := by
  obtain ⟨p, l, e, R, s, m, args, below, meth, c, Q, A, nL, G⟩ := X
  obtain ⟨hx, hb, hml, hown, hts, hK, hA, hR1, hR2, hR3, hR4, hNn⟩ := C
  intro H locs ls hP hD hS hl
  refine va_aldq (D := G.1.1) (cl := vwCl) hx hb hK hP q0 4 ha rfl (iI_in h0 h1 hN) hd ?_
  rw [fQ_at h0 ⟨by omega, by omega⟩]
  exact kk H locs ls hP hD hS hl
theorem v_aast (C : vC X cc own Ts fr lo mR sR) {a N v : Nat} {f : Int → Option Nat} {i : Int} {vs : List Value} (q0 qk : Nat) (ha : ws[q0]? = some (a, .inl ((vG X).2 4, N, .inr (.inr (.inr (.inr (fQ f))))))) (hv : ws[qk]? = some (v, .inr (3, vs))) (h0 : 0 ≤ i) (h1 : i < N) (hN : N < 2147483648) (hd : decode cc pc = .ok (.aastore, 1)) {ws' : va_W} (hw : ws.set q0 (a, .inl ((vG X).2 4, N, .inr (.inr (.inr (.inr (fQ (up f i (some v)))))))) = ws')
    (kk : V X k n (pc + 1) L st ws') : V X k n pc L (.ref v :: vI i :: .ref a :: st) ws := by
  obtain ⟨p, l, e, R, s, m, args, below, meth, c, Q, A, nL, G⟩ := X
  obtain ⟨hx, hb, hml, hown, hts, hK, hA, hR1, hR2, hR3, hR4, hNn⟩ := C
  intro H locs ls hP hD hS hl
  subst hw
  refine va_astq (D := G.1.1) (cl := vwCl) (r := (RX3, TX3, 11)) hx hb hK hP hD hS q0 4 qk 3 ha rfl hv rfl (iI_in h0 h1 hN) hd ?_
  rw [fQ_up h0 ⟨by omega, by omega⟩]
  exact fun H1 locs1 hP1 hD1 hS1 => kk H1 locs1 ls hP1 hD1 hS1 hl
end Rules4
end VLay4
