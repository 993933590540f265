section VLay3
theorem cpy_all {α : Type} {f g : Nat → α} {n j : Nat} (h : j < n) : va_cpy f g 0 0 n j = f j := by
  rw [pk_cpy_in (Nat.zero_le _) (by omega)]
  congr 1
  omega
section Rules3
variable {X : vCx} {cc : ByteArray} {own : String} {Ts : List Cond} {fr lo mR sR : Nat} {k n pc : Nat} {L : List (Nat × Value)} {st : List Value} {ws : va_W}
theorem v_cpyI (C : vC X cc own Ts fr lo mR sR) {a0 a1 N index : Nat} {f g : Int → Int} {z : Int} (q0 q1 : Nat) (hw1 : Cond.methodLink own index arraycopyName ∈ Ts) (hw2 : Cond.native arraycopyName ∈ Ts) (hw3 : Cond.static arraycopyName ∈ Ts) (hw4 : Cond.initialized "java/lang/System" ∈ Ts) (ha0 : ws[q0]? = some (a0, .inl ((vG X).2 1, N, .inl (fI f)))) (ha1 : ws[q1]? = some (a1, .inl ((vG X).2 1, N, .inl (fI g)))) (hz : (iI z).toNatClampNeg = N) (hz0 : 0 ≤ z ∧ sm z) (hf : 1 ≤ fr) (hlo : Nat.ble ((st.map fun v => v.category).sum + (nativeFrameWords "java/lang/System" "arraycopy" 5 + 11)) lo = true) (hd : decode cc pc = .ok (.invokestatic index, 3)) {ws' : va_W} (hw : ws.set q1 (a1, .inl ((vG X).2 1, N, .inl (fI f))) = ws')
    (kk : V X k n (pc + 3) L st ws') : V X k n pc L (vI z :: vI 0 :: .ref a1 :: vI 0 :: .ref a0 :: st) ws := by
  obtain ⟨p, l, e, R, s, m, args, below, meth, c, Q, A, nL, G⟩ := X
  obtain ⟨hx, hb, hml, hown, hts, hK, hA, hR1, hR2, hR3, hR4, hNn⟩ := C
  intro H locs ls hP hD hS hl
  subst hR1 hR2 hw
  have e0 : (iI 0).toNatClampNeg = 0 := by decide +kernel
  refine va_copyi (D := G.1.1) (cl := vwCl) (ty := .int) hx hb (hml.trans hl.1.symm) hown (hts _ hw1) (hts _ hw2) (hts _ hw3) (hts _ hw4) hK hP hD hS q0 q1 1 1 ha0 ha1 rfl rfl rfl (by decide +kernel) (by decide +kernel) (by rw [iI_0, iI_lt hz0.2 (by decide)]; have := hz0.1; omega) (by rw [hz, e0]; omega) (by rw [hz, e0]; omega) (fun i _ => rfl) hf (Nat.le_of_ble_eq_true hlo) hd (fun H1 locs1 hP1 hD1 hS1 => ?_)
  have hsb := Sb.cell (ws := ws.set q1 (a1, .inl (G.2 1, N, .inl (va_cpy (fI f) (fI g) (iI 0).toNatClampNeg (iI 0).toNatClampNeg (iI z).toNatClampNeg)))) (e := (G.2 1, N, .inl (va_cpy (fI f) (fI g) (iI 0).toNatClampNeg (iI 0).toNatClampNeg (iI z).toNatClampNeg))) (e' := (G.2 1, N, .inl (fI f))) (a := a1) q1 (by rw [List.getElem?_set]; have := (List.getElem?_eq_some_iff.mp ha1).1; simp [this]) (by show vp_cell _ (N, .inl (va_cpy (fI f) (fI g) (iI 0).toNatClampNeg (iI 0).toNatClampNeg (iI z).toNatClampNeg)) = vp_cell _ (N, .inl (fI f)); rw [vp_cell_i, vp_cell_i]; exact arrV_c (fun j hj => by rw [hz, e0, cpy_all hj])) rfl
  rw [List.set_set] at hsb
  exact kk H1 locs1 ls (hsb.1 _ _ _ hP1) (hsb.2 _ hD1) hS1 hl
theorem v_cpyL (C : vC X cc own Ts fr lo mR sR) {a0 a1 N index : Nat} {f g : Int → Int64} {z : Int} (q0 q1 : Nat) (hw1 : Cond.methodLink own index arraycopyName ∈ Ts) (hw2 : Cond.native arraycopyName ∈ Ts) (hw3 : Cond.static arraycopyName ∈ Ts) (hw4 : Cond.initialized "java/lang/System" ∈ Ts) (ha0 : ws[q0]? = some (a0, .inl ((vG X).2 2, N, .inr (.inl (fL f))))) (ha1 : ws[q1]? = some (a1, .inl ((vG X).2 2, N, .inr (.inl (fL g))))) (hz : (iI z).toNatClampNeg = N) (hz0 : 0 ≤ z ∧ sm z) (hf : 1 ≤ fr) (hlo : Nat.ble ((st.map fun v => v.category).sum + (nativeFrameWords "java/lang/System" "arraycopy" 5 + 11)) lo = true) (hd : decode cc pc = .ok (.invokestatic index, 3)) {ws' : va_W} (hw : ws.set q1 (a1, .inl ((vG X).2 2, N, .inr (.inl (fL f)))) = ws')
    (kk : V X k n (pc + 3) L st ws') : V X k n pc L (vI z :: vI 0 :: .ref a1 :: vI 0 :: .ref a0 :: st) ws := by
  obtain ⟨p, l, e, R, s, m, args, below, meth, c, Q, A, nL, G⟩ := X
  obtain ⟨hx, hb, hml, hown, hts, hK, hA, hR1, hR2, hR3, hR4, hNn⟩ := C
  intro H locs ls hP hD hS hl
  subst hR1 hR2 hw
  have e0 : (iI 0).toNatClampNeg = 0 := by decide +kernel
  refine va_copyl (D := G.1.1) (cl := vwCl) (ty := .long) hx hb (hml.trans hl.1.symm) hown (hts _ hw1) (hts _ hw2) (hts _ hw3) (hts _ hw4) hK hP hD hS q0 q1 2 2 ha0 ha1 rfl rfl rfl (by decide +kernel) (by decide +kernel) (by rw [iI_0, iI_lt hz0.2 (by decide)]; have := hz0.1; omega) (by rw [hz, e0]; omega) (by rw [hz, e0]; omega) (fun i _ => rfl) hf (Nat.le_of_ble_eq_true hlo) hd (fun H1 locs1 hP1 hD1 hS1 => ?_)
  have hsb := Sb.cell (ws := ws.set q1 (a1, .inl (G.2 2, N, .inr (.inl (va_cpy (fL f) (fL g) (iI 0).toNatClampNeg (iI 0).toNatClampNeg (iI z).toNatClampNeg))))) (e := (G.2 2, N, .inr (.inl (va_cpy (fL f) (fL g) (iI 0).toNatClampNeg (iI 0).toNatClampNeg (iI z).toNatClampNeg)))) (e' := (G.2 2, N, .inr (.inl (fL f)))) (a := a1) q1 (by rw [List.getElem?_set]; have := (List.getElem?_eq_some_iff.mp ha1).1; simp [this]) (by show vp_cell _ (N, .inr (.inl (va_cpy (fL f) (fL g) (iI 0).toNatClampNeg (iI 0).toNatClampNeg (iI z).toNatClampNeg))) = vp_cell _ (N, .inr (.inl (fL f))); rw [vp_cell_l, vp_cell_l]; exact arrV_c (fun j hj => by rw [hz, e0, cpy_all hj])) rfl
  rw [List.set_set] at hsb
  exact kk H1 locs1 ls (hsb.1 _ _ _ hP1) (hsb.2 _ hD1) hS1 hl
theorem v_mmax (C : vC X cc own Ts fr lo mR sR) {a b : Int} {index : Nat} (ha : sm a) (hb0 : sm b) (hw1 : Cond.methodLink own index Lib.Math.max.name ∈ Ts) (hw2 : Cond.static Lib.Math.max.name ∈ Ts) (hw3 : Cond.initialized "java/lang/Math" ∈ Ts) (hw4 : Cond.code Lib.Math.max.name Lib.Math.max.code 2 (some .int) ∈ Ts) (hf : 1 ≤ fr) (hlo : Nat.ble ((st.map fun v => v.category).sum + 13) lo = true) (hk1 : Nat.ble k mR = true) (hk2 : Nat.ble n sR = true) (hd : decode cc pc = .ok (.invokestatic index, 3))
    (kk : V X k n (pc + 3) L (vI (if a < b then b else a) :: st) ws) : V X k n pc L (vI b :: vI a :: st) ws := by
  obtain ⟨p, l, e, R, s, m, args, below, meth, c, Q, A, nL, G⟩ := X
  obtain ⟨hx, hb, hml, hown, hts, hK, hA, hR1, hR2, hR3, hR4, hNn⟩ := C
  intro H locs ls hP hD hS hl
  subst hR1 hR2 hR3 hR4
  refine va_mmax hx hb (hml.trans hl.1.symm) hown (hts _ hw1) (hts _ hw2) (hts _ hw3) (hts _ hw4) hf (Nat.le_of_ble_eq_true hlo) (Nat.le_of_ble_eq_true hk1) (Nat.le_of_ble_eq_true hk2) hd ?_
  have e : (if iI a < iI b then iI b else iI a) = iI (if a < b then b else a) := by
    by_cases h : a < b
    · rw [if_pos h, if_pos ((iI_lt ha hb0).mpr h)]
    · rw [if_neg h, if_neg (fun x => h ((iI_lt ha hb0).mp x))]
  rw [e]
  exact kk H locs ls hP hD hS hl
theorem v_mmin (C : vC X cc own Ts fr lo mR sR) {a b : Int} {index : Nat} (ha : sm a) (hb0 : sm b) (hw1 : Cond.methodLink own index Lib.Math.min.name ∈ Ts) (hw2 : Cond.static Lib.Math.min.name ∈ Ts) (hw3 : Cond.initialized "java/lang/Math" ∈ Ts) (hw4 : Cond.code Lib.Math.min.name Lib.Math.min.code 2 (some .int) ∈ Ts) (hf : 1 ≤ fr) (hlo : Nat.ble ((st.map fun v => v.category).sum + 13) lo = true) (hk1 : Nat.ble k mR = true) (hk2 : Nat.ble n sR = true) (hd : decode cc pc = .ok (.invokestatic index, 3))
    (kk : V X k n (pc + 3) L (vI (if b < a then b else a) :: st) ws) : V X k n pc L (vI b :: vI a :: st) ws := by
  obtain ⟨p, l, e, R, s, m, args, below, meth, c, Q, A, nL, G⟩ := X
  obtain ⟨hx, hb, hml, hown, hts, hK, hA, hR1, hR2, hR3, hR4, hNn⟩ := C
  intro H locs ls hP hD hS hl
  subst hR1 hR2 hR3 hR4
  refine va_mmin hx hb (hml.trans hl.1.symm) hown (hts _ hw1) (hts _ hw2) (hts _ hw3) (hts _ hw4) hf (Nat.le_of_ble_eq_true hlo) (Nat.le_of_ble_eq_true hk1) (Nat.le_of_ble_eq_true hk2) hd ?_
  have e : (if iI b < iI a then iI b else iI a) = iI (if b < a then b else a) := by
    by_cases h : b < a
    · rw [if_pos h, if_pos ((iI_lt hb0 ha).mpr h)]
    · rw [if_neg h, if_neg (fun x => h ((iI_lt hb0 ha).mp x))]
  rw [e]
  exact kk H locs ls hP hD hS hl
end Rules3
end VLay3
