section VLay6
theorem iI_1 : (1 : Int32) = iI 1 := by decide +kernel
theorem ishr0 {n : Int} : (iI n >>> (iI 0 &&& 31)) = iI n := by
  rw [show (iI 0 &&& (31 : Int32)) = 0 by decide +kernel]
  exact Int32.shiftRight_zero
/-- a character of a String constant -/
def chK (b : List Int32) (z : Int) : Int := (b.getD z.toNat 0).toInt
theorem strB_ok {i : Nat} {b : List Int32} (h : strB[i]? = some b) : b.length < 100 ∧ ∀ j, j < b.length → 0 ≤ (b.getD j 0).toInt ∧ (b.getD j 0).toInt < 128 := by
  have g : strB.all (fun b => decide (b.length < 100) && (List.range b.length).all (fun j => decide (0 ≤ (b.getD j 0).toInt) && decide ((b.getD j 0).toInt < 128))) = true := by decide +kernel
  have m := List.all_eq_true.mp g b (List.mem_of_getElem? h)
  simp only [Bool.and_eq_true, decide_eq_true_eq] at m
  refine ⟨m.1, fun j hj => ?_⟩
  have q := List.all_eq_true.mp m.2 j (List.mem_range.mpr hj)
  simp only [Bool.and_eq_true, decide_eq_true_eq] at q
  exact q
section Rules6
variable {X : vCx} {cc : ByteArray} {own : String} {Ts : List Cond} {fr lo mR sR : Nat} {k n pc : Nat} {L : List (Nat × Value)} {st : List Value} {ws : va_W}
theorem v_getCS (C : vC X cc own Ts fr lo mR sR) {index : Nat} (hw : Cond.fieldLink own index "java/lang/String" "COMPACT_STRINGS" "Z" ∈ Ts) (hd : decode cc pc = .ok (.getstatic index, 3))
    (kk : V X k n (pc + 3) L (vI 1 :: st) ws) : V X k n pc L (st) ws := by
  obtain ⟨p, l, e, R, s, m, args, below, meth, c, Q, A, nL, G⟩ := X
  obtain ⟨hx, hb, hml, hown, hts, hK, hA, hR1, hR2, hR3, hR4, hNn⟩ := C
  intro H locs ls hP hD hS hl
  exact va_gets hx hb hNn.2.2.2.1 hS hown (hts _ hw) (fun _ h => h) hd (kk H locs ls hP hD hS hl)
theorem v_getSQ (C : vC X cc own Ts fr lo mR sR) {index : Nat} (hw : Cond.fieldLink own index "jdk/internal/util/Preconditions" "SIOOBE_FORMATTER" "Ljava/util/function/BiFunction;" ∈ Ts) (hd : decode cc pc = .ok (.getstatic index, 3))
    (kn : V X k n (pc + 3) L (.null :: st) ws) (kr : ∀ t : Nat, V X k n (pc + 3) L (.ref t :: st) ws) : V X k n pc L (st) ws := by
  obtain ⟨p, l, e, R, s, m, args, below, meth, c, Q, A, nL, G⟩ := X
  obtain ⟨hx, hb, hml, hown, hts, hK, hA, hR1, hR2, hR3, hR4, hNn⟩ := C
  intro H locs ls hP hD hS hl
  rcases hNn.2.2.2.2.1 with h | ⟨t, h⟩
  · exact va_gets hx hb h hS hown (hts _ hw) (fun _ h => h) hd (kn H locs ls hP hD hS hl)
  · exact va_gets hx hb h hS hown (hts _ hw) (fun _ h => h) hd (kr t H locs ls hP hD hS hl)
theorem v_getKv (C : vC X cc own Ts fr lo mR sR) {i index : Nat} {b : List Int32} (hi : strB[i]? = some b) (hw : Cond.fieldLink own index "java/lang/String" "value" "[B" ∈ Ts) (hd : decode cc pc = .ok (.getfield index, 3))
    (kk : V X k n (pc + 3) L (.ref ((vG X).1.2 (100 + i)) :: st) ws) : V X k n pc L (.ref ((vG X).1.2 i) :: st) ws := by
  obtain ⟨p, l, e, R, s, m, args, below, meth, c, Q, A, nL, G⟩ := X
  obtain ⟨hx, hb, hml, hown, hts, hK, hA, hR1, hR2, hR3, hR4, hNn⟩ := C
  intro H locs ls hP hD hS hl
  exact vk_getf hx hb (hNn.2.2.2.2.2.2.1 i b hi).2.2.1 hS hown (hts _ hw) (fun _ h => h) hd (kk H locs ls hP hD hS hl)
theorem v_getKc (C : vC X cc own Ts fr lo mR sR) {i index : Nat} {b : List Int32} (hi : strB[i]? = some b) (hw : Cond.fieldLink own index "java/lang/String" "coder" "B" ∈ Ts) (hd : decode cc pc = .ok (.getfield index, 3))
    (kk : V X k n (pc + 3) L (vI 0 :: st) ws) : V X k n pc L (.ref ((vG X).1.2 i) :: st) ws := by
  obtain ⟨p, l, e, R, s, m, args, below, meth, c, Q, A, nL, G⟩ := X
  obtain ⟨hx, hb, hml, hown, hts, hK, hA, hR1, hR2, hR3, hR4, hNn⟩ := C
  intro H locs ls hP hD hS hl
  exact vk_getf hx hb (hNn.2.2.2.2.2.2.1 i b hi).2.1 hS hown (hts _ hw) (fun _ h => h) hd (kk H locs ls hP hD hS hl)
theorem v_lenK (C : vC X cc own Ts fr lo mR sR) {i : Nat} {b : List Int32} (hi : strB[i]? = some b) (hd : decode cc pc = .ok (.arraylength, 1))
    (kk : V X k n (pc + 1) L (vI (b.length : Int) :: st) ws) : V X k n pc L (.ref ((vG X).1.2 (100 + i)) :: st) ws := by
  obtain ⟨p, l, e, R, s, m, args, below, meth, c, Q, A, nL, G⟩ := X
  obtain ⟨hx, hb, hml, hown, hts, hK, hA, hR1, hR2, hR3, hR4, hNn⟩ := C
  intro H locs ls hP hD hS hl
  exact va_tlen hx hb (hNn.2.2.2.2.2.2.1 i b hi).2.2.2 hS (v := iI (b.length : Int)) ((Int32.ofInt_eq_ofNat).symm) hd (kk H locs ls hP hD hS hl)
theorem v_baldK (C : vC X cc own Ts fr lo mR sR) {i : Nat} {b : List Int32} {z : Int} (hi : strB[i]? = some b) (h0 : 0 ≤ z) (h1 : z < (b.length : Int)) (hd : decode cc pc = .ok (.baload, 1))
    (kk : V X k n (pc + 1) L (vI (chK b z) :: st) ws) : V X k n pc L (vI z :: .ref ((vG X).1.2 (100 + i)) :: st) ws := by
  obtain ⟨p, l, e, R, s, m, args, below, meth, c, Q, A, nL, G⟩ := X
  obtain ⟨hx, hb, hml, hown, hts, hK, hA, hR1, hR2, hR3, hR4, hNn⟩ := C
  intro H locs ls hP hD hS hl
  have hb9 := (strB_ok hi).1
  exact va_tb hx hb (hNn.2.2.2.2.2.2.1 i b hi).2.2.2 hS (iI_in h0 h1 (by omega)) (v := vI (chK b z)) (by rw [iI_cl h0 ⟨by omega, by omega⟩]; unfold chK; show Value.int _ = Value.int (iI _); rw [iI_of]) hd (kk H locs ls hP hD hS hl)
theorem v_ldcK (C : vC X cc own Ts fr lo mR sR) {i index : Nat} {tx : String} (hi : strT[i]? = some (own, index, tx)) (hd : decode cc pc = .ok (.ldc index, 2))
    (kk : V X k n (pc + 2) L (.ref ((vG X).1.2 i) :: st) ws) : V X k n pc L (st) ws := by
  obtain ⟨p, l, e, R, s, m, args, below, meth, c, Q, A, nL, G⟩ := X
  obtain ⟨hx, hb, hml, hown, hts, hK, hA, hR1, hR2, hR3, hR4, hNn⟩ := C
  intro H locs ls hP hD hS hl
  exact va_ldcS hx hb hown (hNn.2.2.2.2.2.1 i _ hi) hd (kk H locs ls hP hD hS hl)
theorem v_i2c (C : vC X cc own Ts fr lo mR sR) {x : Int32} {z : Int} (hd : decode cc pc = .ok (.i2c, 1)) (hz : (x.toUInt32 % 65536).toInt32 = iI z)
    (kk : V X k n (pc + 1) L (vI z :: st) ws) : V X k n pc L (.int x :: st) ws := by
  obtain ⟨p, l, e, R, s, m, args, below, meth, c, Q, A, nL, G⟩ := X
  obtain ⟨hx, hb, hml, hown, hts, hK, hA, hR1, hR2, hR3, hR4, hNn⟩ := C
  intro H locs ls hP hD hS hl
  exact lv_i2c hx hb hd hz (kk H locs ls hP hD hS hl)
theorem v_callK (C : vC X cc own Ts fr lo mR sR) {y : MethodName} {wy wy' : List Cond} {bytes : ByteArray} {maxL fr' lo' mc ms index na : Nat} {ret : Option FieldType} {wc wr : va_W} {Po : Option Value → va_W → Prop} {i : Nat} {b : List Int32} (As rest : List Value) (hM : Ct (vG X) (vL X) y wy fr' lo' mc ms (.ref ((vG X).1.2 i) :: As) wc Po) (hw : wy = Cond.code y bytes maxL ret :: wy') (hT : GoodIn Ts (wsV own index "java/lang/String" y wy)) (hC0 : y.cls = "java/lang/String") (hd9 : y.cls ≠ "java/lang/invoke/MethodHandle" ∧ y.cls ≠ "java/lang/invoke/VarHandle" ∧ (parseMethodDescriptor y.desc).map (fun d => d.parameters.length) = some na) (hi : strB[i]? = some b) (hR : (Nat.ble (fr' + 1) fr && Nat.ble (8 + (maxL + 11) + lo') lo && Nat.ble (k + mc) mR && Nat.ble (n + ms) sR) = true) (hna : As.length = na) (hsb : Sb ws (wc ++ wr)) (hst : st = As.reverse ++ .ref ((vG X).1.2 i) :: rest) (hcat : Nat.ble (rest.map fun v => v.category).sum 8 = true) (hd : decode cc pc = .ok (.invokevirtual index, 3))
    (kk : ∀ (r : Option Value) (w1 : va_W), Po r w1 → V X (k + mc) (n + ms) (pc + 3) L (r.toList ++ rest) (w1 ++ wr)) : V X k n pc L (st) ws := by
  obtain ⟨p, l, e, R, s, m, args, below, meth, c, Q, A, nL, G⟩ := X
  obtain ⟨hx, hb, hml, hown, hts, hK, hA, hR1, hR2, hR3, hR4, hNn⟩ := C
  intro H locs ls hP hD hS hl
  subst hst
  have hP := hsb.1 _ _ _ hP
  have hD := hsb.2 _ hD
  have hPc := (vP_app.mp hP).1
  have hDc : va_D (fun _ => True) wc := vD_iff.mpr ⟨((List.nodup_append.mp (by have := (vD_iff.mp hD).1; rw [List.map_append] at this; exact this))).1, fun _ _ => trivial⟩
  simp only [Bool.and_eq_true, Nat.ble_eq] at hR
  obtain ⟨⟨⟨r1, r2⟩, r3⟩, r4⟩ := hR
  subst hR1 hR2 hR3 hR4
  have hcat := Nat.le_of_ble_eq_true hcat
  have hFr : ∀ q, va_A wc H.size q → A q := by
    intro q h
    rcases h with ⟨i, e9, h⟩ | h
    · exact (vD_iff.mp hD).2 _ (List.mem_append_left _ (List.mem_of_getElem? h))
    · exact hA q (Nat.le_trans hS.1 h)
  obtain ⟨cell9, h91, h92, h93, -⟩ := (hNn.2.2.2.2.2.2.1 i b hi).1.kept hS.2.1
  refine v_after (wc := wc) (wr := wr) hP hD hS hl hA (va_runV (As := As) (rest := rest) ⟨hx, hb, hml, hown, hts⟩ (hM H.size) (cwV na hts hT hw rfl rfl ⟨hC0, hd9⟩ ⟨r1, r2⟩) ⟨Ct.blind, ⟨cell9, h91, h92, h93⟩, fun U hU hW => ⟨rfl, by rw [hU], by rw [hU]; exact hPc, va_K.moved hW.alike hK, hDc, exF_warm hW hU hS hFr hNn⟩⟩ rfl hna hl.1 rfl (lv_room hcat) hd ⟨r3, r4⟩) kk
end Rules6
end VLay6
