section VLay2
def vNm (X : vCx) (nm : String) : Prop := match X with
  | (p, l, e, R, s, m, args, below, meth, c, Q, A, nL0, G) => meth.name = nm
theorem Ct.ofI {G : GG} {l : Launch} {y : MethodName} {wy wy' : List Cond} {fr lo mc ms : Nat} {args : List Value} {ws : va_W} {Po : Option Value → va_W → Prop} {own : String} {cc : ByteArray} {maxL : Nat} {ret : Option FieldType}
    (hy : plainName y.cls = true) (hw : wy = .code y cc maxL ret :: wy') (hown : y.cls = own) (hlen : (lg_sl args).length ≤ maxL)
    (body : ∀ X : vCx, vC X cc own wy fr lo mc ms → vE X ret Po mc ms → vM X maxL → vNm X y.name → vG X = G → vL X = l → V X 0 0 0 (lv_args 0 args) [] ws) : Ct G l y wy fr lo mc ms args ws Po := by
  intro sz
  refine Met.ofW (cc := cc) (maxL := maxL) (ret := ret) hy hw ?_
  intro p e s m as below meth c s₁ B hml hv
  obtain ⟨rfl, hsz, hP, hK, hD0, hNn⟩ := hv
  have hx := B.exec
  have hb := B.bytes
  have hr := B.returns
  have hts := atoms_spec (ws := wy) B.pre
  have hown' : s.vm.findClass own = some m.cls := by rw [← hown]; exact findClass_of_methodNamed B.named
  have hlocks := B.notSynchronized
  have hin : meth.name = y.name := (name_of_methodNamed B.named B.method).1
  subst hsz
  have h := body (p, l, e, (headSpec wy ({ frames := fr, cells := mc, slots := ms, locals := lo } : Room)).room, s, m, args.toArray, below, meth, c, MQ below (vQ G Po (va_A ws s.heap.size)) args.toArray s mc ms (va_A ws s.heap.size), va_A ws s.heap.size, maxL, G)
    ⟨hx, hb, hml, hown', hts, hK, fun q h => Or.inr h, rfl, rfl, rfl, rfl, hNn⟩ ⟨hr, rfl, hlocks⟩ rfl hin rfl rfl
  rw [lg_entry_eq]
  exact h s.heap [] _ hP hD0.self va_S.rf (lv_entry args hlen)
section Rules2
variable {X : vCx} {cc : ByteArray} {own : String} {Ts : List Cond} {fr lo mR sR : Nat} {k n pc : Nat} {L : List (Nat × Value)} {st : List Value} {ws : va_W}
theorem v_putF (C : vC X cc own Ts fr lo mR sR) (I : vNm X "<init>") {Cn : String} {T : u_T} {N ci index : Nat} {a : Nat} {fs : List Value} {v : Value} (hin : ∀ w ∈ u_ws Cn T N, w ∈ Ts) (ty0 : Nat → FieldType) (hty : ∀ k, k < N → parseFieldDescriptor (T k).2.2.1 = some (ty0 k)) (hnm : ∀ a, a < N → ∀ b, b < N → a ≠ b → (T a).2.1 ≠ (T b).2.1) (q0 fk : Nat) (hc : vwCl[ci]? = some (Cn, T, N)) (hk : fk < N) (hlink : Cond.fieldLink own index (T fk).1 (T fk).2.1 (T fk).2.2.1 ∈ Ts) (he : ws[q0]? = some (a, .inr (ci, fs))) (hfin : (T fk).2.2.2 = true) (hdecl : (T fk).1 = own) (hn : narrow (ty0 fk) v = v) (hfit : fits (ty0 fk) v = true) (hlf : fk < fs.length) (hd : decode cc pc = .ok (.putfield index, 3)) {ws' : va_W} (hw : ws.set q0 (a, .inr (ci, fs.set fk v)) = ws')
    (kk : V X k n (pc + 3) L st ws') : V X k n pc L (v :: .ref a :: st) ws := by
  obtain ⟨p, l, e, R, s, m, args, below, meth, c, Q, A, nL, G⟩ := X
  obtain ⟨hx, hb, hml, hown, hts, hK, hA, hR1, hR2, hR3, hR4, hNn⟩ := C
  intro H locs ls hP hD hS hl
  subst hw
  have hin2 : meth.name = "<init>" := I
  exact va_putF (D := G.1.1) (cl := vwCl) hx hb hts hin ty0 hty hnm hown hK hP hD hS q0 he hc fk hk (hts _ hlink) (fun _ h9 => h9) hfin hin2 hdecl (hty fk hk) hn hfit hlf hd (fun H1 locs1 hP1 hD1 hS1 => kk H1 locs1 ls hP1 hD1 hS1 hl)
theorem v_objInit (C : vC X cc own Ts fr lo mR sR) {idx a : Nat} (h1 : Cond.methodLink own idx objectInit ∈ Ts) (h2 : Cond.instanceMethod objectInit ∈ Ts) (h3 : Cond.code objectInit ⟨#[0xb1]⟩ 1 none ∈ Ts) (hf : 1 ≤ fr) (hlo : 2 * 0 + (st.map fun v => v.category).sum + 12 ≤ lo) (hd : decode cc pc = .ok (.invokespecial idx, 3))
    (kk : V X k n (pc + 3) L st ws) : V X k n pc L (.ref a :: st) ws := by
  obtain ⟨p, l, e, R, s, m, args, below, meth, c, Q, A, nL, G⟩ := X
  obtain ⟨hx, hb, hml, hown, hts, hK, hA, hR1, hR2, hR3, hR4, hNn⟩ := C
  intro H locs ls hP hD hS hl
  subst hR1 hR2
  refine W.objInit hx hb hown (hts _ h1) (hts _ h2) (hts _ h3) rfl (by rw [hml]; exact hl.1) rfl hd hf (by simpa [JFrame.monitorRoom] using hlo) ?_
  exact kk H locs ls hP hD hS hl
theorem v_newI (C : vC X cc own Ts fr lo mR sR) {z : Int} {N' : Nat} (harr : Cond.arrayClass .int ∈ Ts) (h0 : 0 ≤ z) (hs : sm z) (hN : z.toNat = N') (hby : Nat.ble (N' * componentBytes .int) 536870912 = true) (hc1 : Nat.ble (k + 1) mR = true) (hs1 : Nat.ble (n + N') sR = true) (hd : decode cc pc = .ok (.newarray .int, 2))
    (kk : ∀ q : Nat, V X (k + 1) (n + N') (pc + 2) L (.ref q :: st) (ws ++ [(q, .inl ((vG X).2 1, N', .inl (fI (fun _ => 0))))])) : V X k n pc L (vI z :: st) ws := by
  obtain ⟨p, l, e, R, s, m, args, below, meth, c, Q, A, nL, G⟩ := X
  obtain ⟨hx, hb, hml, hown, hts, hK, hA, hR1, hR2, hR3, hR4, hNn⟩ := C
  intro H locs ls hP hD hS hl
  subst hR3 hR4
  refine va_newa (atype := .int) (ty := .int) (a0 := (N', .inl (fI (fun _ => 0)))) hx hb (hts _ harr) rfl hK hP hD hS hA (fun cA => by rw [vp_cell_i]; exact arrV_c (fun j _ => by show Value.int (iI 0) = _; rw [← iI_0]; rfl)) (by rw [iI_0, iI_lt hs (by decide)]; omega) (by rw [iI_cl h0 hs]; exact hN) (Nat.le_of_ble_eq_true hby) (Nat.le_of_ble_eq_true hc1) (Nat.le_of_ble_eq_true hs1) hd (fun q cA H1 hK1 hP1 hD1 hS1 => ?_)
  have e1 := (hK1.2 5 (cA, .int) rfl).2
  have e2 := (hK.2 1 (G.2 1, .int) rfl).2
  have e3 : cA = G.2 1 := Option.some.inj (e1.symm.trans e2)
  subst e3
  exact kk q H1 locs ls hP1 hD1 hS1 hl
theorem v_newB (C : vC X cc own Ts fr lo mR sR) {z : Int} {N' : Nat} (harr : Cond.arrayClass .byte ∈ Ts) (h0 : 0 ≤ z) (hs : sm z) (hN : z.toNat = N') (hby : Nat.ble (N' * componentBytes .byte) 536870912 = true) (hc1 : Nat.ble (k + 1) mR = true) (hs1 : Nat.ble (n + N') sR = true) (hd : decode cc pc = .ok (.newarray .byte, 2))
    (kk : ∀ q : Nat, V X (k + 1) (n + N') (pc + 2) L (.ref q :: st) (ws ++ [(q, .inl ((vG X).2 0, N', .inl (fI (fun _ => 0))))])) : V X k n pc L (vI z :: st) ws := by
  obtain ⟨p, l, e, R, s, m, args, below, meth, c, Q, A, nL, G⟩ := X
  obtain ⟨hx, hb, hml, hown, hts, hK, hA, hR1, hR2, hR3, hR4, hNn⟩ := C
  intro H locs ls hP hD hS hl
  subst hR3 hR4
  refine va_newa (atype := .byte) (ty := .byte) (a0 := (N', .inl (fI (fun _ => 0)))) hx hb (hts _ harr) rfl hK hP hD hS hA (fun cA => by rw [vp_cell_i]; exact arrV_c (fun j _ => by show Value.int (iI 0) = _; rw [← iI_0]; rfl)) (by rw [iI_0, iI_lt hs (by decide)]; omega) (by rw [iI_cl h0 hs]; exact hN) (Nat.le_of_ble_eq_true hby) (Nat.le_of_ble_eq_true hc1) (Nat.le_of_ble_eq_true hs1) hd (fun q cA H1 hK1 hP1 hD1 hS1 => ?_)
  have e1 := (hK1.2 5 (cA, .byte) rfl).2
  have e2 := (hK.2 0 (G.2 0, .byte) rfl).2
  have e3 : cA = G.2 0 := Option.some.inj (e1.symm.trans e2)
  subst e3
  exact kk q H1 locs ls hP1 hD1 hS1 hl
theorem v_newJ (C : vC X cc own Ts fr lo mR sR) {z : Int} {N' : Nat} (harr : Cond.arrayClass .long ∈ Ts) (h0 : 0 ≤ z) (hs : sm z) (hN : z.toNat = N') (hby : Nat.ble (N' * componentBytes .long) 536870912 = true) (hc1 : Nat.ble (k + 1) mR = true) (hs1 : Nat.ble (n + N') sR = true) (hd : decode cc pc = .ok (.newarray .long, 2))
    (kk : ∀ q : Nat, V X (k + 1) (n + N') (pc + 2) L (.ref q :: st) (ws ++ [(q, .inl ((vG X).2 2, N', .inr (.inl (fL (fun _ => 0)))))])) : V X k n pc L (vI z :: st) ws := by
  obtain ⟨p, l, e, R, s, m, args, below, meth, c, Q, A, nL, G⟩ := X
  obtain ⟨hx, hb, hml, hown, hts, hK, hA, hR1, hR2, hR3, hR4, hNn⟩ := C
  intro H locs ls hP hD hS hl
  subst hR3 hR4
  refine va_newa (atype := .long) (ty := .long) (a0 := (N', .inr (.inl (fL (fun _ => 0))))) hx hb (hts _ harr) rfl hK hP hD hS hA (fun cA => by rw [vp_cell_l]; exact arrV_c (fun j _ => rfl)) (by rw [iI_0, iI_lt hs (by decide)]; omega) (by rw [iI_cl h0 hs]; exact hN) (Nat.le_of_ble_eq_true hby) (Nat.le_of_ble_eq_true hc1) (Nat.le_of_ble_eq_true hs1) hd (fun q cA H1 hK1 hP1 hD1 hS1 => ?_)
  have e1 := (hK1.2 5 (cA, .long) rfl).2
  have e2 := (hK.2 2 (G.2 2, .long) rfl).2
  have e3 : cA = G.2 2 := Option.some.inj (e1.symm.trans e2)
  subst e3
  exact kk q H1 locs ls hP1 hD1 hS1 hl
theorem v_new (C : vC X cc own Ts fr lo mR sR) {Cn : String} {T : u_T} {N ci index : Nat} {fs : List Value} (hin : ∀ w ∈ u_ws Cn T N, w ∈ Ts) (ty0 : Nat → FieldType) (hty : ∀ k, k < N → parseFieldDescriptor (T k).2.2.1 = some (ty0 k)) (hc : vwCl[ci]? = some (Cn, T, N)) (hcl : Cond.classLink own index Cn ∈ Ts) (hinst : Cond.instantiable Cn N ∈ Ts) (hini : Cond.initialized Cn ∈ Ts) (hfs : ∀ j, j < N → defaultValue (ty0 j) = vp_V fs j) (hc1 : Nat.ble (k + 1) mR = true) (hs1 : Nat.ble (n + N) sR = true) (hd : decode cc pc = .ok (.new index, 3))
    (kk : ∀ q : Nat, V X (k + 1) (n + N) (pc + 3) L (.ref q :: st) (ws ++ [(q, .inr (ci, fs))])) : V X k n pc L (st) ws := by
  obtain ⟨p, l, e, R, s, m, args, below, meth, c, Q, A, nL, G⟩ := X
  obtain ⟨hx, hb, hml, hown, hts, hK, hA, hR1, hR2, hR3, hR4, hNn⟩ := C
  intro H locs ls hP hD hS hl
  subst hR3 hR4
  exact va_new (D := G.1.1) (cl := vwCl) hx hb hts hin ty0 hty hown (hts _ hcl) (hts _ hinst) (hts _ hini) hK hP hD hS hA hc hfs (Nat.le_of_ble_eq_true hc1) (Nat.le_of_ble_eq_true hs1) hd (fun q H1 hP1 hD1 hS1 => kk q H1 locs ls hP1 hD1 hS1 hl)
end Rules2
end VLay2
