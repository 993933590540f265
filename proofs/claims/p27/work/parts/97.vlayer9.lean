section VLay9
/-- the table of a body with handlers -/
def vH (X : vCx) (hh : List (Nat × Nat × Nat × Nat)) : Prop := match X with
  | (p, l, e, R, s, m, args, below, meth, c, Q, A, nL, G) => c.exceptionTable.toList = tableOf hh
theorem Ct.noX {G : GG} {l : Launch} {y : MethodName} {wy : List Cond} {fr lo mc ms : Nat} {args : List Value} {ws : va_W} {Po : Option Value → va_W → Prop} (h : CtX G l y wy fr lo mc ms args ws Po (fun _ _ => False)) : Ct G l y wy fr lo mc ms args ws Po := fun sz =>
  MetFree.mono (h sz) (fun _ _ h => h) (fun _ _ _ _ _ h => h) (fun _ _ _ _ _ h => by
    rcases h with h | ⟨q, ho, E, ce, L, ⟨w1, hp1, _⟩, _⟩
    · exact h
    · exact hp1.elim)
theorem Ct.ofH {G : GG} {l : Launch} {y : MethodName} {wy wy' : List Cond} {fr lo mc ms : Nat} {args : List Value} {ws : va_W} {Po : Option Value → va_W → Prop} {own : String} {cc : ByteArray} {maxL : Nat} {ret : Option FieldType} {hh : List (Nat × Nat × Nat × Nat)}
    (hy : plainName y.cls = true) (hw : wy = .codeWith y cc maxL ret hh :: wy') (hown : y.cls = own) (hlen : (lg_sl args).length ≤ maxL)
    (body : ∀ X : vCx, vC X cc own wy fr lo mc ms → vE X ret Po mc ms → vH X hh → vM X maxL → vG X = G → vL X = l → V X 0 0 0 (lv_args 0 args) [] ws) : Ct G l y wy fr lo mc ms args ws Po := by
  refine Ct.noX (fun sz => ?_)
  refine vx_ofWH (cc := cc) (maxL := maxL) (ret := ret) (hh := hh) hy hw ?_
  intro p e s m as below meth c s₁ B hml hv
  obtain ⟨rfl, hsz, hP, hK, hD0, hNn⟩ := hv
  have hx := B.exec
  have hb := B.bytes
  have hr := B.returns
  have hts := atoms_spec (ws := wy) B.pre
  have hown' : s.vm.findClass own = some m.cls := by rw [← hown]; exact findClass_of_methodNamed B.named
  have hlocks := B.notSynchronized
  have htab : c.exceptionTable.toList = tableOf hh := vx_table (x := y) B (hts _ (by rw [hw]; exact List.mem_cons_self))
  subst hsz
  refine vx_ret ?_
  have h := body (p, l, e, (headSpec wy ({ frames := fr, cells := mc, slots := ms, locals := lo } : Room)).room, s, m, args.toArray, below, meth, c, MQ below (vQ G Po (va_A ws s.heap.size)) args.toArray s mc ms (va_A ws s.heap.size), va_A ws s.heap.size, maxL, G)
    ⟨hx, hb, hml, hown', hts, hK, fun q h => Or.inr h, rfl, rfl, rfl, rfl, hNn⟩ ⟨hr, rfl, hlocks⟩ htab rfl rfl rfl
  rw [lg_entry_eq]
  exact h s.heap [] _ hP hD0.self va_S.rf (lv_entry args hlen)
section Rules9
variable {X : vCx} {cc : ByteArray} {own : String} {Ts : List Cond} {fr lo mR sR : Nat} {k n pc : Nat} {L : List (Nat × Value)} {st : List Value} {ws : va_W}
theorem v_dconst0 (C : vC X cc own Ts fr lo mR sR) (hd : decode cc pc = .ok (.dconst 0, 1))
    (kk : V X k n (pc + 1) L (.double FP.dconst0 :: st) ws) : V X k n pc L (st) ws := by
  obtain ⟨p, l, e, R, s, m, args, below, meth, c, Q, A, nL, G⟩ := X
  obtain ⟨hx, hb, hml, hown, hts, hK, hA, hR1, hR2, hR3, hR4, hNn⟩ := C
  intro H locs ls hP hD hS hl
  exact lv_dconst0 hx hb hd (kk H locs ls hP hD hS hl)
/-- what a call from a body with handlers owes where the callee throws -/
def vCat (X : vCx) (own : String) (Ts : List Cond) (hh : List (Nat × Nat × Nat × Nat)) (k n pc : Nat) (L : List (Nat × Value)) (ws : va_W) (E9 : String) : Prop :=
  ∃ (pre suf : List ExceptionTableEntry) (x : ExceptionTableEntry) (name : String), tableOf hh = pre ++ x :: suf ∧ (∀ z ∈ pre, z.catchType ≠ 0 ∧ ∃ nm : String, Cond.classLink own z.catchType nm ∈ Ts ∧ (E9, nm) ∈ ncL) ∧ covers x pc = true ∧ x.catchType ≠ 0 ∧ Cond.classLink own x.catchType name ∈ Ts ∧ Cond.castable E9 name ∈ thL ∧ ∀ q : Nat, V X k n x.handlerPc L [.ref q] ws
theorem v_afterC {p : Program} {l : Launch} {e : Env} {R : Room} {s : State} {m : MethodId} {args : Array Value} {below : List Frame} {meth : Method} {c : Code} {Q : State → Prop} {A : Nat → Prop} {nL : Nat} {G : GG} {H : Heap} {locs : List Loc} {ls : Array Slot} {mc ms : Nat} {rest : List Value} {wc wr : va_W} {Po : Option Value → va_W → Prop} {PXc : String → va_W → Prop} {a : Array Value} {hh : List (Nat × Nat × Nat × Nat)}
    (hown : s.vm.findClass own = some m.cls) (hts : ∀ w ∈ Ts, w.before args s = true) (hNn : exF G.1.2 A s) (htab : c.exceptionTable.toList = tableOf hh) (hP : va_P G.1.1 vwCl (wc ++ wr) H) (hD : va_D A (wc ++ wr)) (hS : va_S A s.heap H locs) (hl : lv_has ls nL L) (hA : ∀ q, s.heap.size ≤ q → A q)
    (hrun : vx_Run p l e R s m args below meth c H locs k n mc ms (F0 m pc ls st) rest (vQ G Po (va_A wc H.size) a) (vXC G PXc (va_A wc H.size)) (va_A wc H.size))
    (kx : ∀ (E9 : String) (w1 : va_W), PXc E9 w1 → vCat (p, l, e, R, s, m, args, below, meth, c, Q, A, nL, G) own Ts hh (k + mc) (n + ms) pc L (w1 ++ wr) E9)
    (kk : ∀ (r : Option Value) (w1 : va_W), Po r w1 → V (p, l, e, R, s, m, args, below, meth, c, Q, A, nL, G) (k + mc) (n + ms) (pc + 3) L (r.toList ++ rest) (w1 ++ wr)) :
    W p l e R s m args below meth c H locs k n Q (F0 m pc ls st) := by
  have hFr : ∀ q, va_A wc H.size q → A q := by
    intro q h
    rcases h with ⟨i, e9, h⟩ | h
    · exact (vD_iff.mp hD).2 _ (List.mem_append_left _ (List.mem_of_getElem? h))
    · exact hA q (Nat.le_trans hS.1 h)
  intro T hT X
  have join : ∀ (st₀ t T' : State) (L' : List Loc) (w1 : va_W), st₀.heap = H → (∀ q ∈ L', va_A wc H.size q.base) → T'.heap = t.heap → va_P G.1.1 vwCl w1 t.heap → va_D (va_A wc H.size) w1 → va_F (va_A wc H.size) st₀ t → va_P G.1.1 vwCl (w1 ++ wr) T'.heap ∧ va_D A (w1 ++ wr) ∧ va_S A s.heap T'.heap (locs ++ L') := by
    intro st₀ t T' L' w1 h0 hL e1 hP1 hD1 hF
    obtain ⟨hz, hk⟩ := hF
    rw [h0] at hz hk
    obtain ⟨j1, j2⟩ := v_join (H0 := s.heap) (locs1 := locs) hP hD hFr hk hP1 hD1
    refine ⟨by rw [e1]; exact j1, j2, ?_⟩
    rw [e1]
    refine ⟨Nat.le_trans hS.1 hz, fun q h1 h2 => ?_, fun z hq => ?_⟩
    · rw [hk q (Nat.lt_of_lt_of_le h1 hS.1) (fun h => h2 (hFr q h))]
      exact hS.2.1 q h1 h2
    · rcases List.mem_append.mp hq with h | h
      · exact hS.2.2 z h
      · exact hFr _ (hL z h)
  rcases hrun T hT X with ⟨v, st₀, t, T', L', h0, X', hL, e1, e2, ⟨r, w1, hv, hp, hP1, hD1, hF⟩, go⟩ | ⟨q, st₀, t, T', L', E9, ce, h0, X', hL, e1, e2, ⟨w1, hp, hP1, hD1, hF⟩, hce, hcv, hcl, hst⟩
  · cases hv
    obtain ⟨j1, j2, hS1⟩ := join st₀ t T' L' w1 h0 hL e1 hP1 hD1 hF
    obtain ⟨t2, a1, b1⟩ := kk v w1 hp T'.heap (locs ++ L') ls j1 j2 hS1 hl T' rfl X'
    exact ⟨t2, go t2 a1, b1⟩
  · obtain ⟨j1, j2, hS1⟩ := join st₀ t T' L' w1 h0 hL e1 hP1 hD1 hF
    obtain ⟨pre, suf, x, name, c1, c2, c3, c4, c5, c6, c7⟩ := kx E9 w1 hp
    obtain ⟨t2, a1, b1⟩ := vx_catch hown pre x suf (htab.trans c1) (fun z hz => by
      obtain ⟨d1, nm, d2, d3⟩ := c2 z hz
      exact Or.inr ⟨d1, nm, hts _ d2, hNn.1.2.2 _ d3⟩) c3 c4 (hts _ c5) (va_Nw.use (thL_on _ c6) (hNn.1.2.1 _ c6)) (by rw [e1]; exact hce) hcv hcl (c7 q T'.heap (locs ++ L') ls j1 j2 hS1 hl) T' rfl X'
    exact ⟨t2, hst.trans a1, b1⟩
theorem v_callVC (C : vC X cc own Ts fr lo mR sR) {y : MethodName} {wy wy' : List Cond} {bytes : ByteArray} {maxL fr' lo' mc ms index na : Nat} {ret : Option FieldType} {wc wr : va_W} {Po : Option Value → va_W → Prop} {PXc : String → va_W → Prop} {hh : List (Nat × Nat × Nat × Nat)} {b : Nat} {ci : Nat} {fs : List Value} {T : u_T} {N : Nat} {C0 : String} (As rest : List Value) (hM : CtX (vG X) (vL X) y wy fr' lo' mc ms (.ref b :: As) wc Po PXc) (hw : wy = Cond.code y bytes maxL ret :: wy') (hT : GoodIn Ts (wsV own index C0 y wy)) (hC0 : y.cls = C0) (hd9 : y.cls ≠ "java/lang/invoke/MethodHandle" ∧ y.cls ≠ "java/lang/invoke/VarHandle" ∧ (parseMethodDescriptor y.desc).map (fun d => d.parameters.length) = some na) (q0 : Nat) (hq0 : wc[q0]? = some (b, .inr (ci, fs))) (hc : vwCl[ci]? = some (C0, T, N)) (hR : (Nat.ble (fr' + 1) fr && Nat.ble (8 + (maxL + 11) + lo') lo && Nat.ble (k + mc) mR && Nat.ble (n + ms) sR) = true) (hna : As.length = na) (hsb : Sb ws (wc ++ wr)) (hst : st = As.reverse ++ .ref b :: rest) (hcat : Nat.ble (rest.map fun v => v.category).sum 8 = true) (hd : decode cc pc = .ok (.invokevirtual index, 3)) (HT : vH X hh) (kx : ∀ (E9 : String) (w1 : va_W), PXc E9 w1 → vCat X own Ts hh (k + mc) (n + ms) pc L (w1 ++ wr) E9)
    (kk : ∀ (r : Option Value) (w1 : va_W), Po r w1 → V X (k + mc) (n + ms) (pc + 3) L (r.toList ++ rest) (w1 ++ wr)) : V X k n pc L (st) ws := by
  obtain ⟨p, l, e, R, s, m, args, below, meth, c, Q, A, nL, G⟩ := X
  obtain ⟨hx, hb, hml, hown, hts, hK, hA, hR1, hR2, hR3, hR4, hNn⟩ := C
  intro H locs ls hP hD hS hl
  subst hst
  have hP := hsb.1 _ _ _ hP
  have hD := hsb.2 _ hD
  have hPc := (vP_app.mp hP).1
  have hDc : va_D (fun _ => True) wc := vD_iff.mpr ⟨((List.nodup_append.mp (by have := (vD_iff.mp hD).1; rw [List.map_append] at this; exact this))).1, fun _ _ => trivial⟩
  simp only [Bool.and_eq_true, Nat.ble_eq] at hR
  obtain ⟨⟨⟨r1, r2⟩, r3⟩, r4⟩ := hR
  subst hR1 hR2 hR3 hR4
  have hcat := Nat.le_of_ble_eq_true hcat
  have hFr : ∀ q, va_A wc H.size q → A q := by
    intro q h
    rcases h with ⟨i, e9, h⟩ | h
    · exact (vD_iff.mp hD).2 _ (List.mem_append_left _ (List.mem_of_getElem? h))
    · exact hA q (Nat.le_trans hS.1 h)
  exact v_afterC (wc := wc) (wr := wr) hown hts hNn HT hP hD hS hl hA (vx_runV (As := As) (rest := rest) ⟨hx, hb, hml, hown, hts⟩ (hM H.size) (cwV na hts hT hw rfl rfl ⟨hC0, hd9⟩ ⟨r1, r2⟩) ⟨Ct.blind, va_recv hK hPc hc hq0, fun U hU hW => ⟨rfl, by rw [hU], by rw [hU]; exact hPc, va_K.moved hW.alike hK, hDc, exF_warm hW hU hS hFr hNn⟩⟩ rfl hna hl.1 rfl (lv_room hcat) hd ⟨r3, r4⟩) kx kk
theorem v_callSH (C : vC X cc own Ts fr lo mR sR) {y : MethodName} {wy wy' : List Cond} {bytes : ByteArray} {maxL fr' lo' mc ms index na : Nat} {ret : Option FieldType} {wc wr : va_W} {Po : Option Value → va_W → Prop} {hh : List (Nat × Nat × Nat × Nat)}  (As rest : List Value) (hM : Ct (vG X) (vL X) y wy fr' lo' mc ms As wc Po) (hw : wy = Cond.codeWith y bytes maxL ret hh :: wy') (hT : GoodIn Ts (va_wsS own index y wy)) (hd9 : y.cls ≠ "java/lang/invoke/MethodHandle" ∧ y.cls ≠ "java/lang/invoke/VarHandle" ∧ (parseMethodDescriptor y.desc).map (fun d => d.parameters.length) = some na) (hR : (Nat.ble (fr' + 1) fr && Nat.ble (8 + (maxL + 11) + lo') lo && Nat.ble (k + mc) mR && Nat.ble (n + ms) sR) = true) (hna : As.length = na) (hsb : Sb ws (wc ++ wr)) (hst : st = As.reverse ++ rest) (hcat : Nat.ble (rest.map fun v => v.category).sum 8 = true) (hd : decode cc pc = .ok (.invokestatic index, 3))
    (kk : ∀ (r : Option Value) (w1 : va_W), Po r w1 → V X (k + mc) (n + ms) (pc + 3) L (r.toList ++ rest) (w1 ++ wr)) : V X k n pc L (st) ws := by
  obtain ⟨p, l, e, R, s, m, args, below, meth, c, Q, A, nL, G⟩ := X
  obtain ⟨hx, hb, hml, hown, hts, hK, hA, hR1, hR2, hR3, hR4, hNn⟩ := C
  intro H locs ls hP hD hS hl
  subst hst
  have hP := hsb.1 _ _ _ hP
  have hD := hsb.2 _ hD
  have hPc := (vP_app.mp hP).1
  have hDc : va_D (fun _ => True) wc := vD_iff.mpr ⟨((List.nodup_append.mp (by have := (vD_iff.mp hD).1; rw [List.map_append] at this; exact this))).1, fun _ _ => trivial⟩
  simp only [Bool.and_eq_true, Nat.ble_eq] at hR
  obtain ⟨⟨⟨r1, r2⟩, r3⟩, r4⟩ := hR
  subst hR1 hR2 hR3 hR4
  have hcat := Nat.le_of_ble_eq_true hcat
  have hFr : ∀ q, va_A wc H.size q → A q := by
    intro q h
    rcases h with ⟨i, e9, h⟩ | h
    · exact (vD_iff.mp hD).2 _ (List.mem_append_left _ (List.mem_of_getElem? h))
    · exact hA q (Nat.le_trans hS.1 h)
  refine v_after (wc := wc) (wr := wr) hP hD hS hl hA (vx_runSW (As := As) (rest := rest) ⟨hx, hb, hml, hown, hts⟩ (hM H.size) (vx_cwSW na hts hT hw rfl rfl hd9 ⟨r1, r2⟩) ⟨Ct.blind, fun U hU hW => ⟨rfl, by rw [hU], by rw [hU]; exact hPc, va_K.moved hW.alike hK, hDc, exF_warm hW hU hS hFr hNn⟩⟩ rfl hna hl.1 rfl (lv_room hcat) hd ⟨r3, r4⟩) kk
end Rules9
end VLay9
