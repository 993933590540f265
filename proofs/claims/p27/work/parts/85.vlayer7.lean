section VLay7
/-- a method that may throw: what class, with which cells behind it -/
def vXC (G : GG) (PX : String → va_W → Prop) (A : Nat → Prop) : String → State → State → Prop := fun E st t => ∃ w : va_W, PX E w ∧ va_P G.1.1 vwCl w t.heap ∧ va_D A w ∧ va_F A st t
def vEX (X : vCx) (ret : Option FieldType) (Po : Option Value → va_W → Prop) (PX : String → va_W → Prop) (mc ms : Nat) : Prop := match X with
  | (p, l, e, R, s, m, args, below, meth, c, Q, A, nL, G) => meth.sig.returnType = ret ∧ Q = vx_MQ below (vQ G Po A) (vXC G PX A) args s mc ms A ∧ meth.locks = false ∧ (∀ x ∈ c.exceptionTable.toList, False) ∧ l.stackTraces = false
def CtX (G : GG) (l : Launch) (y : MethodName) (wy : List Cond) (fr lo mc ms : Nat) (args : List Value) (ws : va_W) (Po : Option Value → va_W → Prop) (PX : String → va_W → Prop) : Prop :=
  ∀ sz : Nat, vx_Met l y wy ({ frames := fr, cells := mc, slots := ms, locals := lo } : Room) (va_Pc args (fun U => U.heap.size = sz ∧ va_P G.1.1 vwCl ws U.heap ∧ va_K G.1.1 vwCl (gtys G) U ∧ va_D (fun _ => True) ws ∧ exF G.1.2 (va_A ws sz) U)) (vQ G Po (va_A ws sz)) (vXC G PX (va_A ws sz)) mc ms (va_A ws sz)
theorem CtX.of {G : GG} {l : Launch} {y : MethodName} {wy wy' : List Cond} {fr lo mc ms : Nat} {args : List Value} {ws : va_W} {Po : Option Value → va_W → Prop} {PX : String → va_W → Prop} {own : String} {cc : ByteArray} {maxL : Nat} {ret : Option FieldType}
    (hst : l.stackTraces = false) (hy : plainName y.cls = true) (hw : wy = .code y cc maxL ret :: wy') (hown : y.cls = own) (hlen : (lg_sl args).length ≤ maxL)
    (body : ∀ X : vCx, vC X cc own wy fr lo mc ms → vEX X ret Po PX mc ms → vM X maxL → vG X = G → vL X = l → V X 0 0 0 (lv_args 0 args) [] ws) : CtX G l y wy fr lo mc ms args ws Po PX := by
  intro sz
  refine vx_ofW (cc := cc) (maxL := maxL) (ret := ret) hy hw ?_
  intro p e s m as below meth c s₁ B hml ht hv
  obtain ⟨rfl, hsz, hP, hK, hD0, hNn⟩ := hv
  have hx := B.exec
  have hb := B.bytes
  have hr := B.returns
  have hts := atoms_spec (ws := wy) B.pre
  have hown' : s.vm.findClass own = some m.cls := by rw [← hown]; exact findClass_of_methodNamed B.named
  have hlocks := B.notSynchronized
  subst hsz
  have h := body (p, l, e, (headSpec wy ({ frames := fr, cells := mc, slots := ms, locals := lo } : Room)).room, s, m, args.toArray, below, meth, c, vx_MQ below (vQ G Po (va_A ws s.heap.size)) (vXC G PX (va_A ws s.heap.size)) args.toArray s mc ms (va_A ws s.heap.size), va_A ws s.heap.size, maxL, G)
    ⟨hx, hb, hml, hown', hts, hK, fun q h => Or.inr h, rfl, rfl, rfl, rfl, hNn⟩ ⟨hr, rfl, hlocks, ht, hst⟩ rfl rfl rfl
  rw [lg_entry_eq]
  exact h s.heap [] _ hP hD0.self va_S.rf (lv_entry args hlen)
/-- a contract without throws is one with -/
theorem Ct.toX {G : GG} {l : Launch} {y : MethodName} {wy : List Cond} {fr lo mc ms : Nat} {args : List Value} {ws : va_W} {Po : Option Value → va_W → Prop} {PX : String → va_W → Prop} (h : Ct G l y wy fr lo mc ms args ws Po) : CtX G l y wy fr lo mc ms args ws Po PX := fun sz =>
  MetFree.mono (h sz) (fun _ _ h => h) (fun _ _ _ _ _ h => h) (fun _ _ _ _ _ h => Or.inl h)
section Rules7
variable {X : vCx} {cc : ByteArray} {own : String} {Ts : List Cond} {fr lo mR sR : Nat} {k n pc : Nat} {L : List (Nat × Value)} {st : List Value} {ws : va_W}
theorem v_xr (C : vC X cc own Ts fr lo mR sR) {ret : Option FieldType} {Po : Option Value → va_W → Prop} {PX : String → va_W → Prop} {mc ms : Nat} (E : vEX X ret Po PX mc ms) (kk : ∀ X1 : vCx, vC X1 cc own Ts fr lo mR sR → vE X1 ret Po mc ms → V X1 k n pc L st ws) : V X k n pc L st ws := by
  obtain ⟨p, l, e, R, s, m, args, below, meth, c, Q, A, nL, G⟩ := X
  obtain ⟨e1, e2, e3, e4, e5⟩ := E
  subst e2
  intro H locs ls hP hD hS hl
  exact vx_ret (kk (p, l, e, R, s, m, args, below, meth, c, MQ below (vQ G Po A) args s mc ms A, A, nL, G) C ⟨e1, rfl, e3⟩ H locs ls hP hD hS hl)
theorem v_throwS (C : vC X cc own Ts fr lo mR sR) {ret : Option FieldType} {Po : Option Value → va_W → Prop} {PX : String → va_W → Prop} {mc ms : Nat} (E : vEX X ret Po PX mc ms) {cls tx : String} {ik is ic i : Nat} {names : List String} (hcls : Bundle.fit cls = true) (hnames : ∀ n ∈ names, Bundle.fit n = true) (hk : Cond.classLink own ik cls ∈ Ts) (hini : Cond.initialized cls ∈ Ts) (hi : strT[i]? = some (own, is, tx))
    (hat1 : ∀ w ∈ (vx_atS own ic cls names).filter goodWord, w ∈ Ts) (hat2 : ∀ w ∈ (vx_atS own ic cls names).filter (fun w => !goodWord w), w ∈ thL) (hgood : ∀ w ∈ Cond.classLink own ik cls :: Cond.initialized cls :: vx_atS own ic cls names, vx_ot w = true)
    (d0 : decode cc pc = .ok (.new ik, 3)) (d3 : decode cc (pc + 3) = .ok (.dup, 1)) (d4 : decode cc (pc + 4) = .ok (.ldc is, 2)) (d6 : decode cc (pc + 6) = .ok (.invokespecial ic, 3)) (d9 : decode cc (pc + 9) = .ok (.athrow, 1))
    (hfr : names.length + 3 < fr) (hlo : (st.map fun v => v.category).sum + (13 * (names.length + 1) + 43) ≤ lo) (hk1 : k + 1 ≤ mR) (hk2 : n + 6 ≤ sR) (hmc : k + 1 ≤ mc) (hms : n + 6 ≤ ms) (hp : PX cls ws) : V X k n pc L st ws := by
  obtain ⟨p, l, e, R, s, m, args, below, meth, c, Q, A, nL, G⟩ := X
  obtain ⟨hx, hb, hml, hown, hts, hK, hA, hR1, hR2, hR3, hR4, hNn⟩ := C
  obtain ⟨e1, e2, e3, e4, e5⟩ := E
  subst e2 hR1 hR2 hR3 hR4
  intro H locs ls hP hD hS hl
  exact vx_throwS (names := names) (A := A) hx hb e5 hown hcls hnames (hts _ hk) (hts _ hini) (hNn.2.2.2.2.2.1 i _ hi) (vx_hat (fun w hw => hts _ (hat1 w hw)) hat2 (fun w hw => va_Nw.use (thL_on w hw) (hNn.1.2.1 w hw))) hgood hNn.2.1 hNn.2.2.1 hS (hl.1.trans hml.symm) d0 d3 d4 d6 d9 (fun x hx => (e4 x hx).elim) hfr hlo hk1 hk2 e3
    (fun t _ hz hk9 => ⟨ws, hp, fun j q hq => (hP j q hq).kept (hk9 q.1 (hP j q hq).lt), hD, ⟨Nat.le_trans hS.1 hz, fun q h1 h2 => (hk9 q (Nat.lt_of_lt_of_le h1 hS.1)).trans (hS.2.1 q h1 h2)⟩⟩) hS.2.2 hmc hms
theorem v_throwSW (C : vC X cc own Ts fr lo mR sR) {ret : Option FieldType} {Po : Option Value → va_W → Prop} {PX : String → va_W → Prop} {mc ms : Nat} (E : vEX X ret Po PX mc ms) {cls tx : String} {ik is ic i : Nat} {names : List String} (hcls : Bundle.fit cls = true) (hnames : ∀ n ∈ names, Bundle.fit n = true) (hk : Cond.classLink own ik cls ∈ Ts) (hini : Cond.initialized cls ∈ Ts) (hi : strT[i]? = some (own, is, tx))
    (hat1 : ∀ w ∈ (vx_atS own ic cls names).filter goodWord, w ∈ Ts) (hat2 : ∀ w ∈ (vx_atS own ic cls names).filter (fun w => !goodWord w), w ∈ thL) (hgood : ∀ w ∈ Cond.classLink own ik cls :: Cond.initialized cls :: vx_atS own ic cls names, vx_ot w = true)
    (d0 : decode cc pc = .ok (.new ik, 3)) (d3 : decode cc (pc + 3) = .ok (.dup, 1)) (d4 : decode cc (pc + 4) = .ok (.ldc_w is, 3)) (d6 : decode cc (pc + 7) = .ok (.invokespecial ic, 3)) (d9 : decode cc (pc + 10) = .ok (.athrow, 1))
    (hfr : names.length + 3 < fr) (hlo : (st.map fun v => v.category).sum + (13 * (names.length + 1) + 43) ≤ lo) (hk1 : k + 1 ≤ mR) (hk2 : n + 6 ≤ sR) (hmc : k + 1 ≤ mc) (hms : n + 6 ≤ ms) (hp : PX cls ws) : V X k n pc L st ws := by
  obtain ⟨p, l, e, R, s, m, args, below, meth, c, Q, A, nL, G⟩ := X
  obtain ⟨hx, hb, hml, hown, hts, hK, hA, hR1, hR2, hR3, hR4, hNn⟩ := C
  obtain ⟨e1, e2, e3, e4, e5⟩ := E
  subst e2 hR1 hR2 hR3 hR4
  intro H locs ls hP hD hS hl
  exact vx_throwSW (names := names) (A := A) hx hb e5 hown hcls hnames (hts _ hk) (hts _ hini) (hNn.2.2.2.2.2.1 i _ hi) (vx_hat (fun w hw => hts _ (hat1 w hw)) hat2 (fun w hw => va_Nw.use (thL_on w hw) (hNn.1.2.1 w hw))) hgood hNn.2.1 hNn.2.2.1 hS (hl.1.trans hml.symm) d0 d3 d4 d6 d9 (fun x hx => (e4 x hx).elim) hfr hlo hk1 hk2 e3
    (fun t _ hz hk9 => ⟨ws, hp, fun j q hq => (hP j q hq).kept (hk9 q.1 (hP j q hq).lt), hD, ⟨Nat.le_trans hS.1 hz, fun q h1 h2 => (hk9 q (Nat.lt_of_lt_of_le h1 hS.1)).trans (hS.2.1 q h1 h2)⟩⟩) hS.2.2 hmc hms
theorem v_afterX {p : Program} {l : Launch} {e : Env} {R : Room} {s : State} {m : MethodId} {args : Array Value} {below : List Frame} {meth : Method} {c : Code} {Q : State → Prop} {A : Nat → Prop} {nL : Nat} {G : GG} {H : Heap} {locs : List Loc} {ls : Array Slot} {mc ms mc0 ms0 : Nat} {st rest : List Value} {wc wr : va_W} {Po Po0 : Option Value → va_W → Prop} {PXc PX : String → va_W → Prop} {ret0 : Option FieldType} {a : Array Value}
    (E : vEX (p, l, e, R, s, m, args, below, meth, c, Q, A, nL, G) ret0 Po0 PX mc0 ms0) (hP : va_P G.1.1 vwCl (wc ++ wr) H) (hD : va_D A (wc ++ wr)) (hS : va_S A s.heap H locs) (hl : lv_has ls nL L) (hA : ∀ q, s.heap.size ≤ q → A q)
    (hrun : vx_Run p l e R s m args below meth c H locs k n mc ms (F0 m pc ls st) rest (vQ G Po (va_A wc H.size) a) (vXC G PXc (va_A wc H.size)) (va_A wc H.size))
    (hmc : k + mc ≤ mc0) (hms : n + ms ≤ ms0) (kx : ∀ (E9 : String) (w1 : va_W), PXc E9 w1 → PX E9 (w1 ++ wr))
    (kk : ∀ (r : Option Value) (w1 : va_W), Po r w1 → V (p, l, e, R, s, m, args, below, meth, c, Q, A, nL, G) (k + mc) (n + ms) (pc + 3) L (r.toList ++ rest) (w1 ++ wr)) :
    W p l e R s m args below meth c H locs k n Q (F0 m pc ls st) := by
  obtain ⟨f1, f2, f3, f4, f5⟩ := E
  have hFr : ∀ q, va_A wc H.size q → A q := by
    intro q h
    rcases h with ⟨i, e9, h⟩ | h
    · exact (vD_iff.mp hD).2 _ (List.mem_append_left _ (List.mem_of_getElem? h))
    · exact hA q (Nat.le_trans hS.1 h)
  intro T hT X
  have join : ∀ (st₀ t T' : State) (L' : List Loc) (w1 : va_W), st₀.heap = H → (∀ q ∈ L', va_A wc H.size q.base) → T'.heap = t.heap → va_P G.1.1 vwCl w1 t.heap → va_D (va_A wc H.size) w1 → va_F (va_A wc H.size) st₀ t → va_P G.1.1 vwCl (w1 ++ wr) T'.heap ∧ va_D A (w1 ++ wr) ∧ va_S A s.heap T'.heap (locs ++ L') := by
    intro st₀ t T' L' w1 h0 hL e1 hP1 hD1 hF
    obtain ⟨hz, hk⟩ := hF
    rw [h0] at hz hk
    obtain ⟨j1, j2⟩ := v_join (H0 := s.heap) (locs1 := locs) hP hD hFr hk hP1 hD1
    refine ⟨by rw [e1]; exact j1, j2, ?_⟩
    rw [e1]
    refine ⟨Nat.le_trans hS.1 hz, fun q h1 h2 => ?_, fun z hq => ?_⟩
    · rw [hk q (Nat.lt_of_lt_of_le h1 hS.1) (fun h => h2 (hFr q h))]
      exact hS.2.1 q h1 h2
    · rcases List.mem_append.mp hq with h | h
      · exact hS.2.2 z h
      · exact hFr _ (hL z h)
  rcases hrun T hT X with ⟨v, st₀, t, T', L', h0, X', hL, e1, e2, ⟨r, w1, hv, hp, hP1, hD1, hF⟩, go⟩ | ⟨q, st₀, t, T', L', E9, ce, h0, X', hL, e1, e2, ⟨w1, hp, hP1, hD1, hF⟩, hce, hcv, hcl, hst⟩
  · cases hv
    obtain ⟨j1, j2, hS1⟩ := join st₀ t T' L' w1 h0 hL e1 hP1 hD1 hF
    obtain ⟨t2, a1, b1⟩ := kk v w1 hp T'.heap (locs ++ L') ls j1 j2 hS1 hl T' rfl X'
    exact ⟨t2, go t2 a1, b1⟩
  · obtain ⟨j1, j2, hS1⟩ := join st₀ t T' L' w1 h0 hL e1 hP1 hD1 hF
    rw [f2]
    obtain ⟨t2, a1, b1⟩ := vx_out (Qc := vQ G Po0 A) (XC := vXC G PX A) (rest := rest) (fun x hx => (f4 x hx).elim) f3 (by rw [e1]; exact hce) hcv hcl (fun u hu _ => ⟨w1 ++ wr, kx E9 w1 hp, by rw [hu]; exact j1, j2, hS1.F hu⟩) hS1.2.2 hmc hms T' rfl X'
    exact ⟨t2, hst.trans a1, b1⟩
theorem v_callSX (C : vC X cc own Ts fr lo mR sR) {y : MethodName} {wy wy' : List Cond} {bytes : ByteArray} {maxL fr' lo' mc ms index na : Nat} {ret : Option FieldType} {wc wr : va_W} {Po Po0 : Option Value → va_W → Prop} {PXc PX : String → va_W → Prop} {ret0 : Option FieldType} {mc0 ms0 : Nat}  (As rest : List Value) (hM : CtX (vG X) (vL X) y wy fr' lo' mc ms As wc Po PXc) (hw : wy = Cond.code y bytes maxL ret :: wy') (hT : GoodIn Ts (va_wsS own index y wy)) (hd9 : y.cls ≠ "java/lang/invoke/MethodHandle" ∧ y.cls ≠ "java/lang/invoke/VarHandle" ∧ (parseMethodDescriptor y.desc).map (fun d => d.parameters.length) = some na) (hR : (Nat.ble (fr' + 1) fr && Nat.ble (8 + (maxL + 11) + lo') lo && Nat.ble (k + mc) mR && Nat.ble (n + ms) sR) = true) (hna : As.length = na) (hsb : Sb ws (wc ++ wr)) (hst : st = As.reverse ++ rest) (hcat : Nat.ble (rest.map fun v => v.category).sum 8 = true) (hd : decode cc pc = .ok (.invokestatic index, 3)) (E : vEX X ret0 Po0 PX mc0 ms0) (hmc : k + mc ≤ mc0) (hms : n + ms ≤ ms0) (kx : ∀ (E9 : String) (w1 : va_W), PXc E9 w1 → PX E9 (w1 ++ wr))
    (kk : ∀ (r : Option Value) (w1 : va_W), Po r w1 → V X (k + mc) (n + ms) (pc + 3) L (r.toList ++ rest) (w1 ++ wr)) : V X k n pc L (st) ws := by
  obtain ⟨p, l, e, R, s, m, args, below, meth, c, Q, A, nL, G⟩ := X
  obtain ⟨hx, hb, hml, hown, hts, hK, hA, hR1, hR2, hR3, hR4, hNn⟩ := C
  intro H locs ls hP hD hS hl
  subst hst
  have hP := hsb.1 _ _ _ hP
  have hD := hsb.2 _ hD
  have hPc := (vP_app.mp hP).1
  have hDc : va_D (fun _ => True) wc := vD_iff.mpr ⟨((List.nodup_append.mp (by have := (vD_iff.mp hD).1; rw [List.map_append] at this; exact this))).1, fun _ _ => trivial⟩
  simp only [Bool.and_eq_true, Nat.ble_eq] at hR
  obtain ⟨⟨⟨r1, r2⟩, r3⟩, r4⟩ := hR
  subst hR1 hR2 hR3 hR4
  have hcat := Nat.le_of_ble_eq_true hcat
  have hFr : ∀ q, va_A wc H.size q → A q := by
    intro q h
    rcases h with ⟨i, e9, h⟩ | h
    · exact (vD_iff.mp hD).2 _ (List.mem_append_left _ (List.mem_of_getElem? h))
    · exact hA q (Nat.le_trans hS.1 h)
  exact v_afterX (wc := wc) (wr := wr) E hP hD hS hl hA (vx_runS (As := As) (rest := rest) ⟨hx, hb, hml, hown, hts⟩ (hM H.size) (va_cwS na hts hT hw rfl rfl hd9 ⟨r1, r2⟩) ⟨Ct.blind, fun U hU hW => ⟨rfl, by rw [hU], by rw [hU]; exact hPc, va_K.moved hW.alike hK, hDc, exF_warm hW hU hS hFr hNn⟩⟩ rfl hna hl.1 rfl (lv_room hcat) hd ⟨r3, r4⟩) hmc hms kx kk
end Rules7
theorem thg_76 : ∀ w ∈ (vx_atS RX7 76 "java/lang/IllegalArgumentException" ["java/lang/RuntimeException", "java/lang/Exception"]).filter goodWord, w ∈ wsL_law := fun w h => List.mem_append_left _ (List.mem_append_left _ (List.mem_append_right _ h))
theorem thb_76 : ∀ w ∈ (vx_atS RX7 76 "java/lang/IllegalArgumentException" ["java/lang/RuntimeException", "java/lang/Exception"]).filter (fun w => !goodWord w), w ∈ thL := fun w h => by
  have g : ((vx_atS RX7 76 "java/lang/IllegalArgumentException" ["java/lang/RuntimeException", "java/lang/Exception"]).filter (fun w => !goodWord w)).all (fun w => decide (w ∈ thL)) = true := by decide +kernel
  exact of_decide_eq_true (List.all_eq_true.mp g w h)
theorem tho_76 : ∀ w ∈ vx_atS RX7 76 "java/lang/IllegalArgumentException" ["java/lang/RuntimeException", "java/lang/Exception"], vx_ot w = true := fun w h => List.all_eq_true.mp (show (vx_atS RX7 76 "java/lang/IllegalArgumentException" ["java/lang/RuntimeException", "java/lang/Exception"]).all vx_ot = true by decide +kernel) w h
theorem thg_148 : ∀ w ∈ (vx_atS RX7 148 "java/lang/IndexOutOfBoundsException" ["java/lang/RuntimeException", "java/lang/Exception"]).filter goodWord, w ∈ wsL_law := fun w h => List.mem_append_left _ (List.mem_append_right _ h)
theorem thb_148 : ∀ w ∈ (vx_atS RX7 148 "java/lang/IndexOutOfBoundsException" ["java/lang/RuntimeException", "java/lang/Exception"]).filter (fun w => !goodWord w), w ∈ thL := fun w h => by
  have g : ((vx_atS RX7 148 "java/lang/IndexOutOfBoundsException" ["java/lang/RuntimeException", "java/lang/Exception"]).filter (fun w => !goodWord w)).all (fun w => decide (w ∈ thL)) = true := by decide +kernel
  exact of_decide_eq_true (List.all_eq_true.mp g w h)
theorem tho_148 : ∀ w ∈ vx_atS RX7 148 "java/lang/IndexOutOfBoundsException" ["java/lang/RuntimeException", "java/lang/Exception"], vx_ot w = true := fun w h => List.all_eq_true.mp (show (vx_atS RX7 148 "java/lang/IndexOutOfBoundsException" ["java/lang/RuntimeException", "java/lang/Exception"]).all vx_ot = true by decide +kernel) w h
theorem thg_217 : ∀ w ∈ (vx_atS RX7 217 "java/lang/IllegalStateException" ["java/lang/RuntimeException", "java/lang/Exception"]).filter goodWord, w ∈ wsL_law := fun w h => List.mem_append_right _ h
theorem thb_217 : ∀ w ∈ (vx_atS RX7 217 "java/lang/IllegalStateException" ["java/lang/RuntimeException", "java/lang/Exception"]).filter (fun w => !goodWord w), w ∈ thL := fun w h => by
  have g : ((vx_atS RX7 217 "java/lang/IllegalStateException" ["java/lang/RuntimeException", "java/lang/Exception"]).filter (fun w => !goodWord w)).all (fun w => decide (w ∈ thL)) = true := by decide +kernel
  exact of_decide_eq_true (List.all_eq_true.mp g w h)
theorem tho_217 : ∀ w ∈ vx_atS RX7 217 "java/lang/IllegalStateException" ["java/lang/RuntimeException", "java/lang/Exception"], vx_ot w = true := fun w h => List.all_eq_true.mp (show (vx_atS RX7 217 "java/lang/IllegalStateException" ["java/lang/RuntimeException", "java/lang/Exception"]).all vx_ot = true by decide +kernel) w h
end VLay7
