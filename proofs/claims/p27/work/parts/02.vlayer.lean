section VLay
abbrev GG : Type := (va_G × (Nat → Nat)) × (Nat → ClassId)
def gtys (G : GG) : List (ClassId × FieldType) := [(G.2 0, .byte), (G.2 1, .int), (G.2 2, .long), (G.2 3, .int), (G.2 4, .object "TurnLine$Line")]
def iI (z : Int) : Int32 := Int32.ofInt z
abbrev vI (z : Int) : Value := .int (iI z)
abbrev sm (z : Int) : Prop := -2147483648 ≤ z ∧ z < 2147483648
theorem iI_add (a b : Int) : iI a + iI b = iI (a + b) := (Int32.ofInt_add a b).symm
theorem iI_sub (a b : Int) : iI a - iI b = iI (a - b) := (Int32.ofInt_sub a b).symm
theorem iI_mul (a b : Int) : iI a * iI b = iI (a * b) := (Int32.ofInt_mul a b).symm
theorem iI_toInt {a : Int} (h : sm a) : (iI a).toInt = a := by
  unfold iI
  exact Int32.toInt_ofInt_of_le (by have := h.1; omega) (by have := h.2; omega)
theorem iI_of (x : Int32) : iI x.toInt = x := Int32.ofInt_toInt x
theorem sm_of (x : Int32) : sm x.toInt := ⟨by have := Int32.le_toInt x; omega, by have := Int32.toInt_lt x; omega⟩
theorem iI_ex (x : Int32) : ∃ z : Int, sm z ∧ x = iI z := ⟨x.toInt, sm_of x, (iI_of x).symm⟩
theorem iI_eq {a b : Int} (ha : sm a) (hb : sm b) : iI a = iI b ↔ a = b := ⟨fun h => by rw [← iI_toInt ha, ← iI_toInt hb, h], fun h => by rw [h]⟩
theorem iI_lt {a b : Int} (ha : sm a) (hb : sm b) : iI a < iI b ↔ a < b := by rw [Int32.lt_iff_toInt_lt, iI_toInt ha, iI_toInt hb]
theorem iI_le {a b : Int} (ha : sm a) (hb : sm b) : iI a ≤ iI b ↔ a ≤ b := by rw [Int32.le_iff_toInt_le, iI_toInt ha, iI_toInt hb]
theorem iI_0 : (0 : Int32) = iI 0 := by decide +kernel
theorem iI_cl {a : Int} (h0 : 0 ≤ a) (ha : sm a) : (iI a).toNatClampNeg = a.toNat := by
  show (iI a).toInt.toNat = _
  rw [iI_toInt ha]
theorem iI_in {a : Int} {n : Nat} (h0 : 0 ≤ a) (h1 : a < n) (hn : n < 2147483648) : vp_in (iI a) n := by
  have hs : sm a := ⟨by omega, by omega⟩
  rw [vp_in_iff, iI_toInt hs]
  exact ⟨h0, h1⟩
/-- an array's contents, by a function of the whole numbers -/
def fI (f : Int → Int) : Nat → Int32 := fun i => iI (f (i : Int))
def fL (f : Int → Int64) : Nat → Int64 := fun i => f (i : Int)
def up {α : Type} (f : Int → α) (i : Int) (v : α) : Int → α := fun j => if j = i then v else f j
theorem up_s {α : Type} {f : Int → α} {i : Int} {v : α} : up f i v i = v := if_pos rfl
theorem up_n {α : Type} {f : Int → α} {i j : Int} {v : α} (h : j ≠ i) : up f i v j = f j := if_neg h
theorem fI_up {f : Int → Int} {i : Int} {v : Int} (h0 : 0 ≤ i) (hs : sm i) : upd (fI f) (iI i).toNatClampNeg (iI v) = fI (up f i v) := by
  rw [iI_cl h0 hs]
  funext j
  unfold upd fI up
  by_cases hj : j = i.toNat
  · rw [if_pos hj, if_pos (by omega)]
  · rw [if_neg hj, if_neg (by omega)]
theorem fL_up {f : Int → Int64} {i : Int} {v : Int64} (h0 : 0 ≤ i) (hs : sm i) : vp_updL (fL f) (iI i).toNatClampNeg v = fL (up f i v) := by
  rw [iI_cl h0 hs]
  funext j
  unfold vp_updL fL up
  by_cases hj : j = i.toNat
  · rw [if_pos hj, if_pos (by omega)]
  · rw [if_neg hj, if_neg (by omega)]
theorem fI_at {f : Int → Int} {i : Int} (h0 : 0 ≤ i) (hs : sm i) : fI f (iI i).toNatClampNeg = iI (f i) := by
  rw [iI_cl h0 hs]
  unfold fI
  rw [Int.toNat_of_nonneg h0]
theorem fL_at {f : Int → Int64} {i : Int} (h0 : 0 ≤ i) (hs : sm i) : fL f (iI i).toNatClampNeg = f i := by
  rw [iI_cl h0 hs]
  unfold fL
  rw [Int.toNat_of_nonneg h0]
def bI (p : Prop) [Decidable p] : Int := if p then 1 else 0
theorem bI_t {p : Prop} [Decidable p] (h : p) : bI p = 1 := if_pos h
theorem bI_f {p : Prop} [Decidable p] (h : ¬ p) : bI p = 0 := if_neg h
theorem bI_0 {p : Prop} [Decidable p] : bI p = 0 ↔ ¬ p := by
  unfold bI
  split <;> simp_all
theorem bI_n0 {p : Prop} [Decidable p] : ¬ bI p = 0 ↔ p := by
  unfold bI
  split <;> simp_all
theorem bI_c {p q : Prop} [Decidable p] [Decidable q] (h : p ↔ q) : bI p = bI q := by
  unfold bI
  by_cases hp : p
  · rw [if_pos hp, if_pos (h.mp hp)]
  · rw [if_neg hp, if_neg (fun x => hp (h.mpr x))]
theorem bI_in {p : Prop} [Decidable p] : 0 ≤ bI p ∧ bI p ≤ 1 := by
  unfold bI
  split <;> omega
theorem sm_bI {p : Prop} [Decidable p] : sm (bI p) := by
  have := bI_in (p := p)
  exact ⟨by omega, by omega⟩
theorem nb_01 {z : Int} (h : z = 0 ∨ z = 1) : narrow .boolean (vI z) = vI z := by
  rcases h with rfl | rfl <;> rfl
theorem nb_bI {p : Prop} [Decidable p] : narrow .boolean (vI (bI p)) = vI (bI p) := by
  unfold bI
  split <;> rfl
/-- String constants: their pools' places; the bytes of the first eight -/
def strT : List (String × Nat × String) := [("TurnLine$TextReader", 38, "line"), ("TurnLine$TextReader", 81, "window"), ("TurnLine$TextReader", 90, "message"), ("TurnLine$TextReader", 95, "lose"), ("TurnLineLaw", 17, "line "), ("TurnLineLaw", 30, " "), ("TurnLineLaw", 35, ";"), ("TurnLineLaw", 37, "window "), ("TurnLineLaw", 39, "message "), ("TurnLineLaw", 41, "lose "), ("TurnLine", 74, "no such length"), ("TurnLine", 125, "no such size"), ("TurnLine", 130, "no such number of a station"), ("TurnLine", 146, "no such message"), ("TurnLine", 171, "no such number of a frame"), ("TurnLine", 203, "no such account"), ("TurnLine", 232, "not so many in the buffer"), ("TurnLine", 254, "too many frames altogether"), ("TurnLine", 271, "no such station"), ("TurnLine", 273, "no such number")]
def strB : List (List Int32) := [[108, 105, 110, 101], [119, 105, 110, 100, 111, 119], [109, 101, 115, 115, 97, 103, 101], [108, 111, 115, 101], [108, 105, 110, 101, 32], [32], [59], [119, 105, 110, 100, 111, 119, 32], [109, 101, 115, 115, 97, 103, 101, 32], [108, 111, 115, 101, 32]]
def strO (a v : Nat) (b : List Int32) (A : Nat → Prop) (U : State) : Prop := va_O "java/lang/String" a A U U.heap ∧ va_OF "java/lang/String" "coder" "B" (.int 0) a A U U.heap ∧ va_OF "java/lang/String" "value" "[B" (.ref v) a A U U.heap ∧ va_T .byte v b.length (fun j => .int (b.getD j 0)) A U U.heap
/-- the two tables of digits -/
def dg1 (j : Nat) : Int := 48 + (j : Int) % 10
def dg2 (j : Nat) : Int := 48 + (j : Int) / 10
/-- the script's ints -/
def sx (K : Nat → Nat) (z : Int) : Int := (Int32.ofNat (K (1000 + z.toNat))).toInt
def scF (K : Nat → Nat) (A : Nat → Prop) (U : State) : Prop := va_T .int (K 300) (K 301) (fun j => .int (Int32.ofNat (K (1000 + j)))) A U U.heap ∧ K 301 ≤ 1000
def dgF (K : Nat → Nat) (A : Nat → Prop) (U : State) : Prop := (va_Z "java/lang/Integer" "DigitOnes" "[B" (.ref (K 200)) A U U.heap ∧ va_T .byte (K 200) 100 (fun j => .int (iI (dg1 j))) A U U.heap) ∧ va_Z "java/lang/Integer" "DigitTens" "[B" (.ref (K 201)) A U U.heap ∧ va_T .byte (K 201) 100 (fun j => .int (iI (dg2 j))) A U U.heap
/-- the classes that are thrown -/
def thL : List Cond := [.castable "java/lang/IllegalArgumentException" "java/lang/IllegalArgumentException", .castable "java/lang/IndexOutOfBoundsException" "java/lang/IndexOutOfBoundsException", .castable "java/lang/IllegalStateException" "java/lang/IllegalStateException", .declares (Bundle.initS "java/lang/RuntimeException"), .declares (Bundle.initS "java/lang/Exception"), .declares (Bundle.initS "java/lang/Throwable")]
theorem thL_on : ∀ w ∈ thL, w.onTables = true := fun w h => List.all_eq_true.mp (show thL.all (fun w => w.onTables) = true by rfl) w h
theorem thL_warm {s U : State} (hW : s.WarmedH U.vm) (h : ∀ w ∈ thL, va_Nw w s) : ∀ w ∈ thL, va_Nw w U := by
  unfold thL at h ⊢
  simp only [List.forall_mem_cons] at h ⊢
  exact ⟨va_Nw.warmC hW h.1, va_Nw.warmC hW h.2.1, va_Nw.warmC hW h.2.2.1, va_Nw.warmD hW h.2.2.2.1, va_Nw.warmD hW h.2.2.2.2.1, va_Nw.warmD hW h.2.2.2.2.2.1, fun _ hh => absurd hh List.not_mem_nil⟩
/-- .. of which none is another -/
def ncL : List (String × String) := [("java/lang/IndexOutOfBoundsException", "java/lang/IllegalArgumentException"), ("java/lang/IllegalStateException", "java/lang/IllegalArgumentException")]
/-- what stands beside the cells: nest mates' fields, statics that nobody writes, String constants -/
def exF (K : Nat → Nat) (A : Nat → Prop) (U : State) : Prop := (nestF U ∧ (∀ w ∈ thL, va_Nw w U) ∧ ∀ q ∈ ncL, va_Nc q.1 q.2 U) ∧ vx_Zq Bundle.tN "UNASSIGNED_STACK" Bundle.steD A U U.heap ∧ vx_Zq Bundle.tN "SUPPRESSED_SENTINEL" Bundle.listD A U U.heap ∧ va_Z "java/lang/String" "COMPACT_STRINGS" "Z" (.int 1) A U U.heap ∧ va_Zq "jdk/internal/util/Preconditions" "SIOOBE_FORMATTER" "Ljava/util/function/BiFunction;" A U U.heap ∧ (∀ (i : Nat) (q : String × Nat × String), strT[i]? = some q → vk_R q.1 q.2.1 q.2.2 (K i) U) ∧ (∀ (i : Nat) (b : List Int32), strB[i]? = some b → strO (K i) (K (100 + i)) b A U) ∧ dgF K A U ∧ scF K A U
theorem exF_warm {K : Nat → Nat} {A B : Nat → Prop} {s U : State} {H : Heap} {locs : List Loc} (hW : s.WarmedH U.vm) (hU : U.heap = H) (hS : va_S A s.heap H locs) (hAB : ∀ q, B q → A q) (h : exF K A s) : exF K B U := by
  obtain ⟨h1, h2, h3, h4, h5, h6, h7, h8, h9⟩ := h
  refine ⟨⟨nestF_warm hW h1.1, thL_warm hW h1.2.1, fun q hq => va_Nc.moved hW.alike (h1.2.2 q hq)⟩, ?_, ?_, ?_, ?_, fun i q hq => vk_R.warm hW (h6 i q hq), fun i b hb => ?_, ?_, ?_⟩
  · rw [hU]; exact (vx_Zq.moved hW.alike (h2.kept hS.2.1)).narrow hAB
  · rw [hU]; exact (vx_Zq.moved hW.alike (h3.kept hS.2.1)).narrow hAB
  · rw [hU]; exact (va_Z.moved hW.alike (h4.kept hS.2.1)).narrow hAB
  · rw [hU]; exact (va_Zq.moved hW.alike (h5.kept hS.2.1)).narrow hAB
  · obtain ⟨a1, a2, a3, a4⟩ := h7 i b hb
    unfold strO
    rw [hU]
    exact ⟨(va_O.moved hW.alike (a1.kept hS.2.1)).narrow hAB, (va_OF.moved hW.alike (a2.kept hS.2.1)).narrow hAB, (va_OF.moved hW.alike (a3.kept hS.2.1)).narrow hAB, (va_T.moved hW.alike (a4.kept hS.2.1)).narrow hAB⟩
  · obtain ⟨⟨b1, b2⟩, b3, b4⟩ := h8
    unfold dgF
    rw [hU]
    exact ⟨⟨(va_Z.moved hW.alike (b1.kept hS.2.1)).narrow hAB, (va_T.moved hW.alike (b2.kept hS.2.1)).narrow hAB⟩, (va_Z.moved hW.alike (b3.kept hS.2.1)).narrow hAB, (va_T.moved hW.alike (b4.kept hS.2.1)).narrow hAB⟩
  · unfold scF
    rw [hU]
    exact ⟨(va_T.moved hW.alike (h9.1.kept hS.2.1)).narrow hAB, h9.2⟩
theorem exF_call {K : Nat → Nat} {A : Nat → Prop} {U : State} {g : JFrame} {mk : MethodId} {a : Array Value} (h : exF K A U) : exF K A (U.calling g mk a) := by
  obtain ⟨h1, h2, h3, h4, h5, h6, h7, h8, h9⟩ := h
  have hv : U.vm.Alike (U.calling g mk a).vm := Vm.Alike.refl U.vm
  refine ⟨⟨nestF_call h1.1, fun w hw => va_Nw.same (thL_on w hw) (u := U) rfl (h1.2.1 w hw), fun q hq => va_Nc.moved hv (h1.2.2 q hq)⟩, vx_Zq.moved hv h2, vx_Zq.moved hv h3, va_Z.moved hv h4, va_Zq.moved hv h5, fun i q hq => vk_R.same rfl (h6 i q hq), fun i b hb => ?_, ⟨⟨va_Z.moved hv h8.1.1, va_T.moved hv h8.1.2⟩, va_Z.moved hv h8.2.1, va_T.moved hv h8.2.2⟩, va_T.moved hv h9.1, h9.2⟩
  obtain ⟨a1, a2, a3, a4⟩ := h7 i b hb
  exact ⟨va_O.moved hv a1, va_OF.moved hv a2, va_OF.moved hv a3, va_T.moved hv a4⟩
abbrev vCx : Type := Program × Launch × Env × Room × State × MethodId × Array Value × List Frame × Method × Code × (State → Prop) × (Nat → Prop) × Nat × GG
def vL (X : vCx) : Launch := X.2.1
def vG (X : vCx) : GG := X.2.2.2.2.2.2.2.2.2.2.2.2.2
def V (X : vCx) (k n pc : Nat) (L : List (Nat × Value)) (st : List Value) (ws : va_W) : Prop := match X with
  | (p, l, e, R, s, m, args, below, meth, c, Q, A, nL, G) => ∀ (H : Heap) (locs : List Loc) (ls : Array Slot), va_P G.1.1 vwCl ws H → va_D A ws → va_S A s.heap H locs → lv_has ls nL L → W p l e R s m args below meth c H locs k n Q (F0 m pc ls st)
/-- the fixed facts of a body: its code, its own class, its words, its room -/
def vC (X : vCx) (cc : ByteArray) (own : String) (Ts : List Cond) (fr lo mR sR : Nat) : Prop := match X with
  | (p, l, e, R, s, m, args, below, meth, c, Q, A, nL, G) => p.tables.exec = Jvm.exec ∧ c.code = cc ∧ c.maxLocals = nL ∧ s.vm.findClass own = some m.cls ∧ (∀ w ∈ Ts, w.before args s = true) ∧ va_K G.1.1 vwCl (gtys G) s ∧ (∀ q, s.heap.size ≤ q → A q) ∧ R.frames = fr ∧ R.locals = lo ∧ R.cells = mR ∧ R.slots = sR ∧ exF G.1.2 A s
def vQ (G : GG) (Po : Option Value → va_W → Prop) (A : Nat → Prop) : Array Value → State → Outcome → State → Prop := fun _ st oc t => ∃ (r : Option Value) (w : va_W), oc = .returned r ∧ Po r w ∧ va_P G.1.1 vwCl w t.heap ∧ va_D A w ∧ va_F A st t
/-- the facts of a method's end -/
def vE (X : vCx) (ret : Option FieldType) (Po : Option Value → va_W → Prop) (mc ms : Nat) : Prop := match X with
  | (p, l, e, R, s, m, args, below, meth, c, Q, A, nL, G) => meth.sig.returnType = ret ∧ Q = MQ below (vQ G Po A) args s mc ms A ∧ meth.locks = false
def vM (X : vCx) (nL : Nat) : Prop := match X with
  | (p, l, e, R, s, m, args, below, meth, c, Q, A, nL0, G) => nL0 = nL
/-- a method's contract: from args and the cells ws to what Po says of the answer and the cells -/
def Ct (G : GG) (l : Launch) (y : MethodName) (wy : List Cond) (fr lo mc ms : Nat) (args : List Value) (ws : va_W) (Po : Option Value → va_W → Prop) : Prop :=
  ∀ sz : Nat, Met l y wy ({ frames := fr, cells := mc, slots := ms, locals := lo } : Room) (va_Pc args (fun U => U.heap.size = sz ∧ va_P G.1.1 vwCl ws U.heap ∧ va_K G.1.1 vwCl (gtys G) U ∧ va_D (fun _ => True) ws ∧ exF G.1.2 (va_A ws sz) U)) (vQ G Po (va_A ws sz)) mc ms (va_A ws sz)
theorem Ct.of {G : GG} {l : Launch} {y : MethodName} {wy wy' : List Cond} {fr lo mc ms : Nat} {args : List Value} {ws : va_W} {Po : Option Value → va_W → Prop} {own : String} {cc : ByteArray} {maxL : Nat} {ret : Option FieldType}
    (hy : plainName y.cls = true) (hw : wy = .code y cc maxL ret :: wy') (hown : y.cls = own) (hlen : (lg_sl args).length ≤ maxL)
    (body : ∀ X : vCx, vC X cc own wy fr lo mc ms → vE X ret Po mc ms → vM X maxL → vG X = G → vL X = l → V X 0 0 0 (lv_args 0 args) [] ws) : Ct G l y wy fr lo mc ms args ws Po := by
  intro sz
  refine Met.ofW (cc := cc) (maxL := maxL) (ret := ret) hy hw ?_
  intro p e s m as below meth c s₁ B hml hv
  obtain ⟨rfl, hsz, hP, hK, hD0, hNn⟩ := hv
  have hx := B.exec
  have hb := B.bytes
  have hr := B.returns
  have hts := atoms_spec (ws := wy) B.pre
  have hown' : s.vm.findClass own = some m.cls := by rw [← hown]; exact findClass_of_methodNamed B.named
  have hlocks := B.notSynchronized
  subst hsz
  have h := body (p, l, e, (headSpec wy ({ frames := fr, cells := mc, slots := ms, locals := lo } : Room)).room, s, m, args.toArray, below, meth, c, MQ below (vQ G Po (va_A ws s.heap.size)) args.toArray s mc ms (va_A ws s.heap.size), va_A ws s.heap.size, maxL, G)
    ⟨hx, hb, hml, hown', hts, hK, fun q h => Or.inr h, rfl, rfl, rfl, rfl, hNn⟩ ⟨hr, rfl, hlocks⟩ rfl rfl rfl
  rw [lg_entry_eq]
  exact h s.heap [] _ hP hD0.self va_S.rf (lv_entry args hlen)
/-- the same cells in another order, or fewer -/
def Sb (ws ws' : va_W) : Prop := (∀ (D : va_G) (cl : List vw_C) (H : Heap), va_P D cl ws H → va_P D cl ws' H) ∧ ∀ A : Nat → Prop, va_D A ws → va_D A ws'
theorem Sb.rf {ws : va_W} : Sb ws ws := ⟨fun _ _ _ h => h, fun _ h => h⟩
theorem Sb.tr {a b c : va_W} (h : Sb a b) (g : Sb b c) : Sb a c := ⟨fun D cl H x => g.1 D cl H (h.1 D cl H x), fun A x => g.2 A (h.2 A x)⟩
theorem Sb.pl {ws ws' : va_W} (is : List Nat) (hs : is.map (fun i => ws[i]?) = ws'.map some) (hn : va_nd is = true) : Sb ws ws' :=
  ⟨fun D cl H h => h.sub is (by
    have : is.filterMap (fun i => ws[i]?) = (is.map (fun i => ws[i]?)).filterMap id := by rw [List.filterMap_map]; rfl
    rw [this, hs, List.filterMap_map]; simp), fun A h => h.sub is hn hs⟩
theorem vP_app {D : va_G} {cl : List vw_C} {a b : va_W} {H : Heap} : va_P D cl (a ++ b) H ↔ va_P D cl a H ∧ va_P D cl b H := by
  constructor
  · intro h
    refine ⟨fun k q hq => ?_, fun k q hq => ?_⟩
    · obtain ⟨i, hi⟩ := List.getElem?_of_mem (List.mem_append_left b (List.mem_of_getElem? hq))
      exact h i q hi
    · obtain ⟨i, hi⟩ := List.getElem?_of_mem (List.mem_append_right a (List.mem_of_getElem? hq))
      exact h i q hi
  · exact fun h => h.1.app h.2
theorem vD_iff {A : Nat → Prop} {ws : va_W} : va_D A ws ↔ (ws.map (·.1)).Nodup ∧ ∀ q ∈ ws, A q.1 := by
  unfold va_D
  constructor
  · intro h
    refine ⟨?_, fun q hq => ?_⟩
    · rw [List.Nodup, List.pairwise_iff_getElem]
      intro i j hi hj hij he
      simp only [List.length_map] at hi hj
      simp only [List.getElem_map] at he
      have := h.1 i j ws[i] ws[j] (List.getElem?_eq_getElem hi) (List.getElem?_eq_getElem hj) he
      omega
    · obtain ⟨i, hi⟩ := List.getElem?_of_mem hq
      exact h.2 i q hi
  · intro h
    refine ⟨fun i j p q hi hj he => ?_, fun k q hk => h.2 q (List.mem_of_getElem? hk)⟩
    have hi' := (List.getElem?_eq_some_iff.mp hi)
    have hj' := (List.getElem?_eq_some_iff.mp hj)
    obtain ⟨hi1, hi2⟩ := hi'
    obtain ⟨hj1, hj2⟩ := hj'
    have hnd := List.pairwise_iff_getElem.mp h.1
    rcases Nat.lt_trichotomy i j with g | g | g
    · exact absurd (show (ws.map (·.1))[i]'(by simpa using hi1) = (ws.map (·.1))[j]'(by simpa using hj1) by rw [List.getElem_map, List.getElem_map, hi2, hj2]; exact he) (hnd i j (by simpa using hi1) (by simpa using hj1) g)
    · exact g
    · exact absurd (show (ws.map (·.1))[j]'(by simpa using hj1) = (ws.map (·.1))[i]'(by simpa using hi1) by rw [List.getElem_map, List.getElem_map, hi2, hj2]; exact he.symm) (hnd j i (by simpa using hj1) (by simpa using hi1) g)
theorem Sb.pm {ws ws' : va_W} (h : ws.Perm ws') : Sb ws ws' := by
  refine ⟨fun D cl H hp k q hq => ?_, fun A hd => ?_⟩
  · obtain ⟨i, hi⟩ := List.getElem?_of_mem (h.mem_iff.mpr (List.mem_of_getElem? hq))
    exact hp i q hi
  · rw [vD_iff] at hd ⊢
    exact ⟨(h.map (·.1)).nodup_iff.mp hd.1, fun q hq => hd.2 q (h.mem_iff.mpr hq)⟩
section Rules
variable {X : vCx} {cc : ByteArray} {own : String} {Ts : List Cond} {fr lo mR sR : Nat} {k n pc : Nat} {L : List (Nat × Value)} {st : List Value} {ws : va_W}
theorem V.sb {ws' : va_W} (h : Sb ws ws') (kk : V X k n pc L st ws') : V X k n pc L st ws := by
  obtain ⟨p, l, e, R, s, m, args, below, meth, c, Q, A, nL, G⟩ := X
  intro H locs ls hP hD hS hl
  exact kk H locs ls (h.1 _ _ _ hP) (h.2 _ hD) hS hl
theorem V.wid {k' n' : Nat} (h1 : k ≤ k') (h2 : n ≤ n') (kk : V X k' n' pc L st ws) : V X k n pc L st ws := by
  obtain ⟨p, l, e, R, s, m, args, below, meth, c, Q, A, nL, G⟩ := X
  intro H locs ls hP hD hS hl
  exact W.widen h1 h2 (kk H locs ls hP hD hS hl)
theorem V.loc {L' : List (Nat × Value)} (ks : List Nat) (hl : lv_pick L ks = L') (kk : V X k n pc L' st ws) : V X k n pc L st ws := by
  obtain ⟨p, l, e, R, s, m, args, below, meth, c, Q, A, nL, G⟩ := X
  intro H locs ls hP hD hS h
  exact kk H locs ls hP hD hS (lv_sub h ks hl)
theorem V.eq {k' n' pc' : Nat} {L' : List (Nat × Value)} {st' : List Value} {ws' : va_W} (e1 : k = k') (e2 : n = n') (e3 : pc = pc') (e4 : L = L') (e5 : st = st') (e6 : ws = ws') (kk : V X k' n' pc' L' st' ws') : V X k n pc L st ws := by
  subst e1 e2 e3 e4 e5 e6; exact kk
theorem V.top {a b : Int} (e : a = b) (kk : V X k n pc L (vI b :: st) ws) : V X k n pc L (vI a :: st) ws := by rw [e]; exact kk
theorem V.wld {ws' : va_W} (e : ws = ws') (kk : V X k n pc L st ws') : V X k n pc L st ws := by rw [e]; exact kk
theorem v_iload_n (C : vC X cc own Ts fr lo mR sR) {kf : Fin 4} {i : Nat} {x : Int32} (hd : decode cc pc = .ok (.iload_n kf, 1)) (hi : (kf : Nat) = i) (j : Nat) (hL : L[j]? = some (i, .int x))
    (kk : V X k n (pc + 1) L (.int x :: st) ws) : V X k n pc L (st) ws := by
  obtain ⟨p, l, e, R, s, m, args, below, meth, c, Q, A, nL, G⟩ := X
  obtain ⟨hx, hb, hml, hown, hts, hK, hA, hR1, hR2, hR3, hR4, hNn⟩ := C
  intro H locs ls hP hD hS hl
  exact lv_iload_n hx hb hd hi (lv_at hl j hL) (kk H locs ls hP hD hS hl)
theorem v_iload (C : vC X cc own Ts fr lo mR sR) {i : Nat} {x : Int32} (hd : decode cc pc = .ok (.iload i, 2)) (j : Nat) (hL : L[j]? = some (i, .int x))
    (kk : V X k n (pc + 2) L (.int x :: st) ws) : V X k n pc L (st) ws := by
  obtain ⟨p, l, e, R, s, m, args, below, meth, c, Q, A, nL, G⟩ := X
  obtain ⟨hx, hb, hml, hown, hts, hK, hA, hR1, hR2, hR3, hR4, hNn⟩ := C
  intro H locs ls hP hD hS hl
  exact lv_iload hx hb hd (lv_at hl j hL) (kk H locs ls hP hD hS hl)
theorem v_aload_n (C : vC X cc own Ts fr lo mR sR) {kf : Fin 4} {i : Nat} {x : Nat} (hd : decode cc pc = .ok (.aload_n kf, 1)) (hi : (kf : Nat) = i) (j : Nat) (hL : L[j]? = some (i, .ref x))
    (kk : V X k n (pc + 1) L (.ref x :: st) ws) : V X k n pc L (st) ws := by
  obtain ⟨p, l, e, R, s, m, args, below, meth, c, Q, A, nL, G⟩ := X
  obtain ⟨hx, hb, hml, hown, hts, hK, hA, hR1, hR2, hR3, hR4, hNn⟩ := C
  intro H locs ls hP hD hS hl
  exact lv_aload_n hx hb hd hi (lv_at hl j hL) (kk H locs ls hP hD hS hl)
theorem v_aload (C : vC X cc own Ts fr lo mR sR) {i : Nat} {x : Nat} (hd : decode cc pc = .ok (.aload i, 2)) (j : Nat) (hL : L[j]? = some (i, .ref x))
    (kk : V X k n (pc + 2) L (.ref x :: st) ws) : V X k n pc L (st) ws := by
  obtain ⟨p, l, e, R, s, m, args, below, meth, c, Q, A, nL, G⟩ := X
  obtain ⟨hx, hb, hml, hown, hts, hK, hA, hR1, hR2, hR3, hR4, hNn⟩ := C
  intro H locs ls hP hD hS hl
  exact lv_aload hx hb hd (lv_at hl j hL) (kk H locs ls hP hD hS hl)
theorem v_lload_n (C : vC X cc own Ts fr lo mR sR) {kf : Fin 4} {i : Nat} {x : Int64} (hd : decode cc pc = .ok (.lload_n kf, 1)) (hi : (kf : Nat) = i) (j : Nat) (hL : L[j]? = some (i, .long x))
    (kk : V X k n (pc + 1) L (.long x :: st) ws) : V X k n pc L (st) ws := by
  obtain ⟨p, l, e, R, s, m, args, below, meth, c, Q, A, nL, G⟩ := X
  obtain ⟨hx, hb, hml, hown, hts, hK, hA, hR1, hR2, hR3, hR4, hNn⟩ := C
  intro H locs ls hP hD hS hl
  exact lv_lload_n hx hb hd hi (lv_at hl j hL) (kk H locs ls hP hD hS hl)
theorem v_lload (C : vC X cc own Ts fr lo mR sR) {i : Nat} {x : Int64} (hd : decode cc pc = .ok (.lload i, 2)) (j : Nat) (hL : L[j]? = some (i, .long x))
    (kk : V X k n (pc + 2) L (.long x :: st) ws) : V X k n pc L (st) ws := by
  obtain ⟨p, l, e, R, s, m, args, below, meth, c, Q, A, nL, G⟩ := X
  obtain ⟨hx, hb, hml, hown, hts, hK, hA, hR1, hR2, hR3, hR4, hNn⟩ := C
  intro H locs ls hP hD hS hl
  exact lv_lload hx hb hd (lv_at hl j hL) (kk H locs ls hP hD hS hl)
theorem v_dload (C : vC X cc own Ts fr lo mR sR) {i : Nat} {x : UInt64} (hd : decode cc pc = .ok (.dload i, 2)) (j : Nat) (hL : L[j]? = some (i, .double x))
    (kk : V X k n (pc + 2) L (.double x :: st) ws) : V X k n pc L (st) ws := by
  obtain ⟨p, l, e, R, s, m, args, below, meth, c, Q, A, nL, G⟩ := X
  obtain ⟨hx, hb, hml, hown, hts, hK, hA, hR1, hR2, hR3, hR4, hNn⟩ := C
  intro H locs ls hP hD hS hl
  exact lv_dload hx hb hd (lv_at hl j hL) (kk H locs ls hP hD hS hl)
theorem v_istore_n (C : vC X cc own Ts fr lo mR sR) {nl : Nat} (M : vM X nl) {kf : Fin 4} {i : Nat} {x : Int32} {L' : List (Nat × Value)} (hd : decode cc pc = .ok (.istore_n kf, 1)) (hi : (kf : Nat) = i) (hn : i < nl) (hL : (i, Value.int x) :: L.filter (fun q => !(q.1 == i) && !(q.1 + 1 == i && q.2.category == 2)) = L')
    (kk : V X k n (pc + 1) L' st ws) : V X k n pc L (.int x :: st) ws := by
  obtain ⟨p, l, e, R, s, m, args, below, meth, c, Q, A, nL, G⟩ := X
  obtain ⟨hx, hb, hml, hown, hts, hK, hA, hR1, hR2, hR3, hR4, hNn⟩ := C
  intro H locs ls hP hD hS hl
  have hnl : nL = nl := M
  exact lv_istore_n hx hb hd hi hl (hnl ▸ hn) hL (fun ls' hl' => kk H locs ls' hP hD hS hl')
theorem v_istore (C : vC X cc own Ts fr lo mR sR) {nl : Nat} (M : vM X nl) {i : Nat} {x : Int32} {L' : List (Nat × Value)} (hd : decode cc pc = .ok (.istore i, 2)) (hn : i < nl) (hL : (i, Value.int x) :: L.filter (fun q => !(q.1 == i) && !(q.1 + 1 == i && q.2.category == 2)) = L')
    (kk : V X k n (pc + 2) L' st ws) : V X k n pc L (.int x :: st) ws := by
  obtain ⟨p, l, e, R, s, m, args, below, meth, c, Q, A, nL, G⟩ := X
  obtain ⟨hx, hb, hml, hown, hts, hK, hA, hR1, hR2, hR3, hR4, hNn⟩ := C
  intro H locs ls hP hD hS hl
  have hnl : nL = nl := M
  exact lv_istore hx hb hd hl (hnl ▸ hn) hL (fun ls' hl' => kk H locs ls' hP hD hS hl')
theorem v_astore_n (C : vC X cc own Ts fr lo mR sR) {nl : Nat} (M : vM X nl) {kf : Fin 4} {i : Nat} {x : Nat} {L' : List (Nat × Value)} (hd : decode cc pc = .ok (.astore_n kf, 1)) (hi : (kf : Nat) = i) (hn : i < nl) (hL : (i, Value.ref x) :: L.filter (fun q => !(q.1 == i) && !(q.1 + 1 == i && q.2.category == 2)) = L')
    (kk : V X k n (pc + 1) L' st ws) : V X k n pc L (.ref x :: st) ws := by
  obtain ⟨p, l, e, R, s, m, args, below, meth, c, Q, A, nL, G⟩ := X
  obtain ⟨hx, hb, hml, hown, hts, hK, hA, hR1, hR2, hR3, hR4, hNn⟩ := C
  intro H locs ls hP hD hS hl
  have hnl : nL = nl := M
  exact lv_astore_n hx hb hd hi hl (hnl ▸ hn) hL (fun ls' hl' => kk H locs ls' hP hD hS hl')
theorem v_astore (C : vC X cc own Ts fr lo mR sR) {nl : Nat} (M : vM X nl) {i : Nat} {x : Nat} {L' : List (Nat × Value)} (hd : decode cc pc = .ok (.astore i, 2)) (hn : i < nl) (hL : (i, Value.ref x) :: L.filter (fun q => !(q.1 == i) && !(q.1 + 1 == i && q.2.category == 2)) = L')
    (kk : V X k n (pc + 2) L' st ws) : V X k n pc L (.ref x :: st) ws := by
  obtain ⟨p, l, e, R, s, m, args, below, meth, c, Q, A, nL, G⟩ := X
  obtain ⟨hx, hb, hml, hown, hts, hK, hA, hR1, hR2, hR3, hR4, hNn⟩ := C
  intro H locs ls hP hD hS hl
  have hnl : nL = nl := M
  exact lv_astore hx hb hd hl (hnl ▸ hn) hL (fun ls' hl' => kk H locs ls' hP hD hS hl')
theorem v_lstore_n (C : vC X cc own Ts fr lo mR sR) {nl : Nat} (M : vM X nl) {kf : Fin 4} {i : Nat} {x : Int64} {L' : List (Nat × Value)} (hd : decode cc pc = .ok (.lstore_n kf, 1)) (hi : (kf : Nat) = i) (hn : i + 1 < nl) (hL : (i, Value.long x) :: L.filter (fun q => !(q.1 == i) && (!(q.1 == i + 1) && !(q.1 + 1 == i && q.2.category == 2))) = L')
    (kk : V X k n (pc + 1) L' st ws) : V X k n pc L (.long x :: st) ws := by
  obtain ⟨p, l, e, R, s, m, args, below, meth, c, Q, A, nL, G⟩ := X
  obtain ⟨hx, hb, hml, hown, hts, hK, hA, hR1, hR2, hR3, hR4, hNn⟩ := C
  intro H locs ls hP hD hS hl
  have hnl : nL = nl := M
  exact lv_lstore_n hx hb hd hi hl (hnl ▸ hn) hL (fun ls' hl' => kk H locs ls' hP hD hS hl')
theorem v_lstore (C : vC X cc own Ts fr lo mR sR) {nl : Nat} (M : vM X nl) {i : Nat} {x : Int64} {L' : List (Nat × Value)} (hd : decode cc pc = .ok (.lstore i, 2)) (hn : i + 1 < nl) (hL : (i, Value.long x) :: L.filter (fun q => !(q.1 == i) && (!(q.1 == i + 1) && !(q.1 + 1 == i && q.2.category == 2))) = L')
    (kk : V X k n (pc + 2) L' st ws) : V X k n pc L (.long x :: st) ws := by
  obtain ⟨p, l, e, R, s, m, args, below, meth, c, Q, A, nL, G⟩ := X
  obtain ⟨hx, hb, hml, hown, hts, hK, hA, hR1, hR2, hR3, hR4, hNn⟩ := C
  intro H locs ls hP hD hS hl
  have hnl : nL = nl := M
  exact lv_lstore hx hb hd hl (hnl ▸ hn) hL (fun ls' hl' => kk H locs ls' hP hD hS hl')
theorem v_dstore (C : vC X cc own Ts fr lo mR sR) {nl : Nat} (M : vM X nl) {i : Nat} {x : UInt64} {L' : List (Nat × Value)} (hd : decode cc pc = .ok (.dstore i, 2)) (hn : i + 1 < nl) (hL : (i, Value.double x) :: L.filter (fun q => !(q.1 == i) && (!(q.1 == i + 1) && !(q.1 + 1 == i && q.2.category == 2))) = L')
    (kk : V X k n (pc + 2) L' st ws) : V X k n pc L (.double x :: st) ws := by
  obtain ⟨p, l, e, R, s, m, args, below, meth, c, Q, A, nL, G⟩ := X
  obtain ⟨hx, hb, hml, hown, hts, hK, hA, hR1, hR2, hR3, hR4, hNn⟩ := C
  intro H locs ls hP hD hS hl
  have hnl : nL = nl := M
  exact lv_dstore hx hb hd hl (hnl ▸ hn) hL (fun ls' hl' => kk H locs ls' hP hD hS hl')
theorem v_iinc (C : vC X cc own Ts fr lo mR sR) {nl : Nat} (M : vM X nl) {i : Nat} {d z z' : Int} {L' : List (Nat × Value)} (hd : decode cc pc = .ok (.iinc i d, 3)) (j : Nat) (hj : L[j]? = some (i, vI z)) (hn : i < nl) (hz : z + d = z') (hL : (i, vI z') :: L.filter (fun q => !(q.1 == i) && !(q.1 + 1 == i && q.2.category == 2)) = L')
    (kk : V X k n (pc + 3) L' st ws) : V X k n pc L (st) ws := by
  obtain ⟨p, l, e, R, s, m, args, below, meth, c, Q, A, nL, G⟩ := X
  obtain ⟨hx, hb, hml, hown, hts, hK, hA, hR1, hR2, hR3, hR4, hNn⟩ := C
  intro H locs ls hP hD hS hl
  have hnl : nL = nl := M
  exact lv_iinc hx hb hd hl hj (by rw [← hz]; exact iI_add z d) (hnl ▸ hn) hL (fun ls' hl' => kk H locs ls' hP hD hS hl')
theorem v_iconst (C : vC X cc own Ts fr lo mR sR) {z : Int} (hd : decode cc pc = .ok (.iconst z, 1))
    (kk : V X k n (pc + 1) L (vI z :: st) ws) : V X k n pc L (st) ws := by
  obtain ⟨p, l, e, R, s, m, args, below, meth, c, Q, A, nL, G⟩ := X
  obtain ⟨hx, hb, hml, hown, hts, hK, hA, hR1, hR2, hR3, hR4, hNn⟩ := C
  intro H locs ls hP hD hS hl
  exact lv_iconst hx hb hd rfl (kk H locs ls hP hD hS hl)
theorem v_bipush (C : vC X cc own Ts fr lo mR sR) {z : Int} (hd : decode cc pc = .ok (.bipush z, 2)) (hz : (Int8.ofInt z).toInt32 = iI z)
    (kk : V X k n (pc + 2) L (vI z :: st) ws) : V X k n pc L (st) ws := by
  obtain ⟨p, l, e, R, s, m, args, below, meth, c, Q, A, nL, G⟩ := X
  obtain ⟨hx, hb, hml, hown, hts, hK, hA, hR1, hR2, hR3, hR4, hNn⟩ := C
  intro H locs ls hP hD hS hl
  exact lv_bipush hx hb hd hz (kk H locs ls hP hD hS hl)
theorem v_sipush (C : vC X cc own Ts fr lo mR sR) {z : Int} (hd : decode cc pc = .ok (.sipush z, 3)) (hz : (Int16.ofInt z).toInt32 = iI z)
    (kk : V X k n (pc + 3) L (vI z :: st) ws) : V X k n pc L (st) ws := by
  obtain ⟨p, l, e, R, s, m, args, below, meth, c, Q, A, nL, G⟩ := X
  obtain ⟨hx, hb, hml, hown, hts, hK, hA, hR1, hR2, hR3, hR4, hNn⟩ := C
  intro H locs ls hP hD hS hl
  exact lv_sipush hx hb hd hz (kk H locs ls hP hD hS hl)
theorem v_lconst (C : vC X cc own Ts fr lo mR sR) {kf : Fin 2} {v : Int64} (hd : decode cc pc = .ok (.lconst kf, 1)) (hv : Int64.ofNat (kf : Nat) = v)
    (kk : V X k n (pc + 1) L (.long v :: st) ws) : V X k n pc L (st) ws := by
  obtain ⟨p, l, e, R, s, m, args, below, meth, c, Q, A, nL, G⟩ := X
  obtain ⟨hx, hb, hml, hown, hts, hK, hA, hR1, hR2, hR3, hR4, hNn⟩ := C
  intro H locs ls hP hD hS hl
  exact lv_lconst hx hb hd hv (kk H locs ls hP hD hS hl)
theorem v_ldc2 (C : vC X cc own Ts fr lo mR sR) {index : Nat} {v : Int64} (hw : Jvm.Cond.constantLong own index v ∈ Ts) (hd : decode cc pc = .ok (.ldc2_w index, 3))
    (kk : V X k n (pc + 3) L (.long v :: st) ws) : V X k n pc L (st) ws := by
  obtain ⟨p, l, e, R, s, m, args, below, meth, c, Q, A, nL, G⟩ := X
  obtain ⟨hx, hb, hml, hown, hts, hK, hA, hR1, hR2, hR3, hR4, hNn⟩ := C
  intro H locs ls hP hD hS hl
  exact lv_ldc2 hx hb hown (hts _ hw) hd (kk H locs ls hP hD hS hl)
theorem v_null (C : vC X cc own Ts fr lo mR sR) (hd : decode cc pc = .ok (.aconst_null, 1))
    (kk : V X k n (pc + 1) L (.null :: st) ws) : V X k n pc L (st) ws := by
  obtain ⟨p, l, e, R, s, m, args, below, meth, c, Q, A, nL, G⟩ := X
  obtain ⟨hx, hb, hml, hown, hts, hK, hA, hR1, hR2, hR3, hR4, hNn⟩ := C
  intro H locs ls hP hD hS hl
  exact lv_null hx hb hd (kk H locs ls hP hD hS hl)
theorem v_iadd (C : vC X cc own Ts fr lo mR sR) {a b : Int} (hd : decode cc pc = .ok (.iadd, 1))
    (kk : V X k n (pc + 1) L (vI (a + b) :: st) ws) : V X k n pc L (vI b :: vI a :: st) ws := by
  obtain ⟨p, l, e, R, s, m, args, below, meth, c, Q, A, nL, G⟩ := X
  obtain ⟨hx, hb, hml, hown, hts, hK, hA, hR1, hR2, hR3, hR4, hNn⟩ := C
  intro H locs ls hP hD hS hl
  refine lv_iadd hx hb hd ?_
  rw [iI_add]
  exact kk H locs ls hP hD hS hl
theorem v_isub (C : vC X cc own Ts fr lo mR sR) {a b : Int} (hd : decode cc pc = .ok (.isub, 1))
    (kk : V X k n (pc + 1) L (vI (a - b) :: st) ws) : V X k n pc L (vI b :: vI a :: st) ws := by
  obtain ⟨p, l, e, R, s, m, args, below, meth, c, Q, A, nL, G⟩ := X
  obtain ⟨hx, hb, hml, hown, hts, hK, hA, hR1, hR2, hR3, hR4, hNn⟩ := C
  intro H locs ls hP hD hS hl
  refine lv_isub hx hb hd ?_
  rw [iI_sub]
  exact kk H locs ls hP hD hS hl
theorem v_imul (C : vC X cc own Ts fr lo mR sR) {a b : Int} (hd : decode cc pc = .ok (.imul, 1))
    (kk : V X k n (pc + 1) L (vI (a * b) :: st) ws) : V X k n pc L (vI b :: vI a :: st) ws := by
  obtain ⟨p, l, e, R, s, m, args, below, meth, c, Q, A, nL, G⟩ := X
  obtain ⟨hx, hb, hml, hown, hts, hK, hA, hR1, hR2, hR3, hR4, hNn⟩ := C
  intro H locs ls hP hD hS hl
  refine lv_imul hx hb hd ?_
  rw [iI_mul]
  exact kk H locs ls hP hD hS hl
theorem v_iand (C : vC X cc own Ts fr lo mR sR) {x y : Int32} {z : Int} (hd : decode cc pc = .ok (.iand, 1)) (hz : (x &&& y) = iI z)
    (kk : V X k n (pc + 1) L (vI z :: st) ws) : V X k n pc L (.int y :: .int x :: st) ws := by
  obtain ⟨p, l, e, R, s, m, args, below, meth, c, Q, A, nL, G⟩ := X
  obtain ⟨hx, hb, hml, hown, hts, hK, hA, hR1, hR2, hR3, hR4, hNn⟩ := C
  intro H locs ls hP hD hS hl
  refine lv_iand hx hb hd ?_
  rw [hz]
  exact kk H locs ls hP hD hS hl
theorem v_ior (C : vC X cc own Ts fr lo mR sR) {x y : Int32} {z : Int} (hd : decode cc pc = .ok (.ior, 1)) (hz : (x ||| y) = iI z)
    (kk : V X k n (pc + 1) L (vI z :: st) ws) : V X k n pc L (.int y :: .int x :: st) ws := by
  obtain ⟨p, l, e, R, s, m, args, below, meth, c, Q, A, nL, G⟩ := X
  obtain ⟨hx, hb, hml, hown, hts, hK, hA, hR1, hR2, hR3, hR4, hNn⟩ := C
  intro H locs ls hP hD hS hl
  refine lv_ior hx hb hd ?_
  rw [hz]
  exact kk H locs ls hP hD hS hl
theorem v_ixor (C : vC X cc own Ts fr lo mR sR) {x y : Int32} {z : Int} (hd : decode cc pc = .ok (.ixor, 1)) (hz : (x ^^^ y) = iI z)
    (kk : V X k n (pc + 1) L (vI z :: st) ws) : V X k n pc L (.int y :: .int x :: st) ws := by
  obtain ⟨p, l, e, R, s, m, args, below, meth, c, Q, A, nL, G⟩ := X
  obtain ⟨hx, hb, hml, hown, hts, hK, hA, hR1, hR2, hR3, hR4, hNn⟩ := C
  intro H locs ls hP hD hS hl
  refine lv_ixor hx hb hd ?_
  rw [hz]
  exact kk H locs ls hP hD hS hl
theorem v_ishl (C : vC X cc own Ts fr lo mR sR) {x y : Int32} {z : Int} (hd : decode cc pc = .ok (.ishl, 1)) (hz : (x <<< (y &&& 31)) = iI z)
    (kk : V X k n (pc + 1) L (vI z :: st) ws) : V X k n pc L (.int y :: .int x :: st) ws := by
  obtain ⟨p, l, e, R, s, m, args, below, meth, c, Q, A, nL, G⟩ := X
  obtain ⟨hx, hb, hml, hown, hts, hK, hA, hR1, hR2, hR3, hR4, hNn⟩ := C
  intro H locs ls hP hD hS hl
  refine lv_ishl hx hb hd ?_
  rw [hz]
  exact kk H locs ls hP hD hS hl
theorem v_ishr (C : vC X cc own Ts fr lo mR sR) {x y : Int32} {z : Int} (hd : decode cc pc = .ok (.ishr, 1)) (hz : (x >>> (y &&& 31)) = iI z)
    (kk : V X k n (pc + 1) L (vI z :: st) ws) : V X k n pc L (.int y :: .int x :: st) ws := by
  obtain ⟨p, l, e, R, s, m, args, below, meth, c, Q, A, nL, G⟩ := X
  obtain ⟨hx, hb, hml, hown, hts, hK, hA, hR1, hR2, hR3, hR4, hNn⟩ := C
  intro H locs ls hP hD hS hl
  refine lv_ishr hx hb hd ?_
  rw [hz]
  exact kk H locs ls hP hD hS hl
theorem v_iushr (C : vC X cc own Ts fr lo mR sR) {x y : Int32} {z : Int} (hd : decode cc pc = .ok (.iushr, 1)) (hz : (x.toUInt32 >>> (y.toUInt32 &&& Int32.toUInt32 31)).toInt32 = iI z)
    (kk : V X k n (pc + 1) L (vI z :: st) ws) : V X k n pc L (.int y :: .int x :: st) ws := by
  obtain ⟨p, l, e, R, s, m, args, below, meth, c, Q, A, nL, G⟩ := X
  obtain ⟨hx, hb, hml, hown, hts, hK, hA, hR1, hR2, hR3, hR4, hNn⟩ := C
  intro H locs ls hP hD hS hl
  exact lv_iushr hx hb hd hz (kk H locs ls hP hD hS hl)
theorem v_idiv (C : vC X cc own Ts fr lo mR sR) {x y : Int32} {z : Int} (hd : decode cc pc = .ok (.idiv, 1)) (hne : ¬ y = 0) (hz : (x / y) = iI z)
    (kk : V X k n (pc + 1) L (vI z :: st) ws) : V X k n pc L (.int y :: .int x :: st) ws := by
  obtain ⟨p, l, e, R, s, m, args, below, meth, c, Q, A, nL, G⟩ := X
  obtain ⟨hx, hb, hml, hown, hts, hK, hA, hR1, hR2, hR3, hR4, hNn⟩ := C
  intro H locs ls hP hD hS hl
  refine lv_idiv hx hb hd hne ?_
  rw [hz]
  exact kk H locs ls hP hD hS hl
theorem v_irem (C : vC X cc own Ts fr lo mR sR) {x y : Int32} {z : Int} (hd : decode cc pc = .ok (.irem, 1)) (hne : ¬ y = 0) (hz : (x - x / y * y) = iI z)
    (kk : V X k n (pc + 1) L (vI z :: st) ws) : V X k n pc L (.int y :: .int x :: st) ws := by
  obtain ⟨p, l, e, R, s, m, args, below, meth, c, Q, A, nL, G⟩ := X
  obtain ⟨hx, hb, hml, hown, hts, hK, hA, hR1, hR2, hR3, hR4, hNn⟩ := C
  intro H locs ls hP hD hS hl
  refine lv_irem hx hb hd hne ?_
  rw [hz]
  exact kk H locs ls hP hD hS hl
theorem v_i2l (C : vC X cc own Ts fr lo mR sR) {x : Int32} {v : Int64} (hd : decode cc pc = .ok (.i2l, 1)) (hv : x.toInt64 = v)
    (kk : V X k n (pc + 1) L (.long v :: st) ws) : V X k n pc L (.int x :: st) ws := by
  obtain ⟨p, l, e, R, s, m, args, below, meth, c, Q, A, nL, G⟩ := X
  obtain ⟨hx, hb, hml, hown, hts, hK, hA, hR1, hR2, hR3, hR4, hNn⟩ := C
  intro H locs ls hP hD hS hl
  exact lv_i2l hx hb hd hv (kk H locs ls hP hD hS hl)
theorem v_l2i (C : vC X cc own Ts fr lo mR sR) {x : Int64} {z : Int} (hd : decode cc pc = .ok (.l2i, 1)) (hv : x.toInt32 = iI z)
    (kk : V X k n (pc + 1) L (vI z :: st) ws) : V X k n pc L (.long x :: st) ws := by
  obtain ⟨p, l, e, R, s, m, args, below, meth, c, Q, A, nL, G⟩ := X
  obtain ⟨hx, hb, hml, hown, hts, hK, hA, hR1, hR2, hR3, hR4, hNn⟩ := C
  intro H locs ls hP hD hS hl
  exact lv_l2i hx hb hd hv (kk H locs ls hP hD hS hl)
theorem v_i2b (C : vC X cc own Ts fr lo mR sR) {x : Int32} {z : Int} (hd : decode cc pc = .ok (.i2b, 1)) (hv : x.toInt8.toInt32 = iI z)
    (kk : V X k n (pc + 1) L (vI z :: st) ws) : V X k n pc L (.int x :: st) ws := by
  obtain ⟨p, l, e, R, s, m, args, below, meth, c, Q, A, nL, G⟩ := X
  obtain ⟨hx, hb, hml, hown, hts, hK, hA, hR1, hR2, hR3, hR4, hNn⟩ := C
  intro H locs ls hP hD hS hl
  exact lv_i2b hx hb hd hv (kk H locs ls hP hD hS hl)
theorem v_i2d (C : vC X cc own Ts fr lo mR sR) {x : Int32} (hd : decode cc pc = .ok (.i2d, 1))
    (kk : V X k n (pc + 1) L (.double (FP.i2d x) :: st) ws) : V X k n pc L (.int x :: st) ws := by
  obtain ⟨p, l, e, R, s, m, args, below, meth, c, Q, A, nL, G⟩ := X
  obtain ⟨hx, hb, hml, hown, hts, hK, hA, hR1, hR2, hR3, hR4, hNn⟩ := C
  intro H locs ls hP hD hS hl
  exact lv_i2d hx hb hd (kk H locs ls hP hD hS hl)
theorem v_land (C : vC X cc own Ts fr lo mR sR) {x y : Int64} (hd : decode cc pc = .ok (.land, 1))
    (kk : V X k n (pc + 1) L (.long (x &&& y) :: st) ws) : V X k n pc L (.long y :: .long x :: st) ws := by
  obtain ⟨p, l, e, R, s, m, args, below, meth, c, Q, A, nL, G⟩ := X
  obtain ⟨hx, hb, hml, hown, hts, hK, hA, hR1, hR2, hR3, hR4, hNn⟩ := C
  intro H locs ls hP hD hS hl
  exact lv_land hx hb hd (kk H locs ls hP hD hS hl)
theorem v_lor (C : vC X cc own Ts fr lo mR sR) {x y : Int64} (hd : decode cc pc = .ok (.lor, 1))
    (kk : V X k n (pc + 1) L (.long (x ||| y) :: st) ws) : V X k n pc L (.long y :: .long x :: st) ws := by
  obtain ⟨p, l, e, R, s, m, args, below, meth, c, Q, A, nL, G⟩ := X
  obtain ⟨hx, hb, hml, hown, hts, hK, hA, hR1, hR2, hR3, hR4, hNn⟩ := C
  intro H locs ls hP hD hS hl
  exact lv_lor hx hb hd (kk H locs ls hP hD hS hl)
theorem v_lshl (C : vC X cc own Ts fr lo mR sR) {x v : Int64} {y : Int32} (hd : decode cc pc = .ok (.lshl, 1)) (hv : x <<< (y.toInt64 &&& 63) = v)
    (kk : V X k n (pc + 1) L (.long v :: st) ws) : V X k n pc L (.int y :: .long x :: st) ws := by
  obtain ⟨p, l, e, R, s, m, args, below, meth, c, Q, A, nL, G⟩ := X
  obtain ⟨hx, hb, hml, hown, hts, hK, hA, hR1, hR2, hR3, hR4, hNn⟩ := C
  intro H locs ls hP hD hS hl
  exact lv_lshl hx hb hd hv (kk H locs ls hP hD hS hl)
theorem v_lushr (C : vC X cc own Ts fr lo mR sR) {x v : Int64} {y : Int32} (hd : decode cc pc = .ok (.lushr, 1)) (hv : (x.toUInt64 >>> (y.toInt64.toUInt64 &&& Int64.toUInt64 63)).toInt64 = v)
    (kk : V X k n (pc + 1) L (.long v :: st) ws) : V X k n pc L (.int y :: .long x :: st) ws := by
  obtain ⟨p, l, e, R, s, m, args, below, meth, c, Q, A, nL, G⟩ := X
  obtain ⟨hx, hb, hml, hown, hts, hK, hA, hR1, hR2, hR3, hR4, hNn⟩ := C
  intro H locs ls hP hD hS hl
  exact lv_lushr hx hb hd hv (kk H locs ls hP hD hS hl)
theorem v_lcmp (C : vC X cc own Ts fr lo mR sR) {x y : Int64} (hd : decode cc pc = .ok (.lcmp, 1))
    (kk : V X k n (pc + 1) L (.int (lg_cmp x y) :: st) ws) : V X k n pc L (.long y :: .long x :: st) ws := by
  obtain ⟨p, l, e, R, s, m, args, below, meth, c, Q, A, nL, G⟩ := X
  obtain ⟨hx, hb, hml, hown, hts, hK, hA, hR1, hR2, hR3, hR4, hNn⟩ := C
  intro H locs ls hP hD hS hl
  exact W.lcmp hx hb hd (kk H locs ls hP hD hS hl)
theorem v_ddiv (C : vC X cc own Ts fr lo mR sR) {x y : UInt64} (hd : decode cc pc = .ok (.ddiv, 1)) (hne : vf_n64 (FP.ddiv x y))
    (kk : V X k n (pc + 1) L (.double (FP.ddiv x y) :: st) ws) : V X k n pc L (.double y :: .double x :: st) ws := by
  obtain ⟨p, l, e, R, s, m, args, below, meth, c, Q, A, nL, G⟩ := X
  obtain ⟨hx, hb, hml, hown, hts, hK, hA, hR1, hR2, hR3, hR4, hNn⟩ := C
  intro H locs ls hP hD hS hl
  exact lv_ddiv hx hb hd hne (kk H locs ls hP hD hS hl)
theorem v_dcmp (C : vC X cc own Ts fr lo mR sR) {x y : UInt64} {op : CmpOp} (hd : decode cc pc = .ok (.dcmp op, 1))
    (kk : V X k n (pc + 1) L (.int (Op.cmpValue (FP.dcmp x y) op) :: st) ws) : V X k n pc L (.double y :: .double x :: st) ws := by
  obtain ⟨p, l, e, R, s, m, args, below, meth, c, Q, A, nL, G⟩ := X
  obtain ⟨hx, hb, hml, hown, hts, hK, hA, hR1, hR2, hR3, hR4, hNn⟩ := C
  intro H locs ls hP hD hS hl
  exact lv_dcmp hx hb hd (kk H locs ls hP hD hS hl)
theorem v_dup (C : vC X cc own Ts fr lo mR sR) {v : Value} (hd : decode cc pc = .ok (.dup, 1)) (hc : v.category = 1)
    (kk : V X k n (pc + 1) L (v :: v :: st) ws) : V X k n pc L (v :: st) ws := by
  obtain ⟨p, l, e, R, s, m, args, below, meth, c, Q, A, nL, G⟩ := X
  obtain ⟨hx, hb, hml, hown, hts, hK, hA, hR1, hR2, hR3, hR4, hNn⟩ := C
  intro H locs ls hP hD hS hl
  exact lv_dup hx hb hd hc (kk H locs ls hP hD hS hl)
theorem v_dup2 (C : vC X cc own Ts fr lo mR sR) {v u : Value} (hd : decode cc pc = .ok (.dup2, 1)) (hc : v.category = 1) (hu : u.category = 1)
    (kk : V X k n (pc + 1) L (v :: u :: v :: u :: st) ws) : V X k n pc L (v :: u :: st) ws := by
  obtain ⟨p, l, e, R, s, m, args, below, meth, c, Q, A, nL, G⟩ := X
  obtain ⟨hx, hb, hml, hown, hts, hK, hA, hR1, hR2, hR3, hR4, hNn⟩ := C
  intro H locs ls hP hD hS hl
  exact lv_dup2_11 hx hb hd hc hu (kk H locs ls hP hD hS hl)
theorem v_pop (C : vC X cc own Ts fr lo mR sR) {v : Value} (hd : decode cc pc = .ok (.pop, 1)) (hc : v.category = 1)
    (kk : V X k n (pc + 1) L st ws) : V X k n pc L (v :: st) ws := by
  obtain ⟨p, l, e, R, s, m, args, below, meth, c, Q, A, nL, G⟩ := X
  obtain ⟨hx, hb, hml, hown, hts, hK, hA, hR1, hR2, hR3, hR4, hNn⟩ := C
  intro H locs ls hP hD hS hl
  exact lv_pop hx hb hd hc (kk H locs ls hP hD hS hl)
theorem v_icmp_eq (C : vC X cc own Ts fr lo mR sR) {a b : Int} {off : Int} {tgt : Nat} (hd : decode cc pc = .ok (.if_icmp .eq off, 3)) (ht : (pc : Int) + off = (tgt : Int)) (ha : sm a) (hb0 : sm b)
    (kt : a = b → V X k n tgt L st ws) (kf : ¬ a = b → V X k n (pc + 3) L st ws) : V X k n pc L (vI b :: vI a :: st) ws := by
  obtain ⟨p, l, e, R, s, m, args, below, meth, c, Q, A, nL, G⟩ := X
  obtain ⟨hx, hb, hml, hown, hts, hK, hA, hR1, hR2, hR3, hR4, hNn⟩ := C
  intro H locs ls hP hD hS hl
  exact lv_icmp_eq hx hb hd ht (fun h => kt ((iI_eq ha hb0).mp h) H locs ls hP hD hS hl) (fun h => kf (fun h2 => h ((iI_eq ha hb0).mpr h2)) H locs ls hP hD hS hl)
theorem v_if_eq (C : vC X cc own Ts fr lo mR sR) {a : Int} {off : Int} {tgt : Nat} (hd : decode cc pc = .ok (.ifCond .eq off, 3)) (ht : (pc : Int) + off = (tgt : Int)) (ha : sm a)
    (kt : a = 0 → V X k n tgt L st ws) (kf : ¬ a = 0 → V X k n (pc + 3) L st ws) : V X k n pc L (vI a :: st) ws := by
  obtain ⟨p, l, e, R, s, m, args, below, meth, c, Q, A, nL, G⟩ := X
  obtain ⟨hx, hb, hml, hown, hts, hK, hA, hR1, hR2, hR3, hR4, hNn⟩ := C
  intro H locs ls hP hD hS hl
  exact lv_if_eq hx hb hd ht (fun h => kt ((iI_eq ha (by decide : sm 0)).mp (iI_0 ▸ h)) H locs ls hP hD hS hl) (fun h => kf (fun h2 => h (iI_0 ▸ (iI_eq ha (by decide : sm 0)).mpr h2)) H locs ls hP hD hS hl)
theorem v_icmp_ne (C : vC X cc own Ts fr lo mR sR) {a b : Int} {off : Int} {tgt : Nat} (hd : decode cc pc = .ok (.if_icmp .ne off, 3)) (ht : (pc : Int) + off = (tgt : Int)) (ha : sm a) (hb0 : sm b)
    (kt : ¬ a = b → V X k n tgt L st ws) (kf : a = b → V X k n (pc + 3) L st ws) : V X k n pc L (vI b :: vI a :: st) ws := by
  obtain ⟨p, l, e, R, s, m, args, below, meth, c, Q, A, nL, G⟩ := X
  obtain ⟨hx, hb, hml, hown, hts, hK, hA, hR1, hR2, hR3, hR4, hNn⟩ := C
  intro H locs ls hP hD hS hl
  exact lv_icmp_ne hx hb hd ht (fun h => kt (fun h2 => h (by rw [h2])) H locs ls hP hD hS hl) (fun h => kf ((iI_eq ha hb0).mp h) H locs ls hP hD hS hl)
theorem v_if_ne (C : vC X cc own Ts fr lo mR sR) {a : Int} {off : Int} {tgt : Nat} (hd : decode cc pc = .ok (.ifCond .ne off, 3)) (ht : (pc : Int) + off = (tgt : Int)) (ha : sm a)
    (kt : ¬ a = 0 → V X k n tgt L st ws) (kf : a = 0 → V X k n (pc + 3) L st ws) : V X k n pc L (vI a :: st) ws := by
  obtain ⟨p, l, e, R, s, m, args, below, meth, c, Q, A, nL, G⟩ := X
  obtain ⟨hx, hb, hml, hown, hts, hK, hA, hR1, hR2, hR3, hR4, hNn⟩ := C
  intro H locs ls hP hD hS hl
  exact lv_if_ne hx hb hd ht (fun h => kt (fun h2 => h (by rw [h2]; exact iI_0.symm)) H locs ls hP hD hS hl) (fun h => kf ((iI_eq ha (by decide : sm 0)).mp (h.trans iI_0)) H locs ls hP hD hS hl)
theorem v_icmp_lt (C : vC X cc own Ts fr lo mR sR) {a b : Int} {off : Int} {tgt : Nat} (hd : decode cc pc = .ok (.if_icmp .lt off, 3)) (ht : (pc : Int) + off = (tgt : Int)) (ha : sm a) (hb0 : sm b)
    (kt : a < b → V X k n tgt L st ws) (kf : ¬ a < b → V X k n (pc + 3) L st ws) : V X k n pc L (vI b :: vI a :: st) ws := by
  obtain ⟨p, l, e, R, s, m, args, below, meth, c, Q, A, nL, G⟩ := X
  obtain ⟨hx, hb, hml, hown, hts, hK, hA, hR1, hR2, hR3, hR4, hNn⟩ := C
  intro H locs ls hP hD hS hl
  exact lv_icmp_lt hx hb hd ht (fun h => kt ((iI_lt ha hb0).mp h) H locs ls hP hD hS hl) (fun h => kf (fun h2 => h ((iI_lt ha hb0).mpr h2)) H locs ls hP hD hS hl)
theorem v_if_lt (C : vC X cc own Ts fr lo mR sR) {a : Int} {off : Int} {tgt : Nat} (hd : decode cc pc = .ok (.ifCond .lt off, 3)) (ht : (pc : Int) + off = (tgt : Int)) (ha : sm a)
    (kt : a < 0 → V X k n tgt L st ws) (kf : ¬ a < 0 → V X k n (pc + 3) L st ws) : V X k n pc L (vI a :: st) ws := by
  obtain ⟨p, l, e, R, s, m, args, below, meth, c, Q, A, nL, G⟩ := X
  obtain ⟨hx, hb, hml, hown, hts, hK, hA, hR1, hR2, hR3, hR4, hNn⟩ := C
  intro H locs ls hP hD hS hl
  exact lv_if_lt hx hb hd ht (fun h => kt ((iI_lt ha (by decide : sm 0)).mp (iI_0 ▸ h)) H locs ls hP hD hS hl) (fun h => kf (fun h2 => h (iI_0 ▸ (iI_lt ha (by decide : sm 0)).mpr h2)) H locs ls hP hD hS hl)
theorem v_icmp_ge (C : vC X cc own Ts fr lo mR sR) {a b : Int} {off : Int} {tgt : Nat} (hd : decode cc pc = .ok (.if_icmp .ge off, 3)) (ht : (pc : Int) + off = (tgt : Int)) (ha : sm a) (hb0 : sm b)
    (kt : b ≤ a → V X k n tgt L st ws) (kf : ¬ b ≤ a → V X k n (pc + 3) L st ws) : V X k n pc L (vI b :: vI a :: st) ws := by
  obtain ⟨p, l, e, R, s, m, args, below, meth, c, Q, A, nL, G⟩ := X
  obtain ⟨hx, hb, hml, hown, hts, hK, hA, hR1, hR2, hR3, hR4, hNn⟩ := C
  intro H locs ls hP hD hS hl
  exact lv_icmp_ge hx hb hd ht (fun h => kt ((iI_le hb0 ha).mp h) H locs ls hP hD hS hl) (fun h => kf (fun h2 => h ((iI_le hb0 ha).mpr h2)) H locs ls hP hD hS hl)
theorem v_if_ge (C : vC X cc own Ts fr lo mR sR) {a : Int} {off : Int} {tgt : Nat} (hd : decode cc pc = .ok (.ifCond .ge off, 3)) (ht : (pc : Int) + off = (tgt : Int)) (ha : sm a)
    (kt : 0 ≤ a → V X k n tgt L st ws) (kf : ¬ 0 ≤ a → V X k n (pc + 3) L st ws) : V X k n pc L (vI a :: st) ws := by
  obtain ⟨p, l, e, R, s, m, args, below, meth, c, Q, A, nL, G⟩ := X
  obtain ⟨hx, hb, hml, hown, hts, hK, hA, hR1, hR2, hR3, hR4, hNn⟩ := C
  intro H locs ls hP hD hS hl
  exact lv_if_ge hx hb hd ht (fun h => kt ((iI_le (by decide : sm 0) ha).mp (iI_0 ▸ h)) H locs ls hP hD hS hl) (fun h => kf (fun h2 => h (iI_0 ▸ (iI_le (by decide : sm 0) ha).mpr h2)) H locs ls hP hD hS hl)
theorem v_icmp_gt (C : vC X cc own Ts fr lo mR sR) {a b : Int} {off : Int} {tgt : Nat} (hd : decode cc pc = .ok (.if_icmp .gt off, 3)) (ht : (pc : Int) + off = (tgt : Int)) (ha : sm a) (hb0 : sm b)
    (kt : b < a → V X k n tgt L st ws) (kf : ¬ b < a → V X k n (pc + 3) L st ws) : V X k n pc L (vI b :: vI a :: st) ws := by
  obtain ⟨p, l, e, R, s, m, args, below, meth, c, Q, A, nL, G⟩ := X
  obtain ⟨hx, hb, hml, hown, hts, hK, hA, hR1, hR2, hR3, hR4, hNn⟩ := C
  intro H locs ls hP hD hS hl
  exact lv_icmp_gt hx hb hd ht (fun h => kt ((iI_lt hb0 ha).mp h) H locs ls hP hD hS hl) (fun h => kf (fun h2 => h ((iI_lt hb0 ha).mpr h2)) H locs ls hP hD hS hl)
theorem v_if_gt (C : vC X cc own Ts fr lo mR sR) {a : Int} {off : Int} {tgt : Nat} (hd : decode cc pc = .ok (.ifCond .gt off, 3)) (ht : (pc : Int) + off = (tgt : Int)) (ha : sm a)
    (kt : 0 < a → V X k n tgt L st ws) (kf : ¬ 0 < a → V X k n (pc + 3) L st ws) : V X k n pc L (vI a :: st) ws := by
  obtain ⟨p, l, e, R, s, m, args, below, meth, c, Q, A, nL, G⟩ := X
  obtain ⟨hx, hb, hml, hown, hts, hK, hA, hR1, hR2, hR3, hR4, hNn⟩ := C
  intro H locs ls hP hD hS hl
  exact lv_if_gt hx hb hd ht (fun h => kt ((iI_lt (by decide : sm 0) ha).mp (iI_0 ▸ h)) H locs ls hP hD hS hl) (fun h => kf (fun h2 => h (iI_0 ▸ (iI_lt (by decide : sm 0) ha).mpr h2)) H locs ls hP hD hS hl)
theorem v_icmp_le (C : vC X cc own Ts fr lo mR sR) {a b : Int} {off : Int} {tgt : Nat} (hd : decode cc pc = .ok (.if_icmp .le off, 3)) (ht : (pc : Int) + off = (tgt : Int)) (ha : sm a) (hb0 : sm b)
    (kt : a ≤ b → V X k n tgt L st ws) (kf : ¬ a ≤ b → V X k n (pc + 3) L st ws) : V X k n pc L (vI b :: vI a :: st) ws := by
  obtain ⟨p, l, e, R, s, m, args, below, meth, c, Q, A, nL, G⟩ := X
  obtain ⟨hx, hb, hml, hown, hts, hK, hA, hR1, hR2, hR3, hR4, hNn⟩ := C
  intro H locs ls hP hD hS hl
  exact lv_icmp_le hx hb hd ht (fun h => kt ((iI_le ha hb0).mp h) H locs ls hP hD hS hl) (fun h => kf (fun h2 => h ((iI_le ha hb0).mpr h2)) H locs ls hP hD hS hl)
theorem v_if_le (C : vC X cc own Ts fr lo mR sR) {a : Int} {off : Int} {tgt : Nat} (hd : decode cc pc = .ok (.ifCond .le off, 3)) (ht : (pc : Int) + off = (tgt : Int)) (ha : sm a)
    (kt : a ≤ 0 → V X k n tgt L st ws) (kf : ¬ a ≤ 0 → V X k n (pc + 3) L st ws) : V X k n pc L (vI a :: st) ws := by
  obtain ⟨p, l, e, R, s, m, args, below, meth, c, Q, A, nL, G⟩ := X
  obtain ⟨hx, hb, hml, hown, hts, hK, hA, hR1, hR2, hR3, hR4, hNn⟩ := C
  intro H locs ls hP hD hS hl
  exact lv_if_le hx hb hd ht (fun h => kt ((iI_le ha (by decide : sm 0)).mp (iI_0 ▸ h)) H locs ls hP hD hS hl) (fun h => kf (fun h2 => h (iI_0 ▸ (iI_le ha (by decide : sm 0)).mpr h2)) H locs ls hP hD hS hl)
theorem v_goto (C : vC X cc own Ts fr lo mR sR) {off : Int} {tgt : Nat} (hd : decode cc pc = .ok (.goto off, 3)) (ht : (pc : Int) + off = (tgt : Int))
    (kk : V X k n tgt L st ws) : V X k n pc L (st) ws := by
  obtain ⟨p, l, e, R, s, m, args, below, meth, c, Q, A, nL, G⟩ := X
  obtain ⟨hx, hb, hml, hown, hts, hK, hA, hR1, hR2, hR3, hR4, hNn⟩ := C
  intro H locs ls hP hD hS hl
  exact lv_goto hx hb hd ht (kk H locs ls hP hD hS hl)
theorem v_ifnull (C : vC X cc own Ts fr lo mR sR) {x : Nat} {off : Int} (hd : decode cc pc = .ok (.ifnull off, 3))
    (kk : V X k n (pc + 3) L st ws) : V X k n pc L (.ref x :: st) ws := by
  obtain ⟨p, l, e, R, s, m, args, below, meth, c, Q, A, nL, G⟩ := X
  obtain ⟨hx, hb, hml, hown, hts, hK, hA, hR1, hR2, hR3, hR4, hNn⟩ := C
  intro H locs ls hP hD hS hl
  exact lv_ifnull hx hb hd (kk H locs ls hP hD hS hl)
theorem v_ifnullN (C : vC X cc own Ts fr lo mR sR) {off : Int} {tgt : Nat} (hd : decode cc pc = .ok (.ifnull off, 3)) (ht : (pc : Int) + off = (tgt : Int))
    (kk : V X k n tgt L st ws) : V X k n pc L (.null :: st) ws := by
  obtain ⟨p, l, e, R, s, m, args, below, meth, c, Q, A, nL, G⟩ := X
  obtain ⟨hx, hb, hml, hown, hts, hK, hA, hR1, hR2, hR3, hR4, hNn⟩ := C
  intro H locs ls hP hD hS hl
  exact lv_ifnullN hx hb hd ht (kk H locs ls hP hD hS hl)
theorem v_ifnonnull (C : vC X cc own Ts fr lo mR sR) {x : Nat} {off : Int} {tgt : Nat} (hd : decode cc pc = .ok (.ifnonnull off, 3)) (ht : (pc : Int) + off = (tgt : Int))
    (kk : V X k n tgt L st ws) : V X k n pc L (.ref x :: st) ws := by
  obtain ⟨p, l, e, R, s, m, args, below, meth, c, Q, A, nL, G⟩ := X
  obtain ⟨hx, hb, hml, hown, hts, hK, hA, hR1, hR2, hR3, hR4, hNn⟩ := C
  intro H locs ls hP hD hS hl
  exact lv_ifnonnull hx hb hd ht (kk H locs ls hP hD hS hl)
theorem v_tabIn (C : vC X cc own Ts fr lo mR sR) {dflt lo0 hi0 : Int} {offs : Array Int} {len : Nat} {a off : Int} {tgt : Nat} (hd : decode cc pc = .ok (.tableswitch dflt lo0 hi0 offs, len)) (ha : sm a) (h1 : ¬ a < lo0) (h2 : ¬ hi0 < a) (ho : offs[(a - lo0).toNat]? = some off) (ht : (pc : Int) + off = (tgt : Int))
    (kk : V X k n tgt L st ws) : V X k n pc L (vI a :: st) ws := by
  obtain ⟨p, l, e, R, s, m, args, below, meth, c, Q, A, nL, G⟩ := X
  obtain ⟨hx, hb, hml, hown, hts, hK, hA, hR1, hR2, hR3, hR4, hNn⟩ := C
  intro H locs ls hP hD hS hl
  exact lv_tableIn hx hb hd (by rw [iI_toInt ha]; exact h1) (by rw [iI_toInt ha]; exact h2) (by rw [iI_toInt ha]; exact ho) ht (kk H locs ls hP hD hS hl)
theorem v_tabOut (C : vC X cc own Ts fr lo mR sR) {dflt lo0 hi0 : Int} {offs : Array Int} {len : Nat} {a : Int} {tgt : Nat} (hd : decode cc pc = .ok (.tableswitch dflt lo0 hi0 offs, len)) (ha : sm a) (h : a < lo0 ∨ hi0 < a) (ht : (pc : Int) + dflt = (tgt : Int))
    (kk : V X k n tgt L st ws) : V X k n pc L (vI a :: st) ws := by
  obtain ⟨p, l, e, R, s, m, args, below, meth, c, Q, A, nL, G⟩ := X
  obtain ⟨hx, hb, hml, hown, hts, hK, hA, hR1, hR2, hR3, hR4, hNn⟩ := C
  intro H locs ls hP hD hS hl
  exact lv_tableOut hx hb hd (by rw [iI_toInt ha]; exact h) ht (kk H locs ls hP hD hS hl)
theorem v_get (C : vC X cc own Ts fr lo mR sR) {Cn : String} {T : u_T} {N ci index : Nat} {a : Nat} {fs : List Value} {v : Value} (hin : ∀ w ∈ u_ws Cn T N, w ∈ Ts) (q0 fk : Nat) (hc : vwCl[ci]? = some (Cn, T, N)) (hk : fk < N) (hlink : Cond.fieldLink own index (T fk).1 (T fk).2.1 (T fk).2.2.1 ∈ Ts) (he : ws[q0]? = some (a, .inr (ci, fs))) (hv : fs[fk]? = some v) (hd : decode cc pc = .ok (.getfield index, 3))
    (kk : V X k n (pc + 3) L (v :: st) ws) : V X k n pc L (.ref a :: st) ws := by
  obtain ⟨p, l, e, R, s, m, args, below, meth, c, Q, A, nL, G⟩ := X
  obtain ⟨hx, hb, hml, hown, hts, hK, hA, hR1, hR2, hR3, hR4, hNn⟩ := C
  intro H locs ls hP hD hS hl
  exact va_get (D := G.1.1) (cl := vwCl) hx hb hts hin hown hK hP q0 he hc fk hk (hts _ hlink) (fun _ h9 => h9) hv hd (kk H locs ls hP hD hS hl)
theorem v_getN (C : vC X cc own Ts fr lo mR sR) {Cn host : String} {T : u_T} {N ci index : Nat} {a : Nat} {fs : List Value} {v : Value} (hin : ∀ w ∈ u_ws Cn T N, w ∈ Ts) (q0 fk : Nat) (hc : vwCl[ci]? = some (Cn, T, N)) (hk : fk < N) (hlink : Cond.fieldLinkNest own index (T fk).1 (T fk).2.1 (T fk).2.2.1 host ∈ nestL) (he : ws[q0]? = some (a, .inr (ci, fs))) (hv : fs[fk]? = some v) (hd : decode cc pc = .ok (.getfield index, 3))
    (kk : V X k n (pc + 3) L (v :: st) ws) : V X k n pc L (.ref a :: st) ws := by
  obtain ⟨p, l, e, R, s, m, args, below, meth, c, Q, A, nL, G⟩ := X
  obtain ⟨hx, hb, hml, hown, hts, hK, hA, hR1, hR2, hR3, hR4, hNn⟩ := C
  intro H locs ls hP hD hS hl
  exact va_getN (D := G.1.1) (cl := vwCl) hx hb hts hin hown hK hP q0 he hc fk hk (va_Nw.use rfl (hNn.1.1.1 _ hlink)) (fun _ h9 => h9) hv hd (kk H locs ls hP hD hS hl)
theorem v_putN (C : vC X cc own Ts fr lo mR sR) {Cn host : String} {T : u_T} {N ci index : Nat} {a : Nat} {fs : List Value} {v : Value} (hin : ∀ w ∈ u_ws Cn T N, w ∈ Ts) (ty0 : Nat → FieldType) (hty : ∀ k, k < N → parseFieldDescriptor (T k).2.2.1 = some (ty0 k)) (hnm : ∀ a, a < N → ∀ b, b < N → a ≠ b → (T a).2.1 ≠ (T b).2.1) (q0 fk : Nat) (hc : vwCl[ci]? = some (Cn, T, N)) (hk : fk < N) (hlink : Cond.fieldLinkNest own index (T fk).1 (T fk).2.1 (T fk).2.2.1 host ∈ nestL) (he : ws[q0]? = some (a, .inr (ci, fs))) (hfin : (T fk).2.2.2 = false) (hn : narrow (ty0 fk) v = v) (hfit : fits (ty0 fk) v = true) (hlf : fk < fs.length) (hd : decode cc pc = .ok (.putfield index, 3)) {ws' : va_W} (hw : ws.set q0 (a, .inr (ci, fs.set fk v)) = ws')
    (kk : V X k n (pc + 3) L st ws') : V X k n pc L (v :: .ref a :: st) ws := by
  obtain ⟨p, l, e, R, s, m, args, below, meth, c, Q, A, nL, G⟩ := X
  obtain ⟨hx, hb, hml, hown, hts, hK, hA, hR1, hR2, hR3, hR4, hNn⟩ := C
  intro H locs ls hP hD hS hl
  subst hw
  exact va_putN (D := G.1.1) (cl := vwCl) hx hb hts hin ty0 hty hnm hown hK hP hD hS q0 he hc fk hk (va_Nw.use rfl (hNn.1.1.1 _ hlink)) (fun _ h9 => h9) hfin (hty fk hk) hn hfit hlf hd (fun H1 locs1 hP1 hD1 hS1 => kk H1 locs1 ls hP1 hD1 hS1 hl)
theorem v_put (C : vC X cc own Ts fr lo mR sR) {Cn : String} {T : u_T} {N ci index : Nat} {a : Nat} {fs : List Value} {v : Value} (hin : ∀ w ∈ u_ws Cn T N, w ∈ Ts) (ty0 : Nat → FieldType) (hty : ∀ k, k < N → parseFieldDescriptor (T k).2.2.1 = some (ty0 k)) (hnm : ∀ a, a < N → ∀ b, b < N → a ≠ b → (T a).2.1 ≠ (T b).2.1) (q0 fk : Nat) (hc : vwCl[ci]? = some (Cn, T, N)) (hk : fk < N) (hlink : Cond.fieldLink own index (T fk).1 (T fk).2.1 (T fk).2.2.1 ∈ Ts) (he : ws[q0]? = some (a, .inr (ci, fs))) (hfin : (T fk).2.2.2 = false) (hn : narrow (ty0 fk) v = v) (hfit : fits (ty0 fk) v = true) (hlf : fk < fs.length) (hd : decode cc pc = .ok (.putfield index, 3)) {ws' : va_W} (hw : ws.set q0 (a, .inr (ci, fs.set fk v)) = ws')
    (kk : V X k n (pc + 3) L st ws') : V X k n pc L (v :: .ref a :: st) ws := by
  obtain ⟨p, l, e, R, s, m, args, below, meth, c, Q, A, nL, G⟩ := X
  obtain ⟨hx, hb, hml, hown, hts, hK, hA, hR1, hR2, hR3, hR4, hNn⟩ := C
  intro H locs ls hP hD hS hl
  subst hw
  exact va_put (D := G.1.1) (cl := vwCl) hx hb hts hin ty0 hty hnm hown hK hP hD hS q0 he hc fk hk (hts _ hlink) (fun _ h9 => h9) hfin (hty fk hk) hn hfit hlf hd (fun H1 locs1 hP1 hD1 hS1 => kk H1 locs1 ls hP1 hD1 hS1 hl)
theorem v_iald (C : vC X cc own Ts fr lo mR sR) {a : Nat} {N : Nat} {f : Int → Int} {i : Int} (q0 : Nat) (ha : ws[q0]? = some (a, .inl ((vG X).2 1, N, .inl (fI f)))) (h0 : 0 ≤ i) (h1 : i < N) (hN : N < 2147483648) (hd : decode cc pc = .ok (.iaload, 1))
    (kk : V X k n (pc + 1) L (vI (f i) :: st) ws) : V X k n pc L (vI i :: .ref a :: st) ws := by
  obtain ⟨p, l, e, R, s, m, args, below, meth, c, Q, A, nL, G⟩ := X
  obtain ⟨hx, hb, hml, hown, hts, hK, hA, hR1, hR2, hR3, hR4, hNn⟩ := C
  intro H locs ls hP hD hS hl
  refine va_iald (D := G.1.1) (cl := vwCl) hx hb hK hP q0 1 ha rfl (iI_in h0 h1 hN) hd ?_
  rw [fI_at h0 ⟨by omega, by omega⟩]
  exact kk H locs ls hP hD hS hl
theorem v_lald (C : vC X cc own Ts fr lo mR sR) {a : Nat} {N : Nat} {f : Int → Int64} {i : Int} (q0 : Nat) (ha : ws[q0]? = some (a, .inl ((vG X).2 2, N, .inr (.inl (fL f))))) (h0 : 0 ≤ i) (h1 : i < N) (hN : N < 2147483648) (hd : decode cc pc = .ok (.laload, 1))
    (kk : V X k n (pc + 1) L (.long (f i) :: st) ws) : V X k n pc L (vI i :: .ref a :: st) ws := by
  obtain ⟨p, l, e, R, s, m, args, below, meth, c, Q, A, nL, G⟩ := X
  obtain ⟨hx, hb, hml, hown, hts, hK, hA, hR1, hR2, hR3, hR4, hNn⟩ := C
  intro H locs ls hP hD hS hl
  refine va_lald (D := G.1.1) (cl := vwCl) hx hb hK hP q0 2 ha rfl (iI_in h0 h1 hN) hd ?_
  rw [fL_at h0 ⟨by omega, by omega⟩]
  exact kk H locs ls hP hD hS hl
theorem v_bald (C : vC X cc own Ts fr lo mR sR) {a : Nat} {N : Nat} {f : Int → Int} {i : Int} (q0 : Nat) (ha : ws[q0]? = some (a, .inl ((vG X).2 0, N, .inl (fI f)))) (h0 : 0 ≤ i) (h1 : i < N) (hN : N < 2147483648) (hd : decode cc pc = .ok (.baload, 1))
    (kk : V X k n (pc + 1) L (vI (f i) :: st) ws) : V X k n pc L (vI i :: .ref a :: st) ws := by
  obtain ⟨p, l, e, R, s, m, args, below, meth, c, Q, A, nL, G⟩ := X
  obtain ⟨hx, hb, hml, hown, hts, hK, hA, hR1, hR2, hR3, hR4, hNn⟩ := C
  intro H locs ls hP hD hS hl
  refine va_bald (D := G.1.1) (cl := vwCl) hx hb hK hP q0 0 ha rfl (iI_in h0 h1 hN) hd ?_
  rw [fI_at h0 ⟨by omega, by omega⟩]
  exact kk H locs ls hP hD hS hl
theorem v_iast (C : vC X cc own Ts fr lo mR sR) {a : Nat} {N : Nat} {f : Int → Int} {i z : Int} (q0 : Nat) (ha : ws[q0]? = some (a, .inl ((vG X).2 1, N, .inl (fI f)))) (h0 : 0 ≤ i) (h1 : i < N) (hN : N < 2147483648) (hd : decode cc pc = .ok (.iastore, 1)) {ws' : va_W} (hw : ws.set q0 (a, .inl ((vG X).2 1, N, .inl (fI (up f i z)))) = ws')
    (kk : V X k n (pc + 1) L st ws') : V X k n pc L (vI z :: vI i :: .ref a :: st) ws := by
  obtain ⟨p, l, e, R, s, m, args, below, meth, c, Q, A, nL, G⟩ := X
  obtain ⟨hx, hb, hml, hown, hts, hK, hA, hR1, hR2, hR3, hR4, hNn⟩ := C
  intro H locs ls hP hD hS hl
  subst hw
  refine va_iast (D := G.1.1) (cl := vwCl) hx hb hK hP hD hS q0 1 ha rfl (iI_in h0 h1 hN) hd ?_
  rw [fI_up h0 ⟨by omega, by omega⟩]
  exact fun H1 locs1 hP1 hD1 hS1 => kk H1 locs1 ls hP1 hD1 hS1 hl
theorem v_last (C : vC X cc own Ts fr lo mR sR) {a : Nat} {N : Nat} {f : Int → Int64} {i : Int} {z : Int64} (q0 : Nat) (ha : ws[q0]? = some (a, .inl ((vG X).2 2, N, .inr (.inl (fL f))))) (h0 : 0 ≤ i) (h1 : i < N) (hN : N < 2147483648) (hd : decode cc pc = .ok (.lastore, 1)) {ws' : va_W} (hw : ws.set q0 (a, .inl ((vG X).2 2, N, .inr (.inl (fL (up f i z))))) = ws')
    (kk : V X k n (pc + 1) L st ws') : V X k n pc L (.long z :: vI i :: .ref a :: st) ws := by
  obtain ⟨p, l, e, R, s, m, args, below, meth, c, Q, A, nL, G⟩ := X
  obtain ⟨hx, hb, hml, hown, hts, hK, hA, hR1, hR2, hR3, hR4, hNn⟩ := C
  intro H locs ls hP hD hS hl
  subst hw
  refine va_last (D := G.1.1) (cl := vwCl) hx hb hK hP hD hS q0 2 ha rfl (iI_in h0 h1 hN) hd ?_
  rw [fL_up h0 ⟨by omega, by omega⟩]
  exact fun H1 locs1 hP1 hD1 hS1 => kk H1 locs1 ls hP1 hD1 hS1 hl
theorem v_bast (C : vC X cc own Ts fr lo mR sR) {a : Nat} {N : Nat} {f : Int → Int} {i z z' : Int} (q0 : Nat) (ha : ws[q0]? = some (a, .inl ((vG X).2 0, N, .inl (fI f)))) (h0 : 0 ≤ i) (h1 : i < N) (hN : N < 2147483648) (hz : vp_nar .byte (iI z) = iI z') (hd : decode cc pc = .ok (.bastore, 1)) {ws' : va_W} (hw : ws.set q0 (a, .inl ((vG X).2 0, N, .inl (fI (up f i z')))) = ws')
    (kk : V X k n (pc + 1) L st ws') : V X k n pc L (vI z :: vI i :: .ref a :: st) ws := by
  obtain ⟨p, l, e, R, s, m, args, below, meth, c, Q, A, nL, G⟩ := X
  obtain ⟨hx, hb, hml, hown, hts, hK, hA, hR1, hR2, hR3, hR4, hNn⟩ := C
  intro H locs ls hP hD hS hl
  subst hw
  refine va_bast (D := G.1.1) (cl := vwCl) hx hb hK hP hD hS q0 0 ha rfl (iI_in h0 h1 hN) hd ?_
  rw [hz, fI_up h0 ⟨by omega, by omega⟩]
  exact fun H1 locs1 hP1 hD1 hS1 => kk H1 locs1 ls hP1 hD1 hS1 hl
theorem v_alen (C : vC X cc own Ts fr lo mR sR) {a : Nat} {cA : ClassId} {x : vp_A} {ty : FieldType} {z : Int} (q0 t0 : Nat) (ha : ws[q0]? = some (a, .inl (cA, x))) (ht : (gtys (vG X))[t0]? = some (cA, ty)) (hv : Int32.ofNat x.1 = iI z) (hd : decode cc pc = .ok (.arraylength, 1))
    (kk : V X k n (pc + 1) L (vI z :: st) ws) : V X k n pc L (.ref a :: st) ws := by
  obtain ⟨p, l, e, R, s, m, args, below, meth, c, Q, A, nL, G⟩ := X
  obtain ⟨hx, hb, hml, hown, hts, hK, hA, hR1, hR2, hR3, hR4, hNn⟩ := C
  intro H locs ls hP hD hS hl
  exact va_alen (D := G.1.1) (cl := vwCl) hx hb hK hP q0 t0 ha ht hv hd (kk H locs ls hP hD hS hl)
theorem v_iret (C : vC X cc own Ts fr lo mR sR) {ret : Option FieldType} {Po : Option Value → va_W → Prop} {mc ms : Nat} (E : vE X ret Po mc ms) {v : Int32} (hret : ret = some .int) (hd : decode cc pc = .ok (.ireturn, 1)) (h1 : k ≤ mc) (h2 : n ≤ ms) (hp : Po (some (.int v)) ws) : V X k n pc L ([.int v]) ws := by
  obtain ⟨p, l, e, R, s, m, args, below, meth, c, Q, A, nL, G⟩ := X
  obtain ⟨hx, hb, hml, hown, hts, hK, hA, hR1, hR2, hR3, hR4, hNn⟩ := C
  intro H locs ls hP hD hS hl
  obtain ⟨hr, hQ, hlocks⟩ := E
  subst hQ
  refine W.widen h1 h2 ?_
  exact W.iret hx hb (hr.trans hret) (fun t ht hW => ⟨_, _, rfl, hp, by rw [ht]; exact hP, hD, hS.F ht⟩) hS.2.2 hd hlocks
theorem v_zret (C : vC X cc own Ts fr lo mR sR) {ret : Option FieldType} {Po : Option Value → va_W → Prop} {mc ms : Nat} (E : vE X ret Po mc ms) {v : Int32} {ty : FieldType} (hret : ret = some ty) (hn : narrow ty (.int v) = .int v) (hd : decode cc pc = .ok (.ireturn, 1)) (h1 : k ≤ mc) (h2 : n ≤ ms) (hp : Po (some (.int v)) ws) : V X k n pc L ([.int v]) ws := by
  obtain ⟨p, l, e, R, s, m, args, below, meth, c, Q, A, nL, G⟩ := X
  obtain ⟨hx, hb, hml, hown, hts, hK, hA, hR1, hR2, hR3, hR4, hNn⟩ := C
  intro H locs ls hP hD hS hl
  obtain ⟨hr, hQ, hlocks⟩ := E
  subst hQ
  refine W.widen h1 h2 ?_
  exact W.zret hx hb (hr.trans hret) hn (fun t ht hW => ⟨_, _, rfl, hp, by rw [ht]; exact hP, hD, hS.F ht⟩) hS.2.2 hd hlocks
theorem v_vret (C : vC X cc own Ts fr lo mR sR) {ret : Option FieldType} {Po : Option Value → va_W → Prop} {mc ms : Nat} (E : vE X ret Po mc ms) (hret : ret = none) (hd : decode cc pc = .ok (.return_, 1)) (h1 : k ≤ mc) (h2 : n ≤ ms) (hp : Po (none) ws) : V X k n pc L ([]) ws := by
  obtain ⟨p, l, e, R, s, m, args, below, meth, c, Q, A, nL, G⟩ := X
  obtain ⟨hx, hb, hml, hown, hts, hK, hA, hR1, hR2, hR3, hR4, hNn⟩ := C
  intro H locs ls hP hD hS hl
  obtain ⟨hr, hQ, hlocks⟩ := E
  subst hQ
  refine W.widen h1 h2 ?_
  exact W.vret hx hb (hr.trans hret) (fun t ht hW => ⟨_, _, rfl, hp, by rw [ht]; exact hP, hD, hS.F ht⟩) hS.2.2 hd hlocks
theorem v_lret (C : vC X cc own Ts fr lo mR sR) {ret : Option FieldType} {Po : Option Value → va_W → Prop} {mc ms : Nat} (E : vE X ret Po mc ms) {v : Int64} (hret : ret = some .long) (hd : decode cc pc = .ok (.lreturn, 1)) (h1 : k ≤ mc) (h2 : n ≤ ms) (hp : Po (some (.long v)) ws) : V X k n pc L ([.long v]) ws := by
  obtain ⟨p, l, e, R, s, m, args, below, meth, c, Q, A, nL, G⟩ := X
  obtain ⟨hx, hb, hml, hown, hts, hK, hA, hR1, hR2, hR3, hR4, hNn⟩ := C
  intro H locs ls hP hD hS hl
  obtain ⟨hr, hQ, hlocks⟩ := E
  subst hQ
  refine W.widen h1 h2 ?_
  exact W.lret hx hb (hr.trans hret) (fun t ht hW => ⟨_, _, rfl, hp, by rw [ht]; exact hP, hD, hS.F ht⟩) hS.2.2 hd hlocks
theorem v_dret (C : vC X cc own Ts fr lo mR sR) {ret : Option FieldType} {Po : Option Value → va_W → Prop} {mc ms : Nat} (E : vE X ret Po mc ms) {v : UInt64} (hret : ret = some .double) (hd : decode cc pc = .ok (.dreturn, 1)) (h1 : k ≤ mc) (h2 : n ≤ ms) (hp : Po (some (.double v)) ws) : V X k n pc L ([.double v]) ws := by
  obtain ⟨p, l, e, R, s, m, args, below, meth, c, Q, A, nL, G⟩ := X
  obtain ⟨hx, hb, hml, hown, hts, hK, hA, hR1, hR2, hR3, hR4, hNn⟩ := C
  intro H locs ls hP hD hS hl
  obtain ⟨hr, hQ, hlocks⟩ := E
  subst hQ
  refine W.widen h1 h2 ?_
  exact W.dret hx hb (hr.trans hret) (fun t ht hW => ⟨_, _, rfl, hp, by rw [ht]; exact hP, hD, hS.F ht⟩) hS.2.2 hd hlocks
theorem v_aret (C : vC X cc own Ts fr lo mR sR) {ret : Option FieldType} {Po : Option Value → va_W → Prop} {mc ms : Nat} (E : vE X ret Po mc ms) {v : Value} {rt : FieldType} (hret : ret = some rt) (hrt : (∃ n, rt = .object n) ∨ ∃ t, rt = .array t) (hv : v = .null ∨ ∃ a, v = .ref a) (hd : decode cc pc = .ok (.areturn, 1)) (h1 : k ≤ mc) (h2 : n ≤ ms) (hp : Po (some v) ws) : V X k n pc L ([v]) ws := by
  obtain ⟨p, l, e, R, s, m, args, below, meth, c, Q, A, nL, G⟩ := X
  obtain ⟨hx, hb, hml, hown, hts, hK, hA, hR1, hR2, hR3, hR4, hNn⟩ := C
  intro H locs ls hP hD hS hl
  obtain ⟨hr, hQ, hlocks⟩ := E
  subst hQ
  refine W.widen h1 h2 ?_
  exact W.aret hx hb (hr.trans hret) hrt hv (fun t ht hW => ⟨_, _, rfl, hp, by rw [ht]; exact hP, hD, hS.F ht⟩) hS.2.2 hd hlocks
theorem v_join {A : Nat → Prop} {D : va_G} {cl : List vw_C} {wc wr w1 : va_W} {H H1 : Heap} {locs1 : List Loc} {H0 : Heap} (hP : va_P D cl (wc ++ wr) H) (hD : va_D A (wc ++ wr)) (hF : ∀ q, va_A wc H.size q → A q) (hk : ∀ q : Nat, q < H.size → ¬ va_A wc H.size q → H1[q]? = H[q]?) (hP1 : va_P D cl w1 H1) (hD1 : va_D (va_A wc H.size) w1) : va_P D cl (w1 ++ wr) H1 ∧ va_D A (w1 ++ wr) := by
  have hPr := (vP_app.mp hP).2
  have hDD := vD_iff.mp hD
  rw [List.map_append, List.nodup_append] at hDD
  have apart : ∀ q ∈ wr, q.1 < H.size ∧ ¬ va_A wc H.size q.1 := by
    intro q hq
    obtain ⟨i, hi⟩ := List.getElem?_of_mem hq
    have hl := (hPr i q hi).lt
    refine ⟨hl, fun h => ?_⟩
    rcases h with ⟨k2, e, h⟩ | h
    · exact hDD.1.2.2 q.1 (List.mem_map.mpr ⟨(q.1, e), List.mem_of_getElem? h, rfl⟩) q.1 (List.mem_map.mpr ⟨q, hq, rfl⟩) rfl
    · omega
  have hD1' := vD_iff.mp hD1
  refine ⟨vP_app.mpr ⟨hP1, fun k q hq => ?_⟩, vD_iff.mpr ⟨?_, fun q hq => ?_⟩⟩
  · obtain ⟨g1, g2⟩ := apart q (List.mem_of_getElem? hq)
    exact (hPr k q hq).kept (hk q.1 g1 g2)
  · rw [List.map_append, List.nodup_append]
    refine ⟨hD1'.1, hDD.1.2.1, fun a ha b hb hab => ?_⟩
    obtain ⟨x, hx, rfl⟩ := List.mem_map.mp ha
    obtain ⟨z, hz, rfl⟩ := List.mem_map.mp hb
    exact (apart z hz).2 (hab ▸ hD1'.2 x hx)
  · rcases List.mem_append.mp hq with h | h
    · exact hF _ (hD1'.2 q h)
    · exact hDD.2 q (List.mem_append_right _ h)
theorem Ct.blind {G : GG} {args : List Value} {ws : va_W} {sz : Nat} : FrameBlind (va_Pc args (fun U => U.heap.size = sz ∧ va_P G.1.1 vwCl ws U.heap ∧ va_K G.1.1 vwCl (gtys G) U ∧ va_D (fun _ => True) ws ∧ exF G.1.2 (va_A ws sz) U)) := by
  intro a U g mk q
  obtain ⟨q0, q1, qP, qK, qD, qN⟩ := q
  exact ⟨q0, q1, qP, va_K.moved (u := U) (U := U.calling g mk a) (Vm.Alike.refl U.vm) qK, qD, exF_call qN⟩
/-- behind a call -/
theorem v_after {p : Program} {l : Launch} {e : Env} {R : Room} {s : State} {m : MethodId} {args : Array Value} {below : List Frame} {meth : Method} {c : Code} {Q : State → Prop} {A : Nat → Prop} {nL : Nat} {G : GG} {H : Heap} {locs : List Loc} {ls : Array Slot} {mc ms : Nat} {st rest : List Value} {wc wr : va_W} {Po : Option Value → va_W → Prop} {a : Array Value}
    (hP : va_P G.1.1 vwCl (wc ++ wr) H) (hD : va_D A (wc ++ wr)) (hS : va_S A s.heap H locs) (hl : lv_has ls nL L) (hA : ∀ q, s.heap.size ≤ q → A q)
    (hrun : va_Run p l e R s m args below meth c H locs k n mc ms (F0 m pc ls st) rest (vQ G Po (va_A wc H.size) a) (va_A wc H.size))
    (kk : ∀ (r : Option Value) (w1 : va_W), Po r w1 → V (p, l, e, R, s, m, args, below, meth, c, Q, A, nL, G) (k + mc) (n + ms) (pc + 3) L (r.toList ++ rest) (w1 ++ wr)) :
    W p l e R s m args below meth c H locs k n Q (F0 m pc ls st) := by
  intro T hT X
  obtain ⟨v, st₀, t, T', L', h0, X', hL, e1, e2, ⟨r, w1, hv, hp, hP1, hD1, hF⟩, go⟩ := hrun T hT X
  cases hv
  obtain ⟨hz, hk⟩ := hF
  rw [h0] at hz hk
  have hFr : ∀ q, va_A wc H.size q → A q := by
    intro q h
    rcases h with ⟨i, e9, h⟩ | h
    · exact (vD_iff.mp hD).2 _ (List.mem_append_left _ (List.mem_of_getElem? h))
    · exact hA q (Nat.le_trans hS.1 h)
  obtain ⟨j1, j2⟩ := v_join (H0 := s.heap) (locs1 := locs) hP hD hFr hk hP1 hD1
  have hS1 : va_S A s.heap T'.heap (locs ++ L') := by
    rw [e1]
    refine ⟨Nat.le_trans hS.1 hz, fun q h1 h2 => ?_, fun z hq => ?_⟩
    · rw [hk q (Nat.lt_of_lt_of_le h1 hS.1) (fun h => h2 (hFr q h))]
      exact hS.2.1 q h1 h2
    · rcases List.mem_append.mp hq with h | h
      · exact hS.2.2 z h
      · exact hFr _ (hL z h)
  rw [← e1] at j1
  obtain ⟨t2, a1, b1⟩ := kk v w1 hp T'.heap (locs ++ L') ls j1 j2 hS1 hl T' rfl X'
  exact ⟨t2, go t2 a1, b1⟩
theorem v_callV (C : vC X cc own Ts fr lo mR sR) {y : MethodName} {wy wy' : List Cond} {bytes : ByteArray} {maxL fr' lo' mc ms index na : Nat} {ret : Option FieldType} {wc wr : va_W} {Po : Option Value → va_W → Prop} {b : Nat} {ci : Nat} {fs : List Value} {T : u_T} {N : Nat} {C0 : String} (As rest : List Value) (hM : Ct (vG X) (vL X) y wy fr' lo' mc ms (.ref b :: As) wc Po) (hw : wy = Cond.code y bytes maxL ret :: wy') (hT : GoodIn Ts (wsV own index C0 y wy)) (hC0 : y.cls = C0) (hd9 : y.cls ≠ "java/lang/invoke/MethodHandle" ∧ y.cls ≠ "java/lang/invoke/VarHandle" ∧ (parseMethodDescriptor y.desc).map (fun d => d.parameters.length) = some na) (q0 : Nat) (hq0 : wc[q0]? = some (b, .inr (ci, fs))) (hc : vwCl[ci]? = some (C0, T, N)) (hR : (Nat.ble (fr' + 1) fr && Nat.ble (8 + (maxL + 11) + lo') lo && Nat.ble (k + mc) mR && Nat.ble (n + ms) sR) = true) (hna : As.length = na) (hsb : Sb ws (wc ++ wr)) (hst : st = As.reverse ++ .ref b :: rest) (hcat : Nat.ble (rest.map fun v => v.category).sum 8 = true) (hd : decode cc pc = .ok (.invokevirtual index, 3))
    (kk : ∀ (r : Option Value) (w1 : va_W), Po r w1 → V X (k + mc) (n + ms) (pc + 3) L (r.toList ++ rest) (w1 ++ wr)) : V X k n pc L (st) ws := by
  obtain ⟨p, l, e, R, s, m, args, below, meth, c, Q, A, nL, G⟩ := X
  obtain ⟨hx, hb, hml, hown, hts, hK, hA, hR1, hR2, hR3, hR4, hNn⟩ := C
  intro H locs ls hP hD hS hl
  subst hst
  have hP := hsb.1 _ _ _ hP
  have hD := hsb.2 _ hD
  have hPc := (vP_app.mp hP).1
  have hDc : va_D (fun _ => True) wc := vD_iff.mpr ⟨((List.nodup_append.mp (by have := (vD_iff.mp hD).1; rw [List.map_append] at this; exact this))).1, fun _ _ => trivial⟩
  simp only [Bool.and_eq_true, Nat.ble_eq] at hR
  obtain ⟨⟨⟨r1, r2⟩, r3⟩, r4⟩ := hR
  subst hR1 hR2 hR3 hR4
  have hcat := Nat.le_of_ble_eq_true hcat
  have hFr : ∀ q, va_A wc H.size q → A q := by
    intro q h
    rcases h with ⟨i, e9, h⟩ | h
    · exact (vD_iff.mp hD).2 _ (List.mem_append_left _ (List.mem_of_getElem? h))
    · exact hA q (Nat.le_trans hS.1 h)
  refine v_after (wc := wc) (wr := wr) hP hD hS hl hA (va_runV (As := As) (rest := rest) ⟨hx, hb, hml, hown, hts⟩ (hM H.size) (cwV na hts hT hw rfl rfl ⟨hC0, hd9⟩ ⟨r1, r2⟩) ⟨Ct.blind, va_recv hK hPc hc hq0, fun U hU hW => ⟨rfl, by rw [hU], by rw [hU]; exact hPc, va_K.moved hW.alike hK, hDc, exF_warm hW hU hS hFr hNn⟩⟩ rfl hna hl.1 rfl (lv_room hcat) hd ⟨r3, r4⟩) kk
theorem v_callS (C : vC X cc own Ts fr lo mR sR) {y : MethodName} {wy wy' : List Cond} {bytes : ByteArray} {maxL fr' lo' mc ms index na : Nat} {ret : Option FieldType} {wc wr : va_W} {Po : Option Value → va_W → Prop}  (As rest : List Value) (hM : Ct (vG X) (vL X) y wy fr' lo' mc ms As wc Po) (hw : wy = Cond.code y bytes maxL ret :: wy') (hT : GoodIn Ts (va_wsS own index y wy)) (hd9 : y.cls ≠ "java/lang/invoke/MethodHandle" ∧ y.cls ≠ "java/lang/invoke/VarHandle" ∧ (parseMethodDescriptor y.desc).map (fun d => d.parameters.length) = some na) (hR : (Nat.ble (fr' + 1) fr && Nat.ble (8 + (maxL + 11) + lo') lo && Nat.ble (k + mc) mR && Nat.ble (n + ms) sR) = true) (hna : As.length = na) (hsb : Sb ws (wc ++ wr)) (hst : st = As.reverse ++ rest) (hcat : Nat.ble (rest.map fun v => v.category).sum 8 = true) (hd : decode cc pc = .ok (.invokestatic index, 3))
    (kk : ∀ (r : Option Value) (w1 : va_W), Po r w1 → V X (k + mc) (n + ms) (pc + 3) L (r.toList ++ rest) (w1 ++ wr)) : V X k n pc L (st) ws := by
  obtain ⟨p, l, e, R, s, m, args, below, meth, c, Q, A, nL, G⟩ := X
  obtain ⟨hx, hb, hml, hown, hts, hK, hA, hR1, hR2, hR3, hR4, hNn⟩ := C
  intro H locs ls hP hD hS hl
  subst hst
  have hP := hsb.1 _ _ _ hP
  have hD := hsb.2 _ hD
  have hPc := (vP_app.mp hP).1
  have hDc : va_D (fun _ => True) wc := vD_iff.mpr ⟨((List.nodup_append.mp (by have := (vD_iff.mp hD).1; rw [List.map_append] at this; exact this))).1, fun _ _ => trivial⟩
  simp only [Bool.and_eq_true, Nat.ble_eq] at hR
  obtain ⟨⟨⟨r1, r2⟩, r3⟩, r4⟩ := hR
  subst hR1 hR2 hR3 hR4
  have hcat := Nat.le_of_ble_eq_true hcat
  have hFr : ∀ q, va_A wc H.size q → A q := by
    intro q h
    rcases h with ⟨i, e9, h⟩ | h
    · exact (vD_iff.mp hD).2 _ (List.mem_append_left _ (List.mem_of_getElem? h))
    · exact hA q (Nat.le_trans hS.1 h)
  refine v_after (wc := wc) (wr := wr) hP hD hS hl hA (va_runS (As := As) (rest := rest) ⟨hx, hb, hml, hown, hts⟩ (hM H.size) (va_cwS na hts hT hw rfl rfl hd9 ⟨r1, r2⟩) ⟨Ct.blind, fun U hU hW => ⟨rfl, by rw [hU], by rw [hU]; exact hPc, va_K.moved hW.alike hK, hDc, exF_warm hW hU hS hFr hNn⟩⟩ rfl hna hl.1 rfl (lv_room hcat) hd ⟨r3, r4⟩) kk
theorem v_callI (C : vC X cc own Ts fr lo mR sR) {y : MethodName} {wy wy' : List Cond} {bytes : ByteArray} {maxL fr' lo' mc ms index na : Nat} {ret : Option FieldType} {wc wr : va_W} {Po : Option Value → va_W → Prop} {b : Nat} (As rest : List Value) (hM : Ct (vG X) (vL X) y wy fr' lo' mc ms (.ref b :: As) wc Po) (hw : wy = Cond.code y bytes maxL none :: wy') (hT : GoodIn Ts wy) (hd9 : y.cls ≠ "java/lang/invoke/MethodHandle" ∧ y.cls ≠ "java/lang/invoke/VarHandle" ∧ (parseMethodDescriptor y.desc).map (fun d => d.parameters.length) = some na) (hi1 : Cond.initialized y.cls ∈ Ts) (hi2 : Cond.methodLink own index y ∈ Ts) (hi3 : Cond.instanceMethod y ∈ Ts) (hi4 : y.name = "<init>") (hR : (Nat.ble (fr' + 1) fr && Nat.ble (8 + (maxL + 11) + lo') lo && Nat.ble (k + mc) mR && Nat.ble (n + ms) sR) = true) (hna : As.length = na) (hsb : Sb ws (wc ++ wr)) (hst : st = As.reverse ++ .ref b :: rest) (hcat : Nat.ble (rest.map fun v => v.category).sum 8 = true) (hd : decode cc pc = .ok (.invokespecial index, 3))
    (kk : ∀ (r : Option Value) (w1 : va_W), Po r w1 → V X (k + mc) (n + ms) (pc + 3) L (r.toList ++ rest) (w1 ++ wr)) : V X k n pc L (st) ws := by
  obtain ⟨p, l, e, R, s, m, args, below, meth, c, Q, A, nL, G⟩ := X
  obtain ⟨hx, hb, hml, hown, hts, hK, hA, hR1, hR2, hR3, hR4, hNn⟩ := C
  intro H locs ls hP hD hS hl
  subst hst
  have hP := hsb.1 _ _ _ hP
  have hD := hsb.2 _ hD
  have hPc := (vP_app.mp hP).1
  have hDc : va_D (fun _ => True) wc := vD_iff.mpr ⟨((List.nodup_append.mp (by have := (vD_iff.mp hD).1; rw [List.map_append] at this; exact this))).1, fun _ _ => trivial⟩
  simp only [Bool.and_eq_true, Nat.ble_eq] at hR
  obtain ⟨⟨⟨r1, r2⟩, r3⟩, r4⟩ := hR
  subst hR1 hR2 hR3 hR4
  have hcat := Nat.le_of_ble_eq_true hcat
  have hFr : ∀ q, va_A wc H.size q → A q := by
    intro q h
    rcases h with ⟨i, e9, h⟩ | h
    · exact (vD_iff.mp hD).2 _ (List.mem_append_left _ (List.mem_of_getElem? h))
    · exact hA q (Nat.le_trans hS.1 h)
  refine v_after (wc := wc) (wr := wr) hP hD hS hl hA (va_runI (As := As) (rest := rest) ⟨hx, hb, hml, hown, hts⟩ (hM H.size) (cwI na hts hT hw rfl rfl (hts _ hi1) (hts _ hi2) (hts _ hi3) hi4 hd9 ⟨r1, r2⟩) ⟨Ct.blind, fun U hU hW => ⟨rfl, by rw [hU], by rw [hU]; exact hPc, va_K.moved hW.alike hK, hDc, exF_warm hW hU hS hFr hNn⟩⟩ rfl hna hl.1 rfl (lv_room hcat) hd ⟨r3, r4⟩) kk
end Rules
end VLay
