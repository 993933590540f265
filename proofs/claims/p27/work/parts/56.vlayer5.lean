section VLay5
section Rules5
variable {X : vCx} {cc : ByteArray} {own : String} {Ts : List Cond} {fr lo mR sR : Nat} {k n pc : Nat} {L : List (Nat × Value)} {st : List Value} {ws : va_W}
theorem v_aload_nN (C : vC X cc own Ts fr lo mR sR) {kf : Fin 4} {i : Nat} (hd : decode cc pc = .ok (.aload_n kf, 1)) (hi : (kf : Nat) = i) (j : Nat) (hL : L[j]? = some (i, .null))
    (kk : V X k n (pc + 1) L (.null :: st) ws) : V X k n pc L (st) ws := by
  obtain ⟨p, l, e, R, s, m, args, below, meth, c, Q, A, nL, G⟩ := X
  obtain ⟨hx, hb, hml, hown, hts, hK, hA, hR1, hR2, hR3, hR4, hNn⟩ := C
  intro H locs ls hP hD hS hl
  exact lv_aload_nN hx hb hd hi (lv_at hl j hL) (kk H locs ls hP hD hS hl)
theorem v_astore_nN (C : vC X cc own Ts fr lo mR sR) {nl : Nat} (M : vM X nl) {kf : Fin 4} {i : Nat} {L' : List (Nat × Value)} (hd : decode cc pc = .ok (.astore_n kf, 1)) (hi : (kf : Nat) = i) (hn : i < nl) (hL : (i, Value.null) :: L.filter (fun q => !(q.1 == i) && !(q.1 + 1 == i && q.2.category == 2)) = L')
    (kk : V X k n (pc + 1) L' st ws) : V X k n pc L (.null :: st) ws := by
  obtain ⟨p, l, e, R, s, m, args, below, meth, c, Q, A, nL, G⟩ := X
  obtain ⟨hx, hb, hml, hown, hts, hK, hA, hR1, hR2, hR3, hR4, hNn⟩ := C
  intro H locs ls hP hD hS hl
  have hnl : nL = nl := M
  exact lv_astore_nN hx hb hd hi hl (hnl ▸ hn) hL (fun ls' hl' => kk H locs ls' hP hD hS hl')
theorem v_ifnonnullN (C : vC X cc own Ts fr lo mR sR) {off : Int} (hd : decode cc pc = .ok (.ifnonnull off, 3))
    (kk : V X k n (pc + 3) L st ws) : V X k n pc L (.null :: st) ws := by
  obtain ⟨p, l, e, R, s, m, args, below, meth, c, Q, A, nL, G⟩ := X
  obtain ⟨hx, hb, hml, hown, hts, hK, hA, hR1, hR2, hR3, hR4, hNn⟩ := C
  intro H locs ls hP hD hS hl
  exact lv_ifnonnullN hx hb hd (kk H locs ls hP hD hS hl)
end Rules5
theorem vcell_q {c : ClassId} {N : Nat} {f g : Int → Option Nat} (h : ∀ j : Int, 0 ≤ j → j < N → f j = g j) : vp_cell c (N, .inr (.inr (.inr (.inr (fQ f))))) = vp_cell c (N, .inr (.inr (.inr (.inr (fQ g))))) := by
  rw [vp_cell_q, vp_cell_q]
  exact arrV_c (fun j hj => by unfold fQ; rw [h j (by omega) (by omega)])
/-- blocks in another order -/
theorem perm_blocks {α : Type} {bs bs' : List α} (is : List Nat) (hs : is.map (fun i => bs[i]?) = bs'.map some) (hn : is.isPerm (List.range bs.length) = true) : bs.Perm bs' := by
  have h1 : is.Perm (List.range bs.length) := List.isPerm_iff.mp hn
  have h2 : (is.map (fun i => bs[i]?)).Perm ((List.range bs.length).map (fun i => bs[i]?)) := h1.map _
  have h3 : (List.range bs.length).map (fun i => bs[i]?) = bs.map some := by
    apply List.ext_getElem
    · simp
    · intro i h4 h5
      simp at h4
      simp [h4]
  rw [hs, h3] at h2
  have h6 := h2.filterMap id
  rw [List.filterMap_map, List.filterMap_map] at h6
  have e : ∀ l : List α, List.filterMap (id ∘ some) l = l := fun l => by
    show List.filterMap some l = l
    exact List.filterMap_some
  rw [e, e] at h6
  exact h6.symm
theorem Sb.bl {ws ws' : va_W} {bs bs' : List va_W} (is : List Nat) (nn : Nat) (h1 : ws = bs.flatten) (h2 : ws' = bs'.flatten) (hs : is.map (fun i => bs[i]?) = bs'.map some) (hl : bs.length = nn) (hn : is.isPerm (List.range nn) = true) : Sb ws ws' := by
  subst h1 h2 hl
  exact Sb.pm (List.Perm.flatten (perm_blocks is hs hn))
theorem fl_app {w1 w2 : va_W} {b1 b2 : List va_W} (h1 : w1 = b1.flatten) (h2 : w2 = b2.flatten) : w1 ++ w2 = (b1 ++ b2).flatten := by rw [h1, h2, List.flatten_append]
theorem fl0 : ([] : va_W) = ([] : List va_W).flatten := rfl
theorem fl1 {a : va_W} : a = [a].flatten := by rw [List.flatten_cons, List.flatten_nil, List.append_nil]
theorem fl2 {a b : va_W} : a ++ b = [a, b].flatten := (fl_app fl1 fl1).trans rfl
theorem fl3 {a b c : va_W} : a ++ b ++ c = [a, b, c].flatten := (fl_app fl2 fl1).trans rfl
theorem fl4 {a b c d : va_W} : a ++ b ++ c ++ d = [a, b, c, d].flatten := (fl_app fl3 fl1).trans rfl
theorem fl5 {a b c d e : va_W} : a ++ b ++ c ++ d ++ e = [a, b, c, d, e].flatten := (fl_app fl4 fl1).trans rfl
theorem fl6 {a b c d e f : va_W} : a ++ b ++ c ++ d ++ e ++ f = [a, b, c, d, e, f].flatten := (fl_app fl5 fl1).trans rfl
theorem fl7 {a b c d e f g : va_W} : a ++ b ++ c ++ d ++ e ++ f ++ g = [a, b, c, d, e, f, g].flatten := (fl_app fl6 fl1).trans rfl
theorem fl8 {a b c d e f g h : va_W} : a ++ b ++ c ++ d ++ e ++ f ++ g ++ h = [a, b, c, d, e, f, g, h].flatten := (fl_app fl7 fl1).trans rfl
theorem fl9 {a b c d e f g h i : va_W} : a ++ b ++ c ++ d ++ e ++ f ++ g ++ h ++ i = [a, b, c, d, e, f, g, h, i].flatten := (fl_app fl8 fl1).trans rfl
theorem fl10 {a b c d e f g h i j : va_W} : a ++ b ++ c ++ d ++ e ++ f ++ g ++ h ++ i ++ j = [a, b, c, d, e, f, g, h, i, j].flatten := (fl_app fl9 fl1).trans rfl
theorem fl11 {a b c d e f g h i j k : va_W} : a ++ b ++ c ++ d ++ e ++ f ++ g ++ h ++ i ++ j ++ k = [a, b, c, d, e, f, g, h, i, j, k].flatten := (fl_app fl10 fl1).trans rfl
theorem fl12 {a b c d e f g h i j k l : va_W} : a ++ b ++ c ++ d ++ e ++ f ++ g ++ h ++ i ++ j ++ k ++ l = [a, b, c, d, e, f, g, h, i, j, k, l].flatten := (fl_app fl11 fl1).trans rfl
theorem fl13 {a b c d e f g h i j k l m : va_W} : a ++ b ++ c ++ d ++ e ++ f ++ g ++ h ++ i ++ j ++ k ++ l ++ m = [a, b, c, d, e, f, g, h, i, j, k, l, m].flatten := (fl_app fl12 fl1).trans rfl
theorem fl14 {a b c d e f g h i j k l m n : va_W} : a ++ b ++ c ++ d ++ e ++ f ++ g ++ h ++ i ++ j ++ k ++ l ++ m ++ n = [a, b, c, d, e, f, g, h, i, j, k, l, m, n].flatten := (fl_app fl13 fl1).trans rfl
theorem fl15 {a b c d e f g h i j k l m n o : va_W} : a ++ b ++ c ++ d ++ e ++ f ++ g ++ h ++ i ++ j ++ k ++ l ++ m ++ n ++ o = [a, b, c, d, e, f, g, h, i, j, k, l, m, n, o].flatten := (fl_app fl14 fl1).trans rfl
theorem fl16 {a b c d e f g h i j k l m n o p : va_W} : a ++ b ++ c ++ d ++ e ++ f ++ g ++ h ++ i ++ j ++ k ++ l ++ m ++ n ++ o ++ p = [a, b, c, d, e, f, g, h, i, j, k, l, m, n, o, p].flatten := (fl_app fl15 fl1).trans rfl
theorem fl17 {a b c d e f g h i j k l m n o p q : va_W} : a ++ b ++ c ++ d ++ e ++ f ++ g ++ h ++ i ++ j ++ k ++ l ++ m ++ n ++ o ++ p ++ q = [a, b, c, d, e, f, g, h, i, j, k, l, m, n, o, p, q].flatten := (fl_app fl16 fl1).trans rfl
theorem fl18 {a b c d e f g h i j k l m n o p q r : va_W} : a ++ b ++ c ++ d ++ e ++ f ++ g ++ h ++ i ++ j ++ k ++ l ++ m ++ n ++ o ++ p ++ q ++ r = [a, b, c, d, e, f, g, h, i, j, k, l, m, n, o, p, q, r].flatten := (fl_app fl17 fl1).trans rfl
theorem fl19 {a b c d e f g h i j k l m n o p q r s : va_W} : a ++ b ++ c ++ d ++ e ++ f ++ g ++ h ++ i ++ j ++ k ++ l ++ m ++ n ++ o ++ p ++ q ++ r ++ s = [a, b, c, d, e, f, g, h, i, j, k, l, m, n, o, p, q, r, s].flatten := (fl_app fl18 fl1).trans rfl
/-- the Lines of a History -/
def hiLs (G : GG) (a : Nat → Nat → Nat) (F : Nat → Int → Int → Int) (K : Nat → Int → Int → Int64) : Nat → va_W
  | 0 => []
  | n + 1 => hiLs G a F K n ++ liW G (a n) (F n) (K n)
def hiRs (G : GG) (a : Nat → Nat → Nat) (F : Nat → Int → Int → Int) (K : Nat → Int → Int → Int64) (i : Nat) : Nat → va_W
  | 0 => []
  | n + 1 => hiRs G a F K i n ++ (if n = i then [] else liW G (a n) (F n) (K n))
def upN {α : Type} (f : Nat → α) (i : Nat) (v : α) : Nat → α := fun j => if j = i then v else f j
theorem upN_s {α : Type} {f : Nat → α} {i : Nat} {v : α} : upN f i v i = v := if_pos rfl
theorem upN_n {α : Type} {f : Nat → α} {i j : Nat} {v : α} (h : j ≠ i) : upN f i v j = f j := if_neg h
variable {G : GG} {a : Nat → Nat → Nat} {F : Nat → Int → Int → Int} {K : Nat → Int → Int → Int64}
theorem hiRs_all {i : Nat} : ∀ n : Nat, n ≤ i → hiRs G a F K i n = hiLs G a F K n := by
  intro n
  induction n with
  | zero => intro _; rfl
  | succ n ih => intro h; show hiRs G a F K i n ++ (if n = i then [] else _) = hiLs G a F K n ++ _; rw [ih (by omega), if_neg (by omega)]
theorem hiLs_perm {i : Nat} : ∀ n : Nat, i < n → (hiLs G a F K n).Perm (liW G (a i) (F i) (K i) ++ hiRs G a F K i n) := by
  intro n
  induction n with
  | zero => intro h; omega
  | succ n ih =>
    intro h
    show (hiLs G a F K n ++ liW G (a n) (F n) (K n)).Perm (_ ++ (hiRs G a F K i n ++ (if n = i then [] else liW G (a n) (F n) (K n))))
    by_cases e : n = i
    · subst e
      rw [if_pos rfl, List.append_nil, hiRs_all n (Nat.le_refl _)]
      exact List.perm_append_comm
    · rw [if_neg e, ← List.append_assoc]
      exact (ih (by omega)).append_right _
theorem hiRs_up {i : Nat} {f : Int → Int → Int} {k : Int → Int → Int64} : ∀ n : Nat, hiRs G a (upN F i f) (upN K i k) i n = hiRs G a F K i n := by
  intro n
  induction n with
  | zero => rfl
  | succ n ih =>
    show hiRs G a (upN F i f) (upN K i k) i n ++ (if n = i then [] else liW G (a n) (upN F i f n) (upN K i k n)) = hiRs G a F K i n ++ (if n = i then [] else liW G (a n) (F n) (K n))
    rw [ih]
    by_cases e : n = i
    · rw [if_pos e, if_pos e]
    · rw [if_neg e, if_neg e, upN_n e, upN_n e]
theorem hiLs_perm' {i : Nat} {f : Int → Int → Int} {k : Int → Int → Int64} {n : Nat} (h : i < n) : (liW G (a i) f k ++ hiRs G a F K i n).Perm (hiLs G a (upN F i f) (upN K i k) n) := by
  have h2 := (hiLs_perm (G := G) (a := a) (F := upN F i f) (K := upN K i k) n h).symm
  rw [hiRs_up, upN_s, upN_s] at h2
  exact h2
theorem Sb.hi {w : va_W} {n : Nat} (i : Nat) (h : i < n) : Sb (w ++ hiLs G a F K n) (w ++ liW G (a i) (F i) (K i) ++ hiRs G a F K i n) := by
  rw [List.append_assoc]
  exact Sb.pm ((hiLs_perm n h).append_left w)
theorem Sb.hj {w : va_W} {n i : Nat} {f : Int → Int → Int} {k : Int → Int → Int64} (h : i < n) : Sb (w ++ liW G (a i) f k ++ hiRs G a F K i n) (w ++ hiLs G a (upN F i f) (upN K i k) n) := by
  rw [List.append_assoc]
  exact Sb.pm ((hiLs_perm' h).append_left w)
theorem upN_id {α : Type} {f : Nat → α} {i : Nat} : upN f i (f i) = f := by
  funext j
  unfold upN
  split
  · rename_i e; rw [e]
  · rfl
/-- the first goes to the end -/
def rotN {α : Type} (f : Nat → α) : Nat → α := fun i => if i = 9 then f 0 else f (i + 1)
theorem hiLs_rot : (hiLs G a F K 10).Perm (hiLs G (rotN a) (rotN F) (rotN K) 10) := by
  have e : ∀ n : Nat, n ≤ 9 → liW G (a 0) (F 0) (K 0) ++ hiLs G (rotN a) (rotN F) (rotN K) n = hiLs G a F K (n + 1) := by
    intro n
    induction n with
    | zero => intro _; show _ ++ [] = [] ++ _; rw [List.append_nil, List.nil_append]
    | succ n ih =>
      intro h
      show _ ++ (hiLs G (rotN a) (rotN F) (rotN K) n ++ liW G (rotN a n) (rotN F n) (rotN K n)) = hiLs G a F K (n + 1) ++ liW G (a (n + 1)) (F (n + 1)) (K (n + 1))
      rw [← List.append_assoc, ih (by omega), show rotN a n = a (n + 1) from if_neg (by omega), show rotN F n = F (n + 1) from if_neg (by omega), show rotN K n = K (n + 1) from if_neg (by omega)]
  rw [← e 9 (Nat.le_refl _)]
  exact List.perm_append_comm
theorem Sb.hrot {w : va_W} : Sb (w ++ hiLs G a F K 10) (w ++ hiLs G (rotN a) (rotN F) (rotN K) 10) := Sb.pm (hiLs_rot.append_left w)
/-- a History: its own two cells -/
def hqF (a : Nat → Nat → Nat) : Int → Option Nat := fun i => some (a i.toNat 0)
def hhW (G : GG) (h q : Nat) (f : Int → Option Nat) (c : Int) : va_W := [(h, .inr (2, [.ref q, vI c])), (q, .inl (G.2 4, 10, .inr (.inr (.inr (.inr (fQ f))))))]
theorem hiLs10 : hiLs G a F K 10 = [liW G (a 0) (F 0) (K 0), liW G (a 1) (F 1) (K 1), liW G (a 2) (F 2) (K 2), liW G (a 3) (F 3) (K 3), liW G (a 4) (F 4) (K 4), liW G (a 5) (F 5) (K 5), liW G (a 6) (F 6) (K 6), liW G (a 7) (F 7) (K 7), liW G (a 8) (F 8) (K 8), liW G (a 9) (F 9) (K 9)].flatten := ((fl_app (fl_app (fl_app (fl_app (fl_app (fl_app (fl_app (fl_app (fl_app (fl_app fl0 fl1) fl1) fl1) fl1) fl1) fl1) fl1) fl1) fl1) fl1)).trans rfl
theorem hiLs_c {a a' : Nat → Nat → Nat} : ∀ n : Nat, (∀ j, j < n → a j = a' j) → hiLs G a F K n = hiLs G a' F K n := by
  intro n
  induction n with
  | zero => intro _; rfl
  | succ n ih =>
    intro h
    show hiLs G a F K n ++ liW G (a n) (F n) (K n) = hiLs G a' F K n ++ liW G (a' n) (F n) (K n)
    rw [ih (fun j hj => h j (by omega)), h n (by omega)]
theorem Sb.ha {w : va_W} {x : Nat → Nat} {f : Int → Int → Int} {k : Int → Int → Int64} {n : Nat} : Sb (w ++ liW G x f k ++ hiLs G a (fun _ => f) (fun _ => k) n) (w ++ hiLs G (upN a n x) (fun _ => f) (fun _ => k) (n + 1)) := by
  have e : hiLs G (upN a n x) (fun _ => f) (fun _ => k) (n + 1) = hiLs G a (fun _ => f) (fun _ => k) n ++ liW G x f k := by
    show hiLs G (upN a n x) (fun _ => f) (fun _ => k) n ++ liW G (upN a n x n) f k = _
    rw [upN_s, hiLs_c n (fun j hj => upN_n (by omega))]
  rw [e, List.append_assoc]
  exact Sb.pm (List.perm_append_comm.append_left w)
end VLay5
