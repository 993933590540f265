section Pure4
theorem arrV_c {c : ClassId} {N : Nat} {f g : Nat → Value} (h : ∀ j, j < N → f j = g j) : arrV c N f = arrV c N g := by
  unfold arrV
  have : (fun j : Fin N => f j.val) = fun j => g j.val := funext fun j => h j.val j.isLt
  rw [this]
theorem vcell_i {c : ClassId} {N : Nat} {f g : Int → Int} (h : ∀ j : Int, 0 ≤ j → j < N → f j = g j) : vp_cell c (N, .inl (fI f)) = vp_cell c (N, .inl (fI g)) := by
  rw [vp_cell_i, vp_cell_i]
  exact arrV_c (fun j hj => by unfold fI; rw [h j (by omega) (by omega)])
theorem vcell_l {c : ClassId} {N : Nat} {f g : Int → Int64} (h : ∀ j : Int, 0 ≤ j → j < N → f j = g j) : vp_cell c (N, .inr (.inl (fL f))) = vp_cell c (N, .inr (.inl (fL g))) := by
  rw [vp_cell_l, vp_cell_l]
  exact arrV_c (fun j hj => by unfold fL; rw [h j (by omega) (by omega)])
theorem Sb.cell {ws ws' : va_W} (q : Nat) {a : Nat} {e e' : ClassId × vp_A} (h : ws[q]? = some (a, .inl e)) (he : vp_cell e.1 e.2 = vp_cell e'.1 e'.2) (hw : ws.set q (a, .inl e') = ws') : Sb ws ws' := by
  subst hw
  refine ⟨fun D cl H hP k z hz => ?_, fun A hD => hD.set h⟩
  rw [List.getElem?_set] at hz
  split at hz
  · rename_i hk
    split at hz
    · cases hz
      have := hP q _ h
      show H[a]? = some (vp_cell e'.1 e'.2)
      rw [← he]
      exact this
    · cases hz
  · exact hP k z hz
theorem Sb.arr {ws ws' : va_W} (q : Nat) {a : Nat} {c : ClassId} {N : Nat} {f g : Int → Int} (h : ws[q]? = some (a, .inl (c, N, .inl (fI f)))) (e : ∀ j : Int, 0 ≤ j → j < N → f j = g j) (hw : ws.set q (a, .inl (c, N, .inl (fI g))) = ws') : Sb ws ws' := Sb.cell (e' := (c, N, .inl (fI g))) q h (vcell_i e) hw
theorem cpF_in {fa fb : Int → Int} {j : Int} (h0 : 0 ≤ j) (h1 : j < 441) : cpF fa fb 0 0 441 j = fa j := by
  unfold cpF
  rw [if_pos (by omega)]
  congr 1
  omega
def itF (r : Int) (σ : Int → Int) : Nat → Int → Int
  | 0 => σ
  | n + 1 => stepF r (itF r σ n)
/-- what a step needs of now -/
def OKs (σ : Int → Int) : Prop := (σ 1 = 0 ∨ σ 1 = 1) ∧ sB 1000000 σ ∧ (0 ≤ σ 7 ∧ σ 7 ≤ 41) ∧ (isDataP σ → 0 ≤ σ (18 + 11 * σ 1 + 6) + σ 2 ∧ σ (18 + 11 * σ 1 + 6) + σ 2 < 20) ∧ (isDataP σ → 0 ≤ dl σ ∧ dl σ ≤ 8)
def gs1 (rd b : Int) (σ : Int → Int) : Int → Int := if rd = 0 then up σ 4 b else rdF (up σ 4 b)
def gsF (rd lost b : Int) (σ : Int → Int) : Int → Int := if lost < gs1 rd b σ 3 then gs1 rd b σ else if lz (gs1 rd b σ) lost = 0 then up (up (gs1 rd b σ) (400 + gs1 rd b σ 7) lost) 7 (gs1 rd b σ 7 + 1) else gs1 rd b σ
theorem gs1_at {rd b : Int} {σ : Int → Int} {j : Int} (h4 : j ≠ 4) (h20 : j ≠ 20) (h31 : j ≠ 31) : gs1 rd b σ j = σ j := by
  unfold gs1 rdF
  split
  · rw [up_n h4]
  · rw [up_n h31, up_n h20, up_n h4]
theorem gs1_B {rd b : Int} {σ : Int → Int} (h : sB 1000000 σ) (hb : 0 ≤ b ∧ b ≤ 7) : sB 1000000 (gs1 rd b σ) := by
  have h1 : sB 1000000 (up σ 4 b) := sB_up h ⟨by omega, by omega⟩
  unfold gs1
  split
  · exact h1
  · exact rdF_B h1
/-- the first step at which all is accepted, of the steps k, k + 1 .. k + n; k + n if there is none -/
def goS (r : Int) (σ : Int → Int) : Nat → Nat → Nat
  | 0, k => k
  | n + 1, k => if isOverP (itF r σ k) then k else goS r σ n (k + 1)
def goK (r : Int) (σ : Int → Int) : Nat := goS r σ 600 0
theorem goS_u {r : Int} {σ : Int → Int} : ∀ (n i k : Nat), i ≤ k → k ≤ i + n → (∀ j : Nat, i ≤ j → j < k → ¬ isOverP (itF r σ j)) → (isOverP (itF r σ k) ∨ k = i + n) → k = goS r σ n i := by
  intro n
  induction n with
  | zero => intro i k h1 h2 _ _; show k = i; omega
  | succ n ih =>
    intro i k h1 h2 hno hov
    show k = if isOverP (itF r σ i) then i else goS r σ n (i + 1)
    by_cases e : isOverP (itF r σ i)
    · rw [if_pos e]
      rcases Nat.lt_or_ge i k with h | h
      · exact absurd e (hno i (Nat.le_refl _) h)
      · omega
    · rw [if_neg e]
      have hne : i ≠ k := by
        intro h
        subst h
        rcases hov with h | h
        · exact e h
        · omega
      exact ih (i + 1) k (by omega) (by omega) (fun j a b => hno j (by omega) b) (by rcases hov with h | h; exact Or.inl h; exact Or.inr (by omega))
theorem goK_u {r : Int} {σ : Int → Int} {k : Nat} (hk : k ≤ 600) (hno : ∀ j : Nat, j < k → ¬ isOverP (itF r σ j)) (hov : isOverP (itF r σ k) ∨ k = 600) : k = goK r σ :=
  goS_u 600 0 k (Nat.zero_le _) (by omega) (fun j _ h => hno j h) (by rcases hov with h | h; exact Or.inl h; exact Or.inr (by omega))
/-- what the runs of a forecast need -/
def GOk (rd lost b : Int) (σ : Int → Int) : Prop := (∀ k : Nat, k < 600 → OKs (itF rd (gsF rd lost b σ) k)) ∧ (∀ k : Nat, k ≤ 600 → sB 1000000 (itF rd (gsF rd lost b σ) k)) ∧ ∀ k : Nat, k ≤ 600 → itF rd (gsF rd lost b σ) k 3 = σ 3 + k
/-- the end of a forecast: whether all is accepted, its ticks, its frames -/
abbrev goO (rd lost b : Int) (σ : Int → Int) : Prop := isOverP (itF rd (gsF rd lost b σ) (goK rd (gsF rd lost b σ)))
def goT (rd lost b : Int) (σ : Int → Int) : Int := itF rd (gsF rd lost b σ) (goK rd (gsF rd lost b σ)) 0 - σ 0
def goN (rd lost b : Int) (σ : Int → Int) : Int := (goK rd (gsF rd lost b σ) : Int)
theorem goN_in {rd lost b : Int} {σ : Int → Int} : 0 ≤ goN rd lost b σ ∧ goN rd lost b σ ≤ 600 := by
  have : ∀ n k : Nat, goS rd (gsF rd lost b σ) n k ≤ k + n := by
    intro n
    induction n with
    | zero => intro k; exact Nat.le_refl _
    | succ n ih =>
      intro k
      show (if isOverP _ then k else goS rd _ n (k + 1)) ≤ _
      split
      · omega
      · have := ih (k + 1); omega
  have h := this 600 0
  unfold goN goK
  exact ⟨by omega, by omega⟩
theorem goT_in {rd lost b : Int} {σ : Int → Int} (hs : sB 1000000 σ) (h : GOk rd lost b σ) : -2000000 < goT rd lost b σ ∧ goT rd lost b σ < 2000000 := by
  have hk := goN_in (rd := rd) (lost := lost) (b := b) (σ := σ)
  unfold goN at hk
  have h1 := h.2.1 (goK rd (gsF rd lost b σ)) (by omega) 0
  have h2 := hs 0
  unfold goT
  exact ⟨by omega, by omega⟩
/-- delayOf -/
def deF (f : Int) (σ : Int → Int) : Int := if goO 1 (-1) (σ 4) σ then (if goO 1 f (σ 4) σ then goT 1 f (σ 4) σ - goT 1 (-1) (σ 4) σ else -10001) else -10001
end Pure4
