section Tok
/-- the bytes that both hold -/
def BE (bu B : Int → Int) (n : Int) : Prop := sB 129 bu ∧ ∀ j, 0 ≤ j → j < n → bu j = B j
theorem BE.m {bu B : Int → Int} {n m : Int} (h : BE bu B n) (hm : m ≤ n) : BE bu B m := ⟨h.1, fun j a b => h.2 j a (by omega)⟩
theorem by_sp {v : Int} (h : -129 < v ∧ v < 129) : spP v ↔ spP (v % 256) := by unfold spP; omega
theorem by_lt {v : Int} (h : -129 < v ∧ v < 129) : ltP v ↔ ltP (v % 256) := by unfold ltP; omega
theorem by_dg {v : Int} (h : -129 < v ∧ v < 129) : dgP v ↔ dgP (v % 256) := by unfold dgP; omega
theorem skN_cg {p q : Nat → Prop} [DecidablePred p] [DecidablePred q] : ∀ m : Nat, (∀ j, j < m → (p j ↔ q j)) → skN p m = skN q m := by
  intro m
  induction m with
  | zero => exact fun _ => rfl
  | succ m ih =>
    intro h
    have e := ih (fun j hj => h j (by omega))
    have hl := skN_le (p := q) m
    show (if p (skN p m) then skN p m else m + 1) = (if q (skN q m) then skN q m else m + 1)
    rw [e]
    by_cases c : q (skN q m)
    · rw [if_pos c, if_pos ((h _ (by omega)).mpr c)]
    · rw [if_neg c, if_neg (fun g => c ((h _ (by omega)).mp g))]
theorem runE_cg {p : Int → Prop} [DecidablePred p] {bu B : Int → Int} {n s : Int} (hp : ∀ v : Int, -129 < v ∧ v < 129 → (p v ↔ p (v % 256))) (h : BE bu B n) (h0 : 0 ≤ s) : runE p bu n s = runE p (uM B) n s := by
  unfold runE
  congr 2
  refine skN_cg _ (fun j hj => ?_)
  have hj2 : s + (j : Int) < n := by omega
  have e := h.2 (s + j) (by omega) hj2
  have b := h.1 (s + j)
  have t := hp _ b
  unfold uM
  rw [← e]
  constructor
  · intro a g; exact a ⟨g.1, t.mpr g.2⟩
  · intro a g; exact a ⟨g.1, t.mp g.2⟩
/-- every byte of a run is such a byte -/
theorem runE_all {p : Int → Prop} [DecidablePred p] {bu : Int → Int} {n s : Int} {j : Int} (h0 : s ≤ j) (h1 : j < runE p bu n s) : p (bu j) ∧ j < n := by
  obtain ⟨d, rfl⟩ : ∃ d : Nat, j = s + d := ⟨(j - s).toNat, by omega⟩
  unfold runE at h1
  have t := (skN_s (p := fun j : Nat => ¬ (s + (j : Int) < n ∧ p (bu (s + (j : Int))))) (n - s).toNat).1 d (by omega)
  have u := Classical.byContradiction (fun g => t g)
  exact ⟨u.2, u.1⟩
theorem dg_eq {s bu B : Int → Int} {st : Int} {n : Int} (hs3 : s 3 = n) (h : BE bu B n) (h0 : 0 ≤ st) : ∀ k : Nat, k ≤ 3 → st + (k : Int) ≤ runE dgP bu n st → dgM s B st k = dgV bu st k := by
  intro k
  induction k with
  | zero => exact fun _ _ => rfl
  | succ k ih =>
    intro h3 hr
    have e := ih (by omega) (by omega)
    obtain ⟨a, b⟩ := runE_all (p := dgP) (bu := bu) (n := n) (s := st) (j := st + k) (by omega) (by omega)
    show (if k < 3 then 10 * dgM s B st k + bM s B (st + (k : Int)) - 48 else dgM s B st k) = 10 * dgV bu st k + bu (st + (k : Int)) - 48
    rw [if_pos (by omega), e]
    unfold bM
    rw [hs3, if_pos b, ← h.2 _ (by omega) b]
    unfold dgP at a
    omega
/-- both read on: the tokens of class and reference -/
def TA (f s : Int → Int) : Prop := f 7 = 0 ∧ s 8 = 0 ∧ f 1 = s 3 ∧ f 4 = s 4 ∧ f 3 = s 6 ∧ (f 3 ≠ 4 → f 2 = s 5) ∧ (f 3 = 2 → f 5 = s 7) ∧ f 8 = s 17 ∧ f 9 = s 18
theorem nt_eq {f s bu B : Int → Int} (hb : BE bu B (f 1)) (h7 : f 7 = 0) (h8 : s 8 = 0) (e1 : f 1 = s 3) (e2 : f 2 = s 5) (e8 : f 8 = s 17) (e9 : f 9 = s 18) (h0 : 0 ≤ f 2) (hle : f 2 ≤ f 1) : TA (avR f bu) (ntM s B) := by
  have c1 : runE spP bu (f 1) (f 2) = stM s B := by unfold stM; rw [← e1, ← e2]; exact runE_cg (fun v => by_sp) hb h0
  have r := runE_in (p := spP) (bu := bu) hle
  unfold avR ntM
  rw [c1]
  rw [c1] at r
  generalize hst : stM s B = st at r ⊢
  have sm1 : ∀ j, j ≠ 4 → j ≠ 5 → j ≠ 6 → sM1 s B j = s j := fun j a b c => by unfold sM1; rw [up_n c, up_n b, up_n a]
  have s4 : sM1 s B 4 = st := by unfold sM1; rw [up_n (by decide), up_n (by decide), up_s]; exact hst
  have s5 : sM1 s B 5 = st := by unfold sM1; rw [up_n (by decide), up_s]; exact hst
  have sk : ∀ j, j ≠ 2 → j ≠ 4 → skR f bu j = f j := fun j a b => by unfold skR; rw [up_n b, up_n a]
  have k2 : skR f bu 2 = st := by unfold skR; rw [up_n (by decide), up_s]; exact c1.trans hst
  have k4 : skR f bu 4 = st := by unfold skR; rw [up_s]; exact c1.trans hst
  by_cases c : f 1 ≤ st
  · have b1 : bM s B st = -1 := by unfold bM; rw [if_neg (by omega)]
    rw [if_pos c, if_pos b1]
    refine ⟨?_, ?_, ?_, ?_, ?_, fun _ => ?_, fun a => ?_, ?_, ?_⟩
    · rw [up_n (by decide), sk 7 (by decide) (by decide)]; exact h7
    · rw [up_n (by decide), sm1 8 (by decide) (by decide) (by decide)]; exact h8
    · rw [up_n (by decide), up_n (by decide), sk 1 (by decide) (by decide), sm1 3 (by decide) (by decide) (by decide)]; exact e1
    · rw [up_n (by decide), up_n (by decide), k4, s4]
    · rw [up_s, up_s]
    · rw [up_n (by decide), up_n (by decide), k2, s5]
    · rw [up_s] at a; exact absurd a (by decide)
    · rw [up_n (by decide), up_n (by decide), sk 8 (by decide) (by decide), sm1 17 (by decide) (by decide) (by decide)]; exact e8
    · rw [up_n (by decide), up_n (by decide), sk 9 (by decide) (by decide), sm1 18 (by decide) (by decide) (by decide)]; exact e9
  · have hb0 := hb.1 st
    have b1 : bM s B st = bu st % 256 := by unfold bM; rw [if_pos (by omega), hb.2 st (by omega) (by omega)]
    have b2 : ¬ bu st % 256 = -1 := by omega
    rw [if_neg c, b1, if_neg b2]
    have p1 := by_lt hb0
    have p2 := by_dg hb0
    by_cases d : bu st = 59
    · have l1 : ¬ ltP (bu st % 256) := by rw [d]; decide
      have l2 : ¬ dgP (bu st % 256) := by rw [d]; decide
      rw [if_pos d, if_neg l1, if_neg l2, if_pos (by rw [d]; rfl)]
      refine ⟨?_, ?_, ?_, ?_, ?_, fun _ => ?_, fun a => ?_, ?_, ?_⟩
      · rw [up_n (by decide), up_n (by decide), sk 7 (by decide) (by decide)]; exact h7
      · rw [up_n (by decide), up_n (by decide), sm1 8 (by decide) (by decide) (by decide)]; exact h8
      · rw [up_n (by decide), up_n (by decide), up_n (by decide), up_n (by decide), sk 1 (by decide) (by decide), sm1 3 (by decide) (by decide) (by decide)]; exact e1
      · rw [up_n (by decide), up_n (by decide), up_n (by decide), up_n (by decide), k4, s4]
      · rw [up_n (by decide), up_s, up_s]
      · rw [up_s, up_n (by decide), up_s]
      · rw [up_n (by decide), up_s] at a; exact absurd a (by decide)
      · rw [up_n (by decide), up_n (by decide), up_n (by decide), up_n (by decide), sk 8 (by decide) (by decide), sm1 17 (by decide) (by decide) (by decide)]; exact e8
      · rw [up_n (by decide), up_n (by decide), up_n (by decide), up_n (by decide), sk 9 (by decide) (by decide), sm1 18 (by decide) (by decide) (by decide)]; exact e9
    · rw [if_neg d]
      by_cases l : ltP (bu st)
      · have c2 : runE ltP bu (f 1) st = runE ltP (uM B) (s 3) st := by rw [← e1]; exact runE_cg (fun v => by_lt) hb (by omega)
        rw [if_pos l, if_pos (p1.mp l)]
        unfold plR
        rw [sk 1 (by decide) (by decide), k2, k4, c2]
        generalize runE ltP (uM B) (s 3) st = en
        refine ⟨?_, ?_, ?_, ?_, ?_, fun _ => ?_, fun a => ?_, ?_, ?_⟩
        · rw [up_n (by decide), up_n (by decide), sk 7 (by decide) (by decide)]; exact h7
        · rw [up_n (by decide), up_n (by decide), sm1 8 (by decide) (by decide) (by decide)]; exact h8
        · rw [up_n (by decide), up_n (by decide), up_n (by decide), up_n (by decide), sk 1 (by decide) (by decide), sm1 3 (by decide) (by decide) (by decide)]; exact e1
        · rw [up_n (by decide), up_n (by decide), up_n (by decide), up_n (by decide), k4, s4]
        · rw [up_s, up_s]
          by_cases g : en - st ≤ 8
          · rw [if_pos g, if_neg (by omega)]
          · rw [if_neg g, if_pos (by omega)]
        · rw [up_n (by decide), up_s, up_n (by decide), up_s]
        · rw [up_s] at a; exact absurd a (by split <;> decide)
        · rw [up_n (by decide), up_n (by decide), up_n (by decide), up_n (by decide), sk 8 (by decide) (by decide), sm1 17 (by decide) (by decide) (by decide)]; exact e8
        · rw [up_n (by decide), up_n (by decide), up_n (by decide), up_n (by decide), sk 9 (by decide) (by decide), sm1 18 (by decide) (by decide) (by decide)]; exact e9
      · rw [if_neg l, if_neg (fun g => l (p1.mpr g))]
        by_cases g : dgP (bu st)
        · have c2 : runE dgP bu (f 1) st = runE dgP (uM B) (s 3) st := by rw [← e1]; exact runE_cg (fun v => by_dg) hb (by omega)
          have ri := runE_in (p := dgP) (bu := bu) (n := f 1) (s := st) (by omega)
          have dg := dg_eq (s := s) e1.symm hb (st := st) (by omega)
          rw [if_pos g, if_pos (p2.mp g)]
          unfold pdR
          rw [sk 1 (by decide) (by decide), k2, k4, ← c2]
          generalize runE dgP bu (f 1) st = en at ri dg
          refine ⟨?_, ?_, ?_, ?_, ?_, fun _ => ?_, fun a => ?_, ?_, ?_⟩
          · rw [up_n (by decide), up_n (by decide), up_n (by decide), sk 7 (by decide) (by decide)]; exact h7
          · rw [up_n (by decide), up_n (by decide), up_n (by decide), sm1 8 (by decide) (by decide) (by decide)]; exact h8
          · rw [up_n (by decide), up_n (by decide), up_n (by decide), up_n (by decide), up_n (by decide), up_n (by decide), sk 1 (by decide) (by decide), sm1 3 (by decide) (by decide) (by decide)]; exact e1
          · rw [up_n (by decide), up_n (by decide), up_n (by decide), up_n (by decide), up_n (by decide), up_n (by decide), k4, s4]
          · rw [up_s, up_s]
            by_cases g : en - st ≤ 3
            · rw [if_pos g, if_neg (by omega)]
            · rw [if_neg g, if_pos (by omega)]
          · rw [up_n (by decide), up_s, up_n (by decide), up_s]
          · rw [up_s] at a
            have a2 : ¬ 3 < en - st := fun x => by rw [if_pos x] at a; exact absurd a (by decide)
            rw [up_n (by decide), up_n (by decide), up_s, up_n (by decide), up_n (by decide), up_s]
            exact (dg _ (by omega) (by omega)).symm
          · rw [up_n (by decide), up_n (by decide), up_n (by decide), up_n (by decide), up_n (by decide), up_n (by decide), sk 8 (by decide) (by decide), sm1 17 (by decide) (by decide) (by decide)]; exact e8
          · rw [up_n (by decide), up_n (by decide), up_n (by decide), up_n (by decide), up_n (by decide), up_n (by decide), sk 9 (by decide) (by decide), sm1 18 (by decide) (by decide) (by decide)]; exact e9
        · rw [if_neg g, if_neg (fun x => g (p2.mpr x)), if_neg (by omega)]
          refine ⟨?_, ?_, ?_, ?_, ?_, fun a => ?_, fun a => ?_, ?_, ?_⟩
          · rw [up_n (by decide), sk 7 (by decide) (by decide)]; exact h7
          · rw [up_n (by decide), up_n (by decide), sm1 8 (by decide) (by decide) (by decide)]; exact h8
          · rw [up_n (by decide), up_n (by decide), up_n (by decide), sk 1 (by decide) (by decide), sm1 3 (by decide) (by decide) (by decide)]; exact e1
          · rw [up_n (by decide), up_n (by decide), up_n (by decide), k4, s4]
          · rw [up_s, up_s]
          · rw [up_s] at a; exact absurd rfl a
          · rw [up_s] at a; exact absurd a (by decide)
          · rw [up_n (by decide), up_n (by decide), up_n (by decide), sk 8 (by decide) (by decide), sm1 17 (by decide) (by decide) (by decide)]; exact e8
          · rw [up_n (by decide), up_n (by decide), up_n (by decide), sk 9 (by decide) (by decide), sm1 18 (by decide) (by decide) (by decide)]; exact e9
end Tok
