section Worst
/-- the same Line with another frame that is lost too -/
def foZ (f : Int) (Y : Int → Int → Int) : Int → Int → Int := up Y 0 (up (Y 0) 9 f)
def PS (f : Int) (X Y : Int → Int → Int) : Prop := (∀ i, i ≠ 0 → X i = Y i) ∧ (∀ j, j ≠ 9 → X 0 j = Y 0 j) ∧ X 0 9 = f
def P0 (f : Int) (g h : Int → Int) : Prop := (∀ j, j ≠ 9 → g j = h j) ∧ g 9 = f
theorem P0.u {f i v : Int} {g h : Int → Int} (hi : i ≠ 9) (p : P0 f g h) : P0 f (up g i v) (up h i v) := by
  refine ⟨fun j hj => ?_, by rw [up_n (Ne.symm hi)]; exact p.2⟩
  unfold up
  split
  · rfl
  · exact p.1 j hj
theorem PS.p {f : Int} {X Y : Int → Int → Int} (h : PS f X Y) : P0 f (X 0) (Y 0) := h.2
theorem PS.u {f k : Int} {X Y : Int → Int → Int} {g : Int → Int} (hk : k ≠ 0) (h : PS f X Y) : PS f (up X k g) (up Y k g) := by
  refine ⟨fun i hi => ?_, fun j hj => ?_, ?_⟩
  · unfold up
    split
    · rfl
    · exact h.1 i hi
  · rw [up_n (Ne.symm hk), up_n (Ne.symm hk)]; exact h.2.1 j hj
  · rw [up_n (Ne.symm hk)]; exact h.2.2
theorem PS.z {f : Int} {X Y : Int → Int → Int} {g g' : Int → Int} (h : PS f X Y) (p : P0 f g g') : PS f (up X 0 g) (up Y 0 g') := by
  refine ⟨fun i hi => ?_, fun j hj => ?_, ?_⟩
  · rw [up_n hi, up_n hi]; exact h.1 i hi
  · rw [up_s, up_s]; exact p.1 j hj
  · rw [up_s]; exact p.2
theorem PS.rf {f : Int} {Y : Int → Int → Int} : PS f (foZ f Y) Y := by
  refine ⟨fun i hi => up_n hi, fun j hj => ?_, ?_⟩
  · unfold foZ; rw [up_s, up_n hj]
  · unfold foZ; rw [up_s, up_s]
theorem PS.eq {f : Int} {X Y : Int → Int → Int} (h : PS f X Y) : X = foZ f Y := by
  funext i
  by_cases hi : i = 0
  · subst hi
    funext j
    unfold foZ
    rw [up_s]
    by_cases hj : j = 9
    · subst hj; rw [up_s]; exact h.2.2
    · rw [up_n hj]; exact h.2.1 j hj
  · unfold foZ
    rw [up_n hi]; exact h.1 i hi
theorem PS_sd {f n z : Int} {X Y : Int → Int → Int} (h : PS f X Y) : PS f (sdL n z X) (sdL n z Y) := by
  have e1 := h.1 1 (by decide)
  have e2 := h.1 2 (by decide)
  have e5 := h.1 5 (by decide)
  have q1 := h.2.1 1 (by decide)
  have q2 := h.2.1 2 (by decide)
  unfold sdL
  rw [e1, e2, e5, q1, q2]
  (repeat' split) <;>
    (repeat first
      | exact h
      | exact h.p
      | apply P0.u (by decide)
      | apply PS.u (by decide)
      | apply PS.z)
theorem PS_st {f z : Int} {X Y : Int → Int → Int} (h : PS f X Y) : PS f (stLn z X) (stLn z Y) := by
  have e1 := h.1 1 (by decide)
  have e2 := h.1 2 (by decide)
  have e5 := h.1 5 (by decide)
  have q1 := h.2.1 1 (by decide)
  have q5 := h.2.1 5 (by decide)
  have q6 := h.2.1 6 (by decide)
  unfold stLn
  rw [e1, e2, e5, q1, q5, q6]
  (repeat' split) <;>
    (repeat first
      | exact h
      | exact h.p
      | apply P0.u (by decide)
      | apply PS.u (by decide)
      | apply PS.z)
theorem foZ_sp {f : Int} {K : Int → Int → Int64} {Y : Int → Int → Int} (hl : lsL (foZ f Y) K = lsL Y K) : spL K (foZ f Y) = foZ f (spL K Y) := by
  refine PS.eq ?_
  have eD : isDL (foZ f Y) ↔ isDL Y := Iff.rfl
  have en : nuL (foZ f Y) = nuL Y := rfl
  have ed : dlL (foZ f Y) = dlL Y := rfl
  have ep : pbL (foZ f Y) K = pbL Y K := rfl
  have e5 : foZ f Y 5 = Y 5 := rfl
  unfold spL
  rw [hl, en, ed, ep, e5]
  by_cases z : lsL Y K = 0
  · rw [if_pos z, if_pos z]
    by_cases c : isDL Y
    · rw [if_pos (eD.mpr c), if_pos c]; exact PS_sd (PS.u (by decide) PS.rf)
    · rw [if_neg (fun x => c (eD.mp x)), if_neg c]; exact PS_st (PS.u (by decide) PS.rf)
  · rw [if_neg z, if_neg z]
    by_cases c : isDL Y
    · rw [if_pos (eD.mpr c), if_pos c]; exact PS_sd (PS.u (by decide) PS.rf)
    · rw [if_neg (fun x => c (eD.mp x)), if_neg c]; exact PS_st (PS.u (by decide) PS.rf)
theorem foZ_lr {f : Int} {Y : Int → Int → Int} : lrL (foZ f Y) = foZ f (lrL Y) := PS.eq (by
  have e1 : foZ f Y 1 = Y 1 := rfl
  have e2 : foZ f Y 2 = Y 2 := rfl
  unfold lrL
  rw [e1, e2]
  exact PS.u (by decide) (PS.u (by decide) PS.rf))
theorem rdL_1 {Y : Int → Int → Int} : rdL 1 Y = lrL Y := if_neg (by decide)
theorem foZ_it {f : Int} {K : Int → Int → Int64} {F : Int → Int → Int} : ∀ n : Nat, (∀ j : Nat, j < n → itL 1 K F j 5 0 ≠ f ∧ itL 1 K F j 5 0 ≠ itL 1 K F j 0 9) → itL 1 K (foZ f F) n = foZ f (itL 1 K F n) := by
  intro n
  induction n with
  | zero => intro _; rfl
  | succ n ih =>
    intro h
    have hn := h n (by omega)
    show spL K (rdL 1 (itL 1 K (foZ f F) n)) = foZ f (spL K (rdL 1 (itL 1 K F n)))
    rw [ih (fun j hj => h j (by omega)), rdL_1, rdL_1, foZ_lr]
    refine foZ_sp ?_
    unfold lsL
    rw [show foZ f (lrL (itL 1 K F n)) 5 0 = itL 1 K F n 5 0 from rfl, show foZ f (lrL (itL 1 K F n)) 0 9 = f from rfl, show lrL (itL 1 K F n) 5 0 = itL 1 K F n 5 0 from rfl, show lrL (itL 1 K F n) 0 9 = itL 1 K F n 0 9 from rfl]
    by_cases c : tlL (K 2) (itL 1 K F n 5 0)
    · rw [if_pos (Or.inl c), if_pos (Or.inl c)]
    · rw [if_neg (fun x => x.elim c hn.1), if_neg (fun x => x.elim c hn.2)]
theorem itL_add {rd : Int} {K : Int → Int → Int64} {F : Int → Int → Int} {n : Nat} : ∀ m : Nat, itL rd K (itL rd K F n) m = itL rd K F (n + m) := by
  intro m
  induction m with
  | zero => rfl
  | succ m ih =>
    show spL K (rdL rd (itL rd K (itL rd K F n) m)) = spL K (rdL rd (itL rd K F (n + m)))
    rw [ih]
theorem lr_lr {Y : Int → Int → Int} : lrL (lrL Y) = lrL Y := by
  funext i
  unfold lrL
  by_cases i2 : i = 2
  · subst i2
    rw [up_s, up_s]
    funext j
    by_cases j2 : j = 2
    · subst j2; rw [up_s, up_s]; rfl
    · rw [up_n j2]
  · by_cases i1 : i = 1
    · subst i1
      funext j
      by_cases j2 : j = 2
      · subst j2; rfl
      · show up (up (Y 1) 2 (Y 1 1)) 2 (up (Y 1) 2 (Y 1 1) 1) j = up (Y 1) 2 (Y 1 1) j
        rw [up_n j2]
    · rw [up_n i2, up_n i1]
theorem itL_lr {K : Int → Int → Int64} {Y : Int → Int → Int} : ∀ m : Nat, itL 1 K (lrL Y) (m + 1) = itL 1 K Y (m + 1) := by
  intro m
  induction m with
  | zero =>
    show spL K (rdL 1 (lrL Y)) = spL K (rdL 1 Y)
    rw [rdL_1, rdL_1, lr_lr]
  | succ m ih =>
    show spL K (rdL 1 (itL 1 K (lrL Y) (m + 1))) = spL K (rdL 1 (itL 1 K Y (m + 1)))
    rw [ih]
/-- what the runs of worstFrame are -/
theorem woT_it {K : Int → Int → Int64} {F : Int → Int → Int} {n : Nat} {f : Int} (hf : itL 1 K F n 5 0 = f) (h : ∀ j : Nat, j < n → itL 1 K F j 5 0 ≠ f ∧ itL 1 K F j 5 0 ≠ itL 1 K F j 0 9) : woT K F n = lrL (itL 1 K (foZ f F) n) := by
  rw [foZ_it n h, foZ_lr]
  unfold woT foZ
  rw [show lrL (itL 1 K F n) 5 0 = itL 1 K F n 5 0 from rfl, hf]
theorem woT_ov {K : Int → Int → Int64} {F : Int → Int → Int} {n : Nat} {f : Int} (hw : woT K F n = lrL (itL 1 K (foZ f F) n)) (m : Nat) : ovL (itL 1 K (woT K F n) m) ↔ ovL (itL 1 K (foZ f F) (n + m)) := by
  rw [hw]
  cases m with
  | zero => exact Iff.rfl
  | succ m => rw [itL_lr, itL_add]
theorem woT_en {K : Int → Int → Int64} {F : Int → Int → Int} {n : Nat} {f : Int} (hn : n < 601) (hw : woT K F n = lrL (itL 1 K (foZ f F) n)) (hno : ∀ j : Nat, j < n → ¬ ovL (itL 1 K (foZ f F) j)) : enK 1 K (foZ f F) 600 = n + enK 1 K (woT K F n) (600 - (n : Int)) := by
  have s := skN_s (p := fun j => ovL (itL 1 K (woT K F n) j)) (600 - (n : Int) + 1).toNat
  have l := skN_le (p := fun j => ovL (itL 1 K (woT K F n) j)) (600 - (n : Int) + 1).toNat
  have ek : enK 1 K (woT K F n) (600 - (n : Int)) = skN (fun j => ovL (itL 1 K (woT K F n) j)) (600 - (n : Int) + 1).toNat := rfl
  rw [← ek] at s l
  generalize enK 1 K (woT K F n) (600 - (n : Int)) = k at s l ⊢
  have e6 : (600 + 1 : Int).toNat = 601 := rfl
  have u := skN_u (p := fun j => ovL (itL 1 K (foZ f F) j)) 601 (n + k) (fun j hj x => by
    by_cases c : j < n
    · exact hno j c x
    · refine s.1 (j - n) (by omega) ((woT_ov hw (j - n)).mpr ?_)
      rw [show n + (j - n) = j by omega]; exact x) (by omega) (by
    rcases s.2 with x | x
    · exact Or.inl ((woT_ov hw k).mp x)
    · exact Or.inr (by omega))
  exact u.symm
end Worst
