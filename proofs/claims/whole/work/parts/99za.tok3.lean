section Tok3
theorem eqK_cg {bu B : Int → Int} {s : Int} {b : List Int32} : ∀ n : Nat, (∀ j : Nat, j < n → bu (s + (j : Int)) = B (s + (j : Int))) → eqK bu s b n = eqK B s b n := by
  intro n
  induction n with
  | zero => exact fun _ => rfl
  | succ n ih =>
    intro h
    have e := ih (fun j hj => h j (by omega))
    have e2 := h n (by omega)
    simp only [eqK]
    rw [e, e2]
theorem wd_eq {f s bu B : Int → Int} {b : List Int32} (ho : RO f) (hb : BE bu B (f 1)) (h : TA f s) : isWd f bu b ↔ wdM s B b := by
  obtain ⟨a1, a2, a3, a4, a5, a6, a7, a8, a9⟩ := h
  have o := ho.1
  constructor
  · rintro ⟨c1, c2, c3⟩
    have e2 := a6 (by rw [c1]; decide)
    refine ⟨a2, by rw [← a5]; exact c1, by rw [← e2, ← a4]; exact c2, ?_⟩
    rw [← a4, ← eqK_cg (bu := bu) _ (fun j hj => hb.2 _ (by omega) (by omega))]
    exact c3
  · rintro ⟨_, c1, c2, c3⟩
    rw [← a5] at c1
    have e2 := a6 (by rw [c1]; decide)
    rw [← e2, ← a4] at c2
    refine ⟨c1, c2, ?_⟩
    rw [eqK_cg (B := B) _ (fun j hj => hb.2 _ (by omega) (by omega)), a4]
    exact c3
end Tok3
section Tok4
theorem mu_1 {s : Int → Int} {k : Int} : muM s 1 k = s := if_neg (by decide)
theorem mu_0 {s : Int → Int} {k : Int} : muM s 0 k = fM s k := if_pos rfl
theorem go_a {s B : Int → Int} (h : s 8 = 0) : goM s B = ntM s B := if_pos h
/-- the first word of a text -/
theorem tw_TR {f s bu B : Int → Int} {b : List Int32} (ho : RO f) (hb : BE bu B (f 1)) (h : TA f s) : TR (twR f bu b) (goM (muM s (bI (wdM s B b)) 1) B) := by
  have w := wd_eq (b := b) ho hb h
  unfold twR
  by_cases c : isWd f bu b
  · rw [if_pos c, bI_t (w.mp c), mu_1, go_a h.2.1]
    exact Or.inl (nt_TA ho hb h (by rw [c.1]; decide))
  · have t := fl_TD (k := 1) h.1 h.2.1 h.2.2.2.1 ho.1.1 (by decide)
    rw [if_neg c, bI_f (fun g => c (w.mpr g)), mu_0, TD_go t.2.1]
    exact Or.inr t
end Tok4
