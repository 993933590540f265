section Chg2
theorem GOOD_los {F : Int → Int → Int} {K : Int → Int → Int64} {σ : Int → Int} (h : GOOD F K σ) {f : Int} (hf : 0 ≤ f ∧ f < 2000) (h3 : ¬ f < σ 3) (hl : lz σ f = 0) (h40 : σ 7 < 40) : GOOD (tLF K f F) (tLK f K) (up (up σ (400 + σ 7) f) 7 (σ 7 + 1)) := by
  have hnt : ¬ tlL (K 2) f := fun a => (h.2.2.2.2.2.2.2.2 f hf.1).mp a hl
  have eF : tLF K f F = up F 0 (up (F 0) 7 (F 0 7 + 1)) := if_pos ⟨hf, hnt⟩
  have eK : tLK f K = up K 2 (up (K 2) (f / 64) (orB (K 2 (f / 64)) (f % 64))) := if_pos ⟨hf, hnt⟩
  rw [eF, eK]
  obtain ⟨⟨r1, r2, r3, r4⟩, j, e4, e7, e3, et, e9, ee, el⟩ := h
  have h7 : 0 ≤ σ 7 := j.1.2.2.2.2.2.1
  have u : ∀ i, i ≠ 7 → (i < 400 ∨ 441 ≤ i) → up (up σ (400 + σ 7) f) 7 (σ 7 + 1) i = σ i := fun i c d => by rw [up_n c, up_n (by omega)]
  have w : ∀ i, i ≠ 7 → up F 0 (up (F 0) 7 (F 0 7 + 1)) 0 i = F 0 i := fun i c => by rw [up_s, up_n c]
  have w1 : ∀ i, i ≠ 0 → up F 0 (up (F 0) 7 (F 0 7 + 1)) i = F i := fun i c => up_n c
  have lzu : ∀ g, lz (up (up σ (400 + σ 7) f) 7 (σ 7 + 1)) g = if f = g then 1 else lz σ g := fun g => lz_app h7
  have told : ∀ g, tlL (up K 2 (up (K 2) (f / 64) (orB (K 2 (f / 64)) (f % 64))) 2) g ↔ tlL (K 2) g ∨ g = f := fun g => by rw [up_s]; exact tlL_or hf
  have lz2 : ∀ g, (¬ lz (up (up σ (400 + σ 7) f) 7 (σ 7 + 1)) g = 0) ↔ (¬ lz σ g = 0 ∨ g = f) := fun g => by
    rw [lzu]
    split
    · rename_i c; exact ⟨fun _ => Or.inr c.symm, fun _ => by decide⟩
    · rename_i c; exact ⟨Or.inl, fun a => a.elim id (fun e => absurd e.symm c)⟩
  obtain ⟨⟨a1, a2, a3, a4, a5⟩, b, c, d⟩ := r1
  refine ⟨⟨⟨⟨?_, ?_, ?_, ?_, ?_⟩, ?_, ?_, ?_⟩, ?_, ?_, ?_⟩, J_told j e7 ⟨by omega, by omega⟩, ?_, ?_, ?_, ?_, ?_, ?_, ?_⟩
  · rw [w 1 (by decide), u 1 (by decide) (by decide)]; exact a1
  · rw [w 2 (by decide), u 2 (by decide) (by decide)]; exact a2
  · rw [w 4 (by decide), u 4 (by decide) (by decide)]; exact a3
  · rw [w 5 (by decide), u 5 (by decide) (by decide)]; exact a4
  · rw [w 6 (by decide), u 6 (by decide) (by decide)]; exact a5
  · intro i i0 i1; rw [w1 1 (by decide), u _ (by omega) (by omega)]; exact b i i0 i1
  · intro i i0 i1; rw [w1 2 (by decide), u _ (by omega) (by omega)]; exact c i i0 i1
  · intro i i0 i1; rw [w1 5 (by decide), u _ (by omega) (by omega)]; exact d i i0 i1
  · have t := RT_t (X := up F 0 (up (F 0) 7 (F 0 7 + 1))) (τ := up (up σ (400 + σ 7) f) 7 (σ 7 + 1)) r2 j (w1 3 (by decide)) (w1 4 (by decide)) (fun i c => u i (by omega) (by omega))
    exact t
  · intro g hg
    rw [u 3 (by decide) (by decide)] at hg
    rw [told, lz2, w 9 (by decide)]
    have r := r3 g hg
    constructor
    · intro a
      rcases a with (a | a) | a
      · exact Or.inl (r.mp (Or.inl a))
      · exact Or.inr a
      · exact Or.inl (r.mp (Or.inr a))
    · intro a
      rcases a with a | a
      · rcases r.mpr a with a | a
        · exact Or.inl (Or.inl a)
        · exact Or.inr a
      · exact Or.inl (Or.inr a)
  · refine ⟨fun i => ?_, fun i => ?_, fun i i2 c => ?_⟩
    · rw [w1 3 (by decide)]; exact r4.1 i
    · rw [w1 4 (by decide)]; exact r4.2.1 i
    · by_cases e : i = 0
      · rw [e, up_s]
        by_cases e2 : i2 = 7
        · rw [e2, up_s, ee]; exact ⟨by omega, by omega⟩
        · rw [up_n e2]; rw [e] at c; exact r4.2.2 0 i2 c
      · rw [up_n e]; exact r4.2.2 i i2 c
  · rw [u 4 (by decide) (by decide)]; exact e4
  · rw [up_s]; omega
  · rw [u 3 (by decide) (by decide)]; exact e3
  · intro i a b
    rw [up_s] at b
    rw [up_n (by omega)]
    by_cases c : i = σ 7
    · rw [c, up_s]; exact hf
    · rw [up_n (by omega)]; exact et i a (by omega)
  · rw [w 9 (by decide)]; exact e9
  · rw [up_s, up_s, up_s, ee]
  · intro g hg
    rw [told, lz2, el g hg]
/-- the class's byte of a long and the reference's -/
theorem byB_c (b : Int64) (k : Int) : byB b k = cB0 b k % 256 := by
  have e : ∀ x : Int64, (x &&& 255).toInt32.toInt = x.toInt32.toInt % 256 := by
    intro x
    have e1 : (x &&& 255).toInt32 = x.toInt32 &&& iI 255 := by
      rw [Int64.toInt32_and]
      rfl
    rw [e1, ← iI_of x.toInt32, iI_and255, iI_toInt, iI_toInt (sm_of _)]
    have m0 := Int.emod_nonneg x.toInt32.toInt (show (256 : Int) ≠ 0 by decide)
    have m1 := Int.emod_lt_of_pos x.toInt32.toInt (show (0 : Int) < 256 by decide)
    exact ⟨by omega, by omega⟩
  exact e _
theorem byB_in (b : Int64) (k : Int) : 0 ≤ byB b k ∧ byB b k ≤ 255 := by
  rw [byB_c]
  have m0 := Int.emod_nonneg (cB0 b k) (show (256 : Int) ≠ 0 by decide)
  have m1 := Int.emod_lt_of_pos (cB0 b k) (show (0 : Int) < 256 by decide)
  exact ⟨m0, by omega⟩
theorem putB_at {b : Int64} {s m : Int} {σ : Int → Int} : ∀ (n : Nat) (j : Int), putB b s m σ n j = if 80 + 8 * (20 * s + m) ≤ j ∧ j < 80 + 8 * (20 * s + m) + n then byB b (j - (80 + 8 * (20 * s + m))) else σ j := by
  intro n
  induction n with
  | zero => intro j; rw [if_neg (by omega)]; rfl
  | succ n ih =>
    intro j
    show up (putB b s m σ n) ((80 + (8 * ((20 * s) + m))) + (n : Int)) (byB b (n : Int)) j = _
    by_cases c : j = (80 + (8 * ((20 * s) + m))) + (n : Int)
    · rw [c, up_s, if_pos (by omega)]
      congr 1
      omega
    · rw [up_n c, ih]
      by_cases d : 80 + 8 * (20 * s + m) ≤ j ∧ j < 80 + 8 * (20 * s + m) + n
      · rw [if_pos d, if_pos (by omega)]
      · rw [if_neg d, if_neg (by omega)]
end Chg2
