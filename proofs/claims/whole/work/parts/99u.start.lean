section Start
def S0 : Int → Int := up (up (up (up (emF (Z0 2)) 4 3) 5 20) 25 ((up (up (emF (Z0 2)) 4 3) 5 20) 32)) 36 ((up (up (emF (Z0 2)) 4 3) 5 20) 21)
theorem S0_at (j : Int) : S0 j = if j = 36 then 4 else if j = 25 then 4 else if j = 5 then 20 else if j = 4 then 3 else if j = 32 then 4 else if j = 21 then 4 else 0 := by
  have z : zrF (Z0 2) 441 = fun _ => 0 := by
    funext i
    show (if 0 ≤ i ∧ i < 441 then (0 : Int) else 0) = 0
    split <;> rfl
  have e : emF (Z0 2) = up (up (fun _ => 0) 21 4) 32 4 := by unfold emF; rw [z]
  unfold S0
  rw [e]
  have e21 : up (up (up (up (fun _ => (0 : Int)) 21 4) 32 4) 4 3) 5 20 21 = 4 := rfl
  have e32 : up (up (up (up (fun _ => (0 : Int)) 21 4) 32 4) 4 3) 5 20 32 = 4 := rfl
  rw [e21, e32]
  rfl
theorem J_S0 : J S0 := by
  have P := S0_at
  have o : ∀ j, 37 ≤ j ∨ j < 0 → S0 j = 0 := fun j c => by
    rw [P, if_neg (by omega), if_neg (by omega), if_neg (by omega), if_neg (by omega), if_neg (by omega), if_neg (by omega)]
  refine ⟨?_, ?_, ?_, ?_, ?_, ⟨fun j a b => ?_, fun j a b => ?_, fun j a b => ?_, fun j a => o j (by omega)⟩, ?_⟩
  · simp only [J0, P, Int.reduceEq, if_true, if_false]; decide
  · simp only [JS, P, Int.reduceAdd, Int.reduceEq, if_true, if_false]; decide
  · simp only [JS, P, Int.reduceAdd, Int.reduceEq, if_true, if_false]; decide
  · simp only [JP, P, Int.reduceEq, if_true, if_false]; decide
  · simp only [JA, P, Int.reduceEq, if_true, if_false]; decide
  · rw [o j (by omega)]; decide
  · rw [o j (by omega)]; decide
  · rw [o j (by omega)]; decide
  · simp only [P, Int.reduceEq, if_true, if_false]; decide
theorem tl_0 {f : Int} : ¬ tlL (fun _ => (0 : Int64)) f := fun h => h.2 (by
  have m1 : 0 ≤ f % 64 ∧ f % 64 < 64 := ⟨Int.emod_nonneg _ (by decide), Int.emod_lt_of_pos _ (by decide)⟩
  rw [tlV_b m1.1 m1.2]
  exact BitVec.getLsbD_zero)
theorem GOOD_S0 : GOOD liI (fun _ _ => 0) S0 := by
  have P := S0_at
  have o : ∀ j, 37 ≤ j ∨ j < 0 → S0 j = 0 := fun j c => by
    rw [P, if_neg (by omega), if_neg (by omega), if_neg (by omega), if_neg (by omega), if_neg (by omega), if_neg (by omega)]
  have P0 : ∀ j, liI 0 j = if j = 9 then -1 else if j = 5 then 20 else if j = 4 then 3 else 0 := fun _ => rfl
  have P1 : ∀ j, liI 1 j = if j = 7 then 4 else if j = 3 then 4 else 0 := fun _ => rfl
  have P2 : ∀ j, liI 2 j = if j = 7 then 4 else if j = 3 then 4 else 0 := fun _ => rfl
  have P3 : ∀ i j, (i < 0 ∨ 3 ≤ i) → liI i j = 0 := fun i j c => by
    have e : liI i = fun _ => 0 := by
      unfold liI
      rw [up_n (by omega), up_n (by omega), up_n (by omega)]
    rw [e]
  have lz0 : ∀ f, lz S0 f = 0 := fun f => by
    have e7 : S0 7 = 0 := by rw [P]; rfl
    rcases lz_01 S0 f with a | a
    · exact a
    · obtain ⟨k, k0, k1, _⟩ := lz_iff.mp a
      omega
  refine ⟨⟨⟨⟨?_, ?_, ?_, ?_, ?_⟩, ?_, ?_, ?_⟩, ⟨?_, ?_, ?_, ?_⟩, ?_, ?_, ?_, ?_⟩, J_S0, ?_, ?_, ?_, ?_, ?_, ?_, ?_⟩
  · rw [P, P0]; rfl
  · rw [P, P0]; rfl
  · rw [P, P0]; rfl
  · rw [P, P0]; rfl
  · rw [P, P0]; rfl
  · intro p p0 p1
    rw [P1, P]
    rcases (show p = 0 ∨ p = 1 ∨ p = 2 ∨ p = 3 ∨ p = 4 ∨ p = 5 ∨ p = 6 ∨ p = 7 ∨ p = 8 ∨ p = 9 ∨ p = 10 by omega) with rfl | rfl | rfl | rfl | rfl | rfl | rfl | rfl | rfl | rfl | rfl <;> rfl
  · intro p p0 p1
    rw [P2, P]
    rcases (show p = 0 ∨ p = 1 ∨ p = 2 ∨ p = 3 ∨ p = 4 ∨ p = 5 ∨ p = 6 ∨ p = 7 ∨ p = 8 ∨ p = 9 ∨ p = 10 by omega) with rfl | rfl | rfl | rfl | rfl | rfl | rfl | rfl | rfl | rfl | rfl <;> rfl
  · intro i i0 i1
    rw [P3 5 i (by decide), P, if_neg (by omega), if_neg (by omega), if_neg (by omega), if_neg (by omega), if_neg (by omega), if_neg (by omega)]
  · intro m m0 m1
    have : S0 18 = 0 := by rw [P]; rfl
    omega
  · intro m m0 m1
    have : S0 29 = 0 := by rw [P]; rfl
    omega
  · intro m k m0 m1
    have : S0 18 = 0 := by rw [P]; rfl
    omega
  · intro m k m0 m1
    have : S0 29 = 0 := by rw [P]; rfl
    omega
  · intro f hf
    have e3 : S0 3 = 0 := by rw [P]; rfl
    have e9 : liI 0 9 = -1 := rfl
    rw [lz0, e9]
    exact ⟨fun a => a.elim (fun b => absurd b tl_0) (fun b => absurd hf (by omega)), fun a => absurd rfl a⟩
  · intro j; rw [P3 3 j (by decide)]; decide
  · intro j; rw [P3 4 j (by decide)]; decide
  · intro i j _
    by_cases c : i < 0 ∨ 3 ≤ i
    · rw [P3 i j c]; decide
    · rcases (show i = 0 ∨ i = 1 ∨ i = 2 by omega) with rfl | rfl | rfl
      · rw [P0]; (repeat' split) <;> decide
      · rw [P1]; (repeat' split) <;> decide
      · rw [P2]; (repeat' split) <;> decide
  · rw [P]; decide
  · rw [P]; decide
  · rw [P]; decide
  · intro j a b
    have : S0 7 = 0 := by rw [P]; rfl
    omega
  · rfl
  · rw [P]; rfl
  · intro f _
    rw [lz0]
    exact ⟨fun b => absurd b tl_0, fun a => absurd rfl a⟩
theorem TI_0 : TI (fun _ => 0) (fun _ => 0) (fun _ => liI) (fun _ _ _ => 0) (fun _ => liI) (fun _ _ _ => 0) (fun _ => 0) (up (up (up Z0 0 (up (Z0 0) 14 0)) 2 S0) 7 (up (up (Z0 7) 0 0) 1 0)) := by
  have l6 : liI 0 6 = 0 ∨ liI 0 6 = 1 := Or.inl rfl
  refine ⟨GOOD_S0, ⟨rfl, rfl⟩, ⟨⟨by decide, by decide⟩, rfl, fun n hn => absurd (show (n : Int) < 0 from hn) (by omega), fun n => l6⟩, ⟨rfl, rfl, fun j => Or.inl ?_, fun h => absurd h (by decide), fun h => absurd h (by decide), l6, l6⟩, ?_, ?_, rfl, ?_, ?_, fun j _ _ => rfl, rfl⟩
  · show (if j = 1 then (0 : Int) else if j = 0 then 0 else 0) = 0
    (repeat' split) <;> rfl
  · unfold RO; decide
  · have e : ∀ j, (up (up (up Z0 0 (up (Z0 0) 14 0)) 2 S0) 7 (up (up (Z0 7) 0 0) 1 0)) 0 j = if j = 14 then 0 else 0 := fun j => rfl
    simp only [RM, e, ite_self]
    decide
  · exact fun _ => ⟨show (-129 : Int) < 0 by decide, show (0 : Int) < 129 by decide⟩
  · exact fun _ => ⟨show (-129 : Int) < 0 by decide, show (0 : Int) < 129 by decide⟩
end Start
