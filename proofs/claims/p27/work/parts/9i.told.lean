section Told
theorem tlV_b {w : Int64} {k : Int} (h0 : 0 ≤ k) (h1 : k < 64) : tlV w k = 0 ↔ w.toBitVec.getLsbD k.toNat = false := by
  obtain ⟨n, rfl⟩ := Int.eq_ofNat_of_zero_le h0
  have hn : n < 64 := by omega
  have es : ∀ n : Fin 64, ((iI ((n.val : Nat) : Int)).toInt64.toUInt64 &&& Int64.toUInt64 63).toNat = n.val := by decide +kernel
  have e1 := es ⟨n, hn⟩
  have ec : ∀ x : Int64, (lg_cmp x 0).toInt = 0 ↔ x = 0 := by
    intro x
    unfold lg_cmp
    split
    · rename_i c
      refine ⟨fun e => absurd e (by decide), fun e => ?_⟩
      subst e
      exact absurd c (by decide)
    · split
      · rename_i c; exact ⟨fun _ => c, fun _ => rfl⟩
      · rename_i c; exact ⟨fun e => absurd e (by decide), fun e => absurd e c⟩
  unfold tlV
  rw [ec, ← Int64.toBitVec_inj, Int64.toBitVec_and]
  have e2 : (w.toUInt64 >>> ((iI (n : Int)).toInt64.toUInt64 &&& Int64.toUInt64 63)).toInt64.toBitVec = w.toBitVec >>> n := by
    apply BitVec.eq_of_toNat_eq
    show (w.toUInt64 >>> ((iI (n : Int)).toInt64.toUInt64 &&& Int64.toUInt64 63)).toNat = _
    rw [UInt64.toNat_shiftRight, e1, Nat.mod_eq_of_lt hn, BitVec.toNat_ushiftRight]
    rfl
  rw [e2]
  show w.toBitVec >>> n &&& 1#64 = 0#64 ↔ _
  rw [show (n : Int).toNat = n from rfl]
  constructor
  · intro h
    have t := congrArg (fun x => x.getLsbD 0) h
    simpa using t
  · intro h
    apply BitVec.eq_of_getLsbD_eq
    intro i hi
    cases i with
    | zero => simp [h]
    | succ i => simp
theorem orB_b {w : Int64} {k : Int} (h0 : 0 ≤ k) (h1 : k < 64) {j : Nat} (hj : j < 64) : (orB w k).toBitVec.getLsbD j = (w.toBitVec.getLsbD j || decide (k.toNat = j)) := by
  obtain ⟨n, rfl⟩ := Int.eq_ofNat_of_zero_le h0
  have es : ∀ n : Fin 64, ((1 : Int64) <<< ((iI ((n.val : Nat) : Int)).toInt64 &&& 63)).toBitVec = BitVec.twoPow 64 n.val := by decide +kernel
  unfold orB
  rw [Int64.toBitVec_or, es ⟨n, by omega⟩, BitVec.getLsbD_or, BitVec.getLsbD_twoPow]
  congr 1
  rw [show (n : Int).toNat = n from rfl]
  by_cases e : n = j
  · simp [e, hj]
  · simp [e]
theorem tlL_or {t : Int → Int64} {f g : Int} (hf : 0 ≤ f ∧ f < 2000) : tlL (up t (f / 64) (orB (t (f / 64)) (f % 64))) g ↔ tlL t g ∨ g = f := by
  by_cases hg : 0 ≤ g ∧ g < 2000
  · have m1 : 0 ≤ g % 64 ∧ g % 64 < 64 := ⟨Int.emod_nonneg _ (by decide), Int.emod_lt_of_pos _ (by decide)⟩
    have m2 : 0 ≤ f % 64 ∧ f % 64 < 64 := ⟨Int.emod_nonneg _ (by decide), Int.emod_lt_of_pos _ (by decide)⟩
    have e1 : tlL t g ↔ ¬ tlV (t (g / 64)) (g % 64) = 0 := ⟨fun a => a.2, fun a => ⟨hg, a⟩⟩
    have e2 : tlL (up t (f / 64) (orB (t (f / 64)) (f % 64))) g ↔ ¬ tlV (up t (f / 64) (orB (t (f / 64)) (f % 64)) (g / 64)) (g % 64) = 0 := ⟨fun a => a.2, fun a => ⟨hg, a⟩⟩
    rw [e1, e2]
    by_cases c : g / 64 = f / 64
    · rw [c, up_s, tlV_b m1.1 m1.2, tlV_b m1.1 m1.2, orB_b m2.1 m2.2 (by omega)]
      have e3 : (f % 64).toNat = (g % 64).toNat ↔ g = f := by omega
      by_cases c2 : g = f
      · rw [decide_eq_true (e3.mpr c2)]; simp [c2]
      · rw [decide_eq_false (fun h => c2 (e3.mp h))]; simp [c2]
    · rw [up_n c]
      refine ⟨Or.inl, fun a => a.elim id (fun e => absurd (by rw [e]) c)⟩
  · exact ⟨fun a => absurd a.1 hg, fun a => a.elim (fun b => absurd b.1 hg) (fun b => absurd (b ▸ hf) hg)⟩
theorem tlL_z {q : Int} : ¬ tlL (fun _ => 0) q := by
  intro h
  have m1 : 0 ≤ q % 64 ∧ q % 64 < 64 := ⟨Int.emod_nonneg _ (by decide), Int.emod_lt_of_pos _ (by decide)⟩
  exact h.2 ((tlV_b m1.1 m1.2).mpr (by simp))
end Told
