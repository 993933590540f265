section Byt
/-- a long as a number -/
def nL (b : Int64) : Nat := b.toBitVec.toNat
theorem byB_n (b : Int64) {k : Nat} (hk : k < 8) : byB b (k : Int) = ((nL b / 2 ^ (8 * k) % 256 : Nat) : Int) := by
  have e1 : ∀ n : Fin 8, ((iI (8 * ((n.val : Nat) : Int))).toInt64.toUInt64 &&& Int64.toUInt64 63).toNat = 8 * n.val := by decide +kernel
  have e2 := e1 ⟨k, hk⟩
  rw [byB_c]
  unfold cB0
  have e3 : ∀ x : Int64, x.toInt32.toInt % 256 = ((nL x % 256 : Nat) : Int) := by
    intro x
    rw [Int64.toInt_toInt32, Int.bmod_def]
    unfold nL
    have e : x.toInt = (x.toBitVec.toNat : Int) ∨ x.toInt = (x.toBitVec.toNat : Int) - 18446744073709551616 := by
      show x.toBitVec.toInt = _ ∨ x.toBitVec.toInt = _
      rw [BitVec.toInt_eq_toNat_cond]
      split
      · exact Or.inl rfl
      · exact Or.inr rfl
    generalize x.toInt = y at *
    generalize x.toBitVec.toNat = n at *
    split <;> omega
  rw [e3]
  unfold nL
  have e4 : (b.toUInt64 >>> ((iI (8 * (k : Int))).toInt64.toUInt64 &&& Int64.toUInt64 63)).toInt64.toBitVec.toNat = b.toBitVec.toNat / 2 ^ (8 * k) := by
    show (b.toUInt64 >>> ((iI (8 * (k : Int))).toInt64.toUInt64 &&& Int64.toUInt64 63)).toNat = _
    rw [UInt64.toNat_shiftRight, e2, Nat.mod_eq_of_lt (by omega), Nat.shiftRight_eq_div_pow]
    rfl
  rw [e4]
theorem nL_or {x : Int64} {v : Int} {n : Nat} (hn : n < 8) (hx : nL x < 2 ^ (8 * n)) (hv : 0 ≤ v ∧ v ≤ 255) : nL (x ||| shL (toL v) (8 * (n : Int))) = nL x + v.toNat * 2 ^ (8 * n) := by
  have e1 : ∀ n : Fin 8, ((iI (8 * ((n.val : Nat) : Int))).toInt64 &&& 63).toBitVec.smod 64 = BitVec.ofNat 64 (8 * n.val) := by decide +kernel
  have e2 : ∀ v : Fin 256, (toL ((v.val : Nat) : Int)).toBitVec.toNat = v.val := by decide +kernel
  have e2' := e2 ⟨v.toNat, by omega⟩
  simp only [show ((v.toNat : Nat) : Int) = v by omega] at e2'
  unfold nL shL at *
  rw [Int64.toBitVec_or, BitVec.toNat_or, Int64.toBitVec_shiftLeft, e1 ⟨n, hn⟩]
  rw [BitVec.shiftLeft_eq', BitVec.toNat_shiftLeft, e2', BitVec.toNat_ofNat, Nat.mod_eq_of_lt (show 8 * n < 2 ^ 64 by omega), Nat.shiftLeft_eq]
  have hm : v.toNat * 2 ^ (8 * n) < 2 ^ 64 := by
    have h1 : v.toNat * 2 ^ (8 * n) < 2 ^ 8 * 2 ^ (8 * n) := Nat.mul_lt_mul_of_pos_right (by omega) (Nat.pow_pos (by decide))
    have h2 : 2 ^ 8 * 2 ^ (8 * n) ≤ 2 ^ 64 := by rw [← Nat.pow_add]; exact Nat.pow_le_pow_right (by decide) (by omega)
    omega
  rw [Nat.mod_eq_of_lt hm, Nat.or_comm, Nat.mul_comm, ← Nat.two_pow_add_eq_or_of_lt hx, Nat.mul_comm, Nat.add_comm]
theorem nL_lo {x v n : Nat} {k : Nat} (hk : k < n) : (x + v * 2 ^ (8 * n)) / 2 ^ (8 * k) % 256 = x / 2 ^ (8 * k) % 256 := by
  obtain ⟨d, rfl⟩ : ∃ d, n = k + 1 + d := ⟨n - k - 1, by omega⟩
  have e : v * 2 ^ (8 * (k + 1 + d)) = (v * 2 ^ (8 * d) * 256) * 2 ^ (8 * k) := by
    rw [show 8 * (k + 1 + d) = 8 * d + 8 + 8 * k by omega, Nat.pow_add, Nat.pow_add]
    simp only [Nat.mul_assoc]
  rw [e, Nat.add_mul_div_right _ _ (Nat.pow_pos (by decide)), Nat.add_mul_mod_self_right]
theorem nL_hi {x v n : Nat} (hx : x < 2 ^ (8 * n)) (hv : v < 256) : (x + v * 2 ^ (8 * n)) / 2 ^ (8 * n) % 256 = v := by
  rw [Nat.add_mul_div_right _ _ (Nat.pow_pos (by decide)), Nat.div_eq_of_lt hx, Nat.zero_add, Nat.mod_eq_of_lt hv]
theorem rmB_n {g bu : Int → Int} {v : Int} (hv : 0 ≤ v ∧ v ≤ 255) (ho : ∀ n, RO (rmI g bu n)) : ∀ n : Nat, n ≤ 7 → nL (rmB g v bu n) < 2 ^ (8 * (n + 1)) ∧ ∀ k : Nat, k ≤ n → byB (rmB g v bu n) (k : Int) = if k = 0 then v else tnV (rmI g bu (k - 1)) 0 255 := by
  intro n
  induction n with
  | zero =>
    intro _
    have e2 : ∀ v : Fin 256, nL (toL ((v.val : Nat) : Int)) = v.val := by decide +kernel
    have e2' := e2 ⟨v.toNat, by omega⟩
    simp only [show ((v.toNat : Nat) : Int) = v by omega] at e2'
    have e0 : nL (rmB g v bu 0) = v.toNat := e2'
    refine ⟨by rw [e0]; show v.toNat < 256; omega, fun k hk => ?_⟩
    have k0 : k = 0 := by omega
    subst k0
    rw [if_pos rfl, byB_n _ (by decide), e0]
    show ((v.toNat / 1 % 256 : Nat) : Int) = v
    omega
  | succ n ih =>
    intro hn
    obtain ⟨i1, i2⟩ := ih (by omega)
    have hw := tnV_in (p := 0) (q := 255) (ho n) (by decide)
    have e : rmB g v bu (n + 1) = rmB g v bu n ||| shL (toL (tnV (rmI g bu n) 0 255)) (8 * ((n + 1 : Nat) : Int)) := rfl
    have en : nL (rmB g v bu (n + 1)) = nL (rmB g v bu n) + (tnV (rmI g bu n) 0 255).toNat * 2 ^ (8 * (n + 1)) := by
      rw [e]
      exact nL_or (by omega) i1 hw
    refine ⟨?_, fun k hk => ?_⟩
    · rw [en]
      have h1 : (tnV (rmI g bu n) 0 255).toNat + 1 ≤ 256 := by omega
      have h2 := Nat.mul_le_mul_right (2 ^ (8 * (n + 1))) h1
      rw [Nat.add_mul, Nat.one_mul] at h2
      have h3 : 256 * 2 ^ (8 * (n + 1)) = 2 ^ (8 * (n + 1 + 1)) := by
        rw [show 8 * (n + 1 + 1) = 8 + 8 * (n + 1) by omega, Nat.pow_add]
      omega
    · rw [byB_n _ (by omega), en]
      by_cases c : k = n + 1
      · rw [if_neg (by omega), c, nL_hi i1 (by omega), show n + 1 - 1 = n from rfl]
        omega
      · rw [nL_lo (by omega), ← byB_n _ (by omega)]
        exact i2 k (by omega)
theorem mlN_at {g B σ : Int → Int} {st m : Int} : ∀ n : Nat, n ≤ 8 → (∀ k : Nat, k < n → lkM (mlS g B k) 0 255 8 = 0) → ∀ j : Int, mlN g B st m σ n j = if 80 + 8 * (20 * st + m) ≤ j ∧ j < 80 + 8 * (20 * st + m) + n then lkV (mlS g B (j - (80 + 8 * (20 * st + m))).toNat) 0 255 else σ j := by
  intro n
  induction n with
  | zero => intro _ _ j; rw [if_neg (by omega)]; rfl
  | succ n ih =>
    intro h8 hk j
    have e : mlN g B st m σ (n + 1) = up (mlN g B st m σ n) ((80 + (8 * ((20 * st) + m))) + (n : Int)) (lkV (mlS g B n) 0 255) := if_pos ⟨hk n (by omega), by rw [bI_t (by omega)]; decide⟩
    rw [e]
    by_cases c : j = (80 + (8 * ((20 * st) + m))) + (n : Int)
    · rw [c, up_s, if_pos (by omega), show ((80 + (8 * ((20 * st) + m))) + (n : Int) - (80 + 8 * (20 * st + m))).toNat = n by omega]
    · rw [up_n c, ih (by omega) (fun k h => hk k (by omega))]
      by_cases d : 80 + 8 * (20 * st + m) ≤ j ∧ j < 80 + 8 * (20 * st + m) + n
      · rw [if_pos d, if_pos (by omega)]
      · rw [if_neg d, if_neg (by omega)]
theorem ms_pt {g bu s B σ : Int → Int} {F : Int → Int → Int} (ho : RO g) (hbu : sB 1000 bu) (h : MF g bu s B σ F) (hm : 0 ≤ σ (18 + 11 * wlst s B)) : msN s B σ = ptF (rmB (rm3 g bu F) (tnV (rm2 g bu F) 0 255) bu (rmN (rm3 g bu F) bu)) (wlst s B) ((rmN (rm3 g bu F) bu : Int) + 1) σ := by
  obtain ⟨h1, h2, h3, h4, h5, h6, h7⟩ := h
  have w := wlst_in (s := s) (B := B)
  have hs : wlst s B = 0 ∨ wlst s B = 1 := by omega
  have n7 : rmN (rm3 g bu F) bu ≤ 7 := skN_le _
  have hv := tnV_in (p := 0) (q := 255) (rm2_ok (F := F) ho hbu) (by decide)
  have roI := rmI_ok (F := F) ho hbu
  have m20 : σ (18 + 11 * wlst s B) < 20 := by
    have t := bI_n0.mp h2.2
    rw [show 18 + 11 * wlst s B + 0 = 18 + 11 * wlst s B by omega] at t
    exact t
  obtain ⟨_, rb⟩ := rmB_n hv roI (rmN (rm3 g bu F) bu) n7
  have e : msN s B σ = up (up (mlN (me5 s B σ) B (wlst s B) (σ (18 + 11 * wlst s B + 0)) σ (mlK (me5 s B σ) B)) (40 + 20 * wlst s B + σ (18 + 11 * wlst s B + 0)) (mlK (me5 s B σ) B : Int)) (18 + 11 * wlst s B + 0) (mlN (me5 s B σ) B (wlst s B) (σ (18 + 11 * wlst s B + 0)) σ (mlK (me5 s B σ) B) (18 + 11 * wlst s B + 0) + 1) := by
    unfold msN
    rw [if_pos h2, if_pos h4]
  rw [e, h3]
  rw [show 18 + 11 * wlst s B + 0 = 18 + 11 * wlst s B by omega]
  have A := mlN_at (g := me5 s B σ) (B := B) (σ := σ) (st := wlst s B) (m := σ (18 + 11 * wlst s B)) (rmN (rm3 g bu F) bu + 1) (by omega) (fun k hk => h5 k (by omega))
  funext j
  rw [pt_at hs ⟨hm, m20⟩ (by omega)]
  by_cases c1 : j = 18 + 11 * wlst s B
  · rw [if_pos c1, c1, up_s, A, if_neg (by omega)]
  · rw [if_neg c1, up_n c1]
    by_cases c2 : j = 40 + 20 * wlst s B + σ (18 + 11 * wlst s B)
    · rw [if_pos c2, c2, up_s]
      omega
    · rw [if_neg c2, up_n c2, A]
      by_cases c3 : 80 + 8 * (20 * wlst s B + σ (18 + 11 * wlst s B)) ≤ j ∧ j < 80 + 8 * (20 * wlst s B + σ (18 + 11 * wlst s B)) + ((rmN (rm3 g bu F) bu : Int) + 1)
      · rw [if_pos (by omega), if_pos c3]
        obtain ⟨k, hk⟩ : ∃ k : Nat, j - (80 + 8 * (20 * wlst s B + σ (18 + 11 * wlst s B))) = (k : Int) := ⟨(j - (80 + 8 * (20 * wlst s B + σ (18 + 11 * wlst s B)))).toNat, by omega⟩
        rw [hk, rb k (by omega), show ((k : Int)).toNat = k from rfl]
        rcases k with _ | k
        · rw [if_pos rfl]; exact h6.symm
        · rw [if_neg (by omega)]
          exact (h7 k (by omega)).symm
      · rw [if_neg (by omega), if_neg c3]
end Byt
