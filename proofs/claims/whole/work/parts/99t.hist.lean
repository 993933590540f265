section HistR
/-- the history of class and reference -/
def HI (c d : Int) (LF : Nat → Int → Int → Int) (LK : Nat → Int → Int → Int64) (H : Int → Int) : Prop := (0 ≤ c ∧ c ≤ 10) ∧ d = c ∧ (∀ n : Nat, (n : Int) < c → GOOD (LF n) (LK n) (blk H n)) ∧ ∀ n : Nat, LF n 0 6 = 0 ∨ LF n 0 6 = 1
theorem J_out {σ : Int → Int} (h : J σ) {j : Int} (hj : j < 0 ∨ 441 ≤ j) : σ j = 0 := h.2.2.2.2.2.1.2.2.2 j hj
theorem blk_cp {σ H : Int → Int} (h : J σ) {t : Int} : blk (cpF σ H 0 t 441) t = σ := by
  funext j
  unfold blk cpF
  by_cases c : 0 ≤ j ∧ j < 441
  · rw [if_pos c, if_pos (by omega)]
    congr 1
    omega
  · rw [if_neg c, J_out h (by omega)]
theorem blk_ne {σ H : Int → Int} {t n : Int} (hn : n ≠ t) : blk (cpF σ H 0 t 441) n = blk H n := by
  funext j
  unfold blk cpF
  by_cases c : 0 ≤ j ∧ j < 441
  · rw [if_pos c, if_pos c, if_neg (by omega)]
  · rw [if_neg c, if_neg c]
theorem blk_sh {H : Int → Int} {n : Int} (h0 : 0 ≤ n) (h1 : n < 9) : blk (shF H 10) n = blk H (n + 1) := by
  funext j
  unfold blk shF
  by_cases c : 0 ≤ j ∧ j < 441
  · rw [if_pos c, if_pos c, if_pos (by omega)]
    congr 1
    omega
  · rw [if_neg c, if_neg c]
theorem cp_blk {σ H : Int → Int} (h : J σ) {n : Int} : cpF H σ n 0 441 = blk H n := by
  funext j
  unfold blk cpF
  by_cases c : 0 ≤ j ∧ j < 441
  · rw [if_pos c, if_pos (by omega)]
    congr 1
    omega
  · rw [if_neg c, if_neg (by omega), J_out h (by omega)]
theorem GOOD_6 {F : Int → Int → Int} {K : Int → Int → Int64} {σ : Int → Int} (h : GOOD F K σ) : F 0 6 = 0 ∨ F 0 6 = 1 := by
  rw [h.1.1.1.2.2.2.2]
  exact h.2.1.1.2.1
theorem HI_kp {c d : Int} {LF : Nat → Int → Int → Int} {LK : Nat → Int → Int → Int64} {H : Int → Int} {F : Int → Int → Int} {K : Int → Int → Int64} {σ : Int → Int} (h : HI c d LF LK H) (g : GOOD F K σ) : HI (kpC c) (kpD d + 1) (kpS c LF F) (kpS c LK K) (cpF σ (kpH d H) 0 (kpD d) 441) := by
  obtain ⟨⟨c0, c1⟩, rfl, hg, h6⟩ := h
  by_cases e : d < 10
  · have e1 : kpC d = d + 1 := if_pos e
    have e2 : kpD d = d := if_neg (by omega)
    have e3 : kpH d H = H := if_neg (by omega)
    have e4 : kpS d LF F = upN LF d.toNat F := if_pos e
    have e5 : kpS d LK K = upN LK d.toNat K := if_pos e
    rw [e1, e2, e3, e4, e5]
    refine ⟨⟨by omega, by omega⟩, rfl, fun n hn => ?_, fun n => ?_⟩
    · by_cases w : n = d.toNat
      · have a1 : upN LF d.toNat F n = F := if_pos w
        have a2 : upN LK d.toNat K n = K := if_pos w
        rw [a1, a2, show (n : Int) = d by omega, blk_cp g.2.1]
        exact g
      · have a1 : upN LF d.toNat F n = LF n := if_neg w
        have a2 : upN LK d.toNat K n = LK n := if_neg w
        rw [a1, a2, blk_ne (by omega)]
        exact hg n (by omega)
    · by_cases w : n = d.toNat
      · have a1 : upN LF d.toNat F n = F := if_pos w
        rw [a1]; exact GOOD_6 g
      · have a1 : upN LF d.toNat F n = LF n := if_neg w
        rw [a1]; exact h6 n
  · have hd : d = 10 := by omega
    subst hd
    have e1 : kpC 10 = 10 := rfl
    have e2 : kpD 10 = 9 := rfl
    have e3 : kpH 10 H = shF H 10 := rfl
    have e4 : kpS 10 LF F = upN (rotN LF) 9 F := if_neg e
    have e5 : kpS 10 LK K = upN (rotN LK) 9 K := if_neg e
    rw [e1, e2, e3, e4, e5]
    refine ⟨⟨by omega, by omega⟩, rfl, fun n hn => ?_, fun n => ?_⟩
    · by_cases w : n = 9
      · have a1 : upN (rotN LF) 9 F n = F := if_pos w
        have a2 : upN (rotN LK) 9 K n = K := if_pos w
        rw [a1, a2, show (n : Int) = 9 by omega, blk_cp g.2.1]
        exact g
      · have a1 : upN (rotN LF) 9 F n = LF (n + 1) := (if_neg w).trans (if_neg w)
        have a2 : upN (rotN LK) 9 K n = LK (n + 1) := (if_neg w).trans (if_neg w)
        rw [a1, a2, blk_ne (by omega), blk_sh (by omega) (by omega)]
        exact hg (n + 1) (by omega)
    · by_cases w : n = 9
      · have a1 : upN (rotN LF) 9 F n = F := if_pos w
        rw [a1]; exact GOOD_6 g
      · have a1 : upN (rotN LF) 9 F n = LF (n + 1) := (if_neg w).trans (if_neg w)
        rw [a1]; exact h6 (n + 1)
/-- .. taken back -/
theorem HI_un {c d : Int} {LF : Nat → Int → Int → Int} {LK : Nat → Int → Int → Int64} {H : Int → Int} (h : HI c d LF LK H) (hc : 1 ≤ c) {σ : Int → Int} (hj : J σ) : HI (c - 1) (d - 1) LF LK H ∧ GOOD (LF (c - 1).toNat) (LK (c - 1).toNat) (cpF H σ (d - 1) 0 441) := by
  obtain ⟨⟨c0, c1⟩, rfl, hg, h6⟩ := h
  refine ⟨⟨⟨by omega, by omega⟩, rfl, fun n hn => hg n (by omega), h6⟩, ?_⟩
  rw [cp_blk hj]
  have t := hg (d - 1).toNat (by omega)
  rw [show (((d - 1).toNat : Nat) : Int) = d - 1 by omega] at t
  exact t
end HistR
