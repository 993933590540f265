section Pure3
def kpD (d : Int) : Int := if d = 10 then d - 1 else d
/-- the history with the blocks before the d-th moved one down -/
def shF (h : Int → Int) (d : Int) : Int → Int := fun j => if 0 ≤ j ∧ j < 441 * (d - 1) then h (j + 441) else h j
def kpH (d : Int) (h : Int → Int) : Int → Int := if d = 10 then shF h 10 else h
theorem shF_1 {h : Int → Int} : shF h 1 = h := by
  funext j
  exact if_neg (by omega)
theorem rdF_B {N : Int} {σ : Int → Int} (h : sB N σ) : sB N (rdF σ) := sB_up (sB_up h (h _)) (h _)
/-- the first i of 441 places, copied from fa's k-th block into fb's t-th -/
def cpF (fa fb : Int → Int) (k t i : Int) : Int → Int := fun j => if 441 * t ≤ j ∧ j < 441 * t + i then fa (441 * k + (j - 441 * t)) else fb j
theorem cpF_0 {fa fb : Int → Int} {k t : Int} : cpF fa fb k t 0 = fb := by
  funext j
  exact if_neg (by omega)
theorem cpF_s {fa fb : Int → Int} {k t i : Int} (h : 0 ≤ i) : cpF fa fb k t (i + 1) = up (cpF fa fb k t i) (441 * t + i) (fa (441 * k + i)) := by
  funext j
  unfold cpF up
  by_cases e : j = 441 * t + i
  · rw [if_pos (by omega), if_pos e, e, show 441 * t + i - 441 * t = i by omega]
  · rw [if_neg e]
    by_cases e2 : 441 * t ≤ j ∧ j < 441 * t + i
    · rw [if_pos (by omega)]; exact (if_pos e2).symm
    · rw [if_neg (by omega)]; exact (if_neg e2).symm
theorem shF_s {h : Int → Int} {d : Int} (hd : 1 ≤ d) : cpF (shF h d) (shF h d) d (d - 1) 441 = shF h (d + 1) := by
  funext j
  unfold cpF shF
  by_cases e1 : 441 * (d - 1) ≤ j ∧ j < 441 * (d - 1) + 441
  · rw [if_pos e1, if_neg (by omega), if_pos (by omega)]
    congr 1
    omega
  · rw [if_neg e1]
    by_cases e2 : 0 ≤ j ∧ j < 441 * (d - 1)
    · rw [if_pos e2, if_pos (by omega)]
    · rw [if_neg e2, if_neg (by omega)]
def stepF (r : Int) (σ : Int → Int) : Int → Int := (if isDataP (σ) then (if (r) = 0 then (sdF (σ 1) (lz (σ) (σ 3)) (up (up (up (up (up (up (σ) 3 ((σ 3) + 1)) 0 ((σ 0) + (2 + (7 + dl (σ)) + (escI (pbF (σ)) (7 + dl (σ)))))) 8 ((σ 8) + 1)) 9 ((σ 9) + (bI (¬ (lz (σ) (σ 3)) = 0)))) 14 ((σ 14) + (2 + (7 + dl (σ)) + (escI (pbF (σ)) (7 + dl (σ)))))) 15 ((σ 15) + (escI (pbF (σ)) (7 + dl (σ)))))) else (rdF (sdF (σ 1) (lz (σ) (σ 3)) (up (up (up (up (up (up (σ) 3 ((σ 3) + 1)) 0 ((σ 0) + (2 + (7 + dl (σ)) + (escI (pbF (σ)) (7 + dl (σ)))))) 8 ((σ 8) + 1)) 9 ((σ 9) + (bI (¬ (lz (σ) (σ 3)) = 0)))) 14 ((σ 14) + (2 + (7 + dl (σ)) + (escI (pbF (σ)) (7 + dl (σ)))))) 15 ((σ 15) + (escI (pbF (σ)) (7 + dl (σ)))))))) else (if (r) = 0 then (stF (σ 1) (lz (σ) (σ 3)) (up (up (up (up (up (up (σ) 3 ((σ 3) + 1)) 0 ((σ 0) + (2 + (7 + dl (σ)) + (escI (pbF (σ)) (7 + dl (σ)))))) 8 ((σ 8) + 1)) 9 ((σ 9) + (bI (¬ (lz (σ) (σ 3)) = 0)))) 14 ((σ 14) + (2 + (7 + dl (σ)) + (escI (pbF (σ)) (7 + dl (σ)))))) 15 ((σ 15) + (escI (pbF (σ)) (7 + dl (σ)))))) else (rdF (stF (σ 1) (lz (σ) (σ 3)) (up (up (up (up (up (up (σ) 3 ((σ 3) + 1)) 0 ((σ 0) + (2 + (7 + dl (σ)) + (escI (pbF (σ)) (7 + dl (σ)))))) 8 ((σ 8) + 1)) 9 ((σ 9) + (bI (¬ (lz (σ) (σ 3)) = 0)))) 14 ((σ 14) + (2 + (7 + dl (σ)) + (escI (pbF (σ)) (7 + dl (σ)))))) 15 ((σ 15) + (escI (pbF (σ)) (7 + dl (σ)))))))))
end Pure3
