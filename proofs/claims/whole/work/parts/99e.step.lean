section Step
def te0 (σ : Int → Int) : Int → Int := if 0 < σ 23 - σ 39 then up (up (up (up (up σ 35 (σ 19)) 36 (σ 20 + σ 21)) 32 (σ 32 - (σ 23 - σ 39))) 33 (σ 33 - (σ 23 - σ 39))) 39 (σ 23) else up (up σ 35 (σ 19)) 36 (σ 20 + σ 21)
theorem teF_0 {σ : Int → Int} : teF 0 σ = te0 σ := rfl
def sa0 (n : Int) (σ : Int → Int) : Int → Int := up (up (up σ 10 (σ 10 + 1)) 11 (σ 11 + bI (n < σ 26))) 26 (if n + 1 ≤ σ 26 then σ 26 else n + 1)
def sb0 (n : Int) (b : Int → Int) : Int → Int := up (up (up b 30 (b 30 + bI (n = b 30))) 17 (b 17 + bI (¬ n = b 30))) 2 (b 2 + 1)
theorem sdF_0 {z : Int} {σ : Int → Int} (h : σ 1 = 0) : sdF 0 z σ = if z = 0 then sb0 (σ 24 + σ 2) (te0 (sa0 (σ 24 + σ 2) σ)) else up (sa0 (σ 24 + σ 2) σ) 2 (σ 2 + 1) := by
  unfold sdF
  rw [h]
  rfl
def ta (z : Int) (σ : Int → Int) : Int → Int := up (up (up σ 12 (σ 12 + 1)) 13 (σ 13 + σ 6)) 6 z
def tb0 (b : Int → Int) : Int → Int := up (up (up b 27 (b 27 + 1)) 1 1) 2 0
def tk0 (b : Int → Int) : Int := if b 36 - b 37 ≤ b 22 then b 36 - b 37 else b 22
theorem stF_0 {σ : Int → Int} : stF 0 0 σ = if 0 < tk0 (te0 (ta 0 σ)) then up (up (tb0 (te0 (ta 0 σ))) 36 (te0 (ta 0 σ) 36 - tk0 (te0 (ta 0 σ)))) 34 (te0 (ta 0 σ) 34 + tk0 (te0 (ta 0 σ))) else tb0 (te0 (ta 0 σ)) := by
  unfold stF
  rw [if_pos rfl, if_pos rfl, teF_0]
  unfold tk0
  by_cases h : te0 (ta 0 σ) 36 - te0 (ta 0 σ) 37 ≤ te0 (ta 0 σ) 22
  · rw [if_pos h]
    by_cases g : 0 < te0 (ta 0 σ) 36 - te0 (ta 0 σ) 37
    · rw [if_pos g]
      exact (if_pos h).trans (if_pos g)
    · rw [if_neg g]
      exact (if_pos h).trans (if_neg g)
  · rw [if_neg h]
    by_cases g : 0 < te0 (ta 0 σ) 22
    · rw [if_pos g]
      exact (if_neg h).trans (if_pos g)
    · rw [if_neg g]
      exact (if_neg h).trans (if_neg g)
theorem stF_0l {z : Int} {σ : Int → Int} (h : ¬ z = 0) : stF 0 z σ = up (up (ta 1 σ) 0 (σ 0 + σ 5)) 16 (σ 16 + σ 5) := by
  unfold stF
  rw [if_neg h, if_neg h]
  rfl
def te1 (σ : Int → Int) : Int → Int := if 0 < σ 34 - σ 28 then up (up (up (up (up σ 24 (σ 30)) 25 (σ 31 + σ 32)) 21 (σ 21 - (σ 34 - σ 28))) 22 (σ 22 - (σ 34 - σ 28))) 28 (σ 34) else up (up σ 24 (σ 30)) 25 (σ 31 + σ 32)
theorem teF_1 {σ : Int → Int} : teF 1 σ = te1 σ := rfl
def sa1 (n : Int) (σ : Int → Int) : Int → Int := up (up (up σ 10 (σ 10 + 1)) 11 (σ 11 + bI (n < σ 37))) 37 (if n + 1 ≤ σ 37 then σ 37 else n + 1)
def sb1 (n : Int) (b : Int → Int) : Int → Int := up (up (up b 19 (b 19 + bI (n = b 19))) 17 (b 17 + bI (¬ n = b 19))) 2 (b 2 + 1)
theorem sdF_1 {z : Int} {σ : Int → Int} (h : σ 1 = 1) : sdF 1 z σ = if z = 0 then sb1 (σ 35 + σ 2) (te1 (sa1 (σ 35 + σ 2) σ)) else up (sa1 (σ 35 + σ 2) σ) 2 (σ 2 + 1) := by
  unfold sdF
  rw [h]
  rfl
def tb1 (b : Int → Int) : Int → Int := up (up (up b 38 (b 38 + 1)) 1 0) 2 0
def tk1 (b : Int → Int) : Int := if b 25 - b 26 ≤ b 33 then b 25 - b 26 else b 33
theorem stF_1 {σ : Int → Int} : stF 1 0 σ = if 0 < tk1 (te1 (ta 0 σ)) then up (up (tb1 (te1 (ta 0 σ))) 25 (te1 (ta 0 σ) 25 - tk1 (te1 (ta 0 σ)))) 23 (te1 (ta 0 σ) 23 + tk1 (te1 (ta 0 σ))) else tb1 (te1 (ta 0 σ)) := by
  unfold stF
  rw [if_pos rfl, if_pos rfl, teF_1]
  unfold tk1
  by_cases h : te1 (ta 0 σ) 25 - te1 (ta 0 σ) 26 ≤ te1 (ta 0 σ) 33
  · rw [if_pos h]
    by_cases g : 0 < te1 (ta 0 σ) 25 - te1 (ta 0 σ) 26
    · rw [if_pos g]
      exact (if_pos h).trans (if_pos g)
    · rw [if_neg g]
      exact (if_pos h).trans (if_neg g)
  · rw [if_neg h]
    by_cases g : 0 < te1 (ta 0 σ) 33
    · rw [if_pos g]
      exact (if_neg h).trans (if_pos g)
    · rw [if_neg g]
      exact (if_neg h).trans (if_neg g)
theorem stF_1l {z : Int} {σ : Int → Int} (h : ¬ z = 0) : stF 1 z σ = up (up (ta 1 σ) 0 (σ 0 + σ 5)) 16 (σ 16 + σ 5) := by
  unfold stF
  rw [if_neg h, if_neg h]
  rfl
def preM (l b e : Int) (σ : Int → Int) : Int → Int := up (up (up (up (up (up σ 3 (σ 3 + 1)) 0 (σ 0 + b)) 8 (σ 8 + 1)) 9 (σ 9 + l)) 14 (σ 14 + b)) 15 (σ 15 + e)
abbrev esM (σ : Int → Int) : Int := escI (pbF σ) (7 + dl σ)
theorem stepF_d {σ : Int → Int} (h : isDataP σ) : stepF 0 σ = sdF (σ 1) (lz σ (σ 3)) (preM (bI (¬ lz σ (σ 3) = 0)) (2 + (7 + dl σ) + esM σ) (esM σ) σ) := by
  unfold stepF
  rw [if_pos h, if_pos rfl]
  rfl
theorem stepF_t {σ : Int → Int} (h : ¬ isDataP σ) : stepF 0 σ = stF (σ 1) (lz σ (σ 3)) (preM (bI (¬ lz σ (σ 3) = 0)) (2 + (7 + dl σ) + esM σ) (esM σ) σ) := by
  unfold stepF
  rw [if_neg h, if_pos rfl]
  rfl
theorem stepF_1 {σ : Int → Int} : stepF 1 σ = rdF (stepF 0 σ) := by
  unfold stepF
  by_cases h : isDataP σ
  · rw [if_pos h, if_pos h, if_neg (by decide), if_pos rfl]
  · rw [if_neg h, if_neg h, if_neg (by decide), if_pos rfl]
end Step
