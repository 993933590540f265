section PureJ2
/-- f2 is f with w bytes g from n on -/
def apS (f : Int → Int) (n : Int) (g : Int → Int) (w : Int) (f2 : Int → Int) : Prop := (∀ j : Int, 0 ≤ j → j < n → f2 j = f j) ∧ ∀ j : Int, 0 ≤ j → j < w → f2 (n + j) = g j
theorem cpA_bt {i : Nat} {b : List Int32} {f : Int → Int} {n : Int} (hi : strB[i]? = some b) (h : btO f) : btO (cpA (fun z => chK b z) f 0 n (b.length : Int)) := fun j => by
  have hk := (strB_ok hi).2
  unfold cpA
  split
  · exact hk (0 + (j - n)).toNat (by omega)
  · exact h j
theorem cpA_ap {f f2 g : Int → Int} {n w : Int} {cap cap2 : Nat} (hn : 0 ≤ n ∧ n ≤ (cap : Int)) (_h : (cap : Int) ≤ (cap2 : Int)) (h5 : ∀ j : Int, 0 ≤ j → j < (cap : Int) → f2 j = f j) : apS f n g w (cpA g f2 0 n w) := by
  refine ⟨fun j h0 h1 => ?_, fun j h0 h1 => ?_⟩
  · unfold cpA
    rw [if_neg (by omega)]
    exact h5 j h0 (by omega)
  · unfold cpA
    rw [if_pos ⟨by omega, by omega⟩]
    congr 1
    omega
theorem szI_in {v : Int} : 1 ≤ szI v ∧ szI v ≤ 3 := by
  unfold szI
  (repeat' split) <;> omega
/-- the digits of a number -/
def dgI (v : Int) : Int → Int := fun j => if v < 10 then 48 + v else if v < 100 then (if j = 0 then 48 + v / 10 else 48 + v % 10) else if j = 0 then 48 + v / 100 else if j = 1 then 48 + v / 10 % 10 else 48 + v % 10
theorem wdI_at {f : Int → Int} {v e j : Int} : wdI f v e j = (if v < 10 then (if j = e + (-1) then 48 + v % 10 else f j) else if v < 100 then (if j = e + (-1) + (-1) then 48 + v / 10 else if j = e + (-1) then 48 + v % 10 else f j) else (if j = e + (-1) + (-1) + (-1) then 48 + v / 100 else if j = e + (-1) + (-1) then 48 + v / 10 % 10 else if j = e + (-1) then 48 + v % 10 else f j)) := by
  unfold wdI
  split
  · rfl
  · split <;> rfl
theorem wdI_bt {f : Int → Int} {v e : Int} (hv : 0 ≤ v ∧ v ≤ 255) (h : btO f) : btO (wdI f v e) := fun j => by
  have := h j
  rw [wdI_at]
  (repeat' split) <;> omega
theorem wdI_ap {f f2 : Int → Int} {v n : Int} {cap cap2 : Nat} (hv : 0 ≤ v ∧ v ≤ 255) (hn : 0 ≤ n ∧ n ≤ (cap : Int)) (_h : (cap : Int) ≤ (cap2 : Int)) (h5 : ∀ j : Int, 0 ≤ j → j < (cap : Int) → f2 j = f j) : apS f n (dgI v) (szI v) (wdI f2 v (n + szI v)) := by
  have hs := szI_v (v := v)
  refine ⟨fun j h0 h1 => ?_, fun j h0 h1 => ?_⟩
  · have := h5 j h0 (by omega)
    rw [wdI_at]
    (repeat' split) <;> omega
  · rw [wdI_at]
    unfold dgI
    (repeat' split) <;> omega

end PureJ2
