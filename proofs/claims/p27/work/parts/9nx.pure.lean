section PureN
/-- the int that the first s places give so far -/
def pvP (T : Int → Int) (q s : Int) : Int := if s ≤ 4 * q then 0 else if s = 4 * q + 1 then T (4 * q) else if s = 4 * q + 2 then T (4 * q) * 256 + T (4 * q + 1) else if s = 4 * q + 3 then (T (4 * q) * 256 + T (4 * q + 1)) * 256 + T (4 * q + 2) else pv T q
theorem pvP_0 {T : Int → Int} {q : Int} (h : 0 ≤ q) : pvP T q ((0 : Nat) : Int) = 0 := if_pos (by omega)
theorem pvP_20 {T : Int → Int} {q : Int} (h0 : 0 ≤ q) (h1 : q < 5) : pvP T q 20 = pv T q := by
  unfold pvP
  rw [if_neg (by omega), if_neg (by omega), if_neg (by omega), if_neg (by omega)]
theorem pvP_o {T : Int → Int} {q s : Int} (h0 : 0 ≤ q) (h : q ≠ s / 4) (hs : 0 ≤ s) : pvP T q (s + 1) = pvP T q s := by
  unfold pvP
  by_cases c : s ≤ 4 * q
  · rw [if_pos (show s + 1 ≤ 4 * q by omega), if_pos c]
  · rw [if_neg (show ¬ s + 1 ≤ 4 * q by omega), if_neg (show ¬ s + 1 = 4 * q + 1 by omega), if_neg (show ¬ s + 1 = 4 * q + 2 by omega), if_neg (show ¬ s + 1 = 4 * q + 3 by omega), if_neg c, if_neg (by omega), if_neg (by omega), if_neg (by omega)]
theorem pvP_s {T : Int → Int} {s : Int} (hs : 0 ≤ s) : pvP T (s / 4) (s + 1) = pvP T (s / 4) s * 256 + T s := by
  obtain ⟨q, r, hr, rfl⟩ : ∃ q r : Int, (0 ≤ r ∧ r < 4) ∧ s = 4 * q + r := ⟨s / 4, s % 4, ⟨by omega, by omega⟩, by omega⟩
  rw [show (4 * q + r) / 4 = q by omega]
  unfold pvP
  rcases (show r = 0 ∨ r = 1 ∨ r = 2 ∨ r = 3 by omega) with rfl | rfl | rfl | rfl
  · rw [if_neg (by omega), if_pos (by omega), if_pos (by omega), show 4 * q + 0 = 4 * q by omega]; omega
  · rw [if_neg (by omega), if_neg (by omega), if_pos (by omega), if_neg (by omega), if_pos rfl]
  · rw [if_neg (by omega), if_neg (by omega), if_neg (by omega), if_pos (by omega), if_neg (by omega), if_neg (by omega), if_pos rfl]
  · rw [if_neg (by omega), if_neg (by omega), if_neg (by omega), if_neg (by omega), if_neg (by omega), if_neg (by omega), if_neg (by omega), if_pos rfl]; rfl
theorem pvP_in {T : Int → Int} {q s : Int} (hT : ∀ j, 0 ≤ T j ∧ T j < 128) (h0 : 0 ≤ q) (h : s ≤ 4 * q + 3) : 0 ≤ pvP T q s ∧ pvP T q s < 8388608 := by
  have a := hT (4 * q); have b := hT (4 * q + 1); have c := hT (4 * q + 2)
  unfold pvP
  (repeat' split) <;> omega
theorem Sb.dropr {a b : va_W} : Sb (a ++ b) a := by
  refine ⟨fun D cl H hP => (vP_app.mp hP).1, fun A hD => ?_⟩
  have h := vD_iff.mp hD
  rw [List.map_append, List.nodup_append] at h
  exact vD_iff.mpr ⟨h.1.1, fun q hq => h.2 q (List.mem_append_left _ hq)⟩
theorem Sb.tr2 {a b c : va_W} (h1 : Sb a b) (h2 : Sb b c) : Sb a c := ⟨fun D cl H h => h2.1 D cl H (h1.1 D cl H h), fun A h => h2.2 A (h1.2 A h)⟩
theorem Sb.bl3d {a b c : va_W} : Sb (c ++ (a ++ b)) (b ++ c) := Sb.tr2 (Sb.bl [2, 0, 1] 3 (fl_app fl1 fl2) (fl_app fl2 fl1) rfl rfl (by decide +kernel) : Sb (c ++ (a ++ b)) (b ++ c ++ a)) Sb.dropr
end PureN
