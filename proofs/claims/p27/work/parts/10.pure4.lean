section Pure4
theorem arrV_c {c : ClassId} {N : Nat} {f g : Nat → Value} (h : ∀ j, j < N → f j = g j) : arrV c N f = arrV c N g := by
  unfold arrV
  have : (fun j : Fin N => f j.val) = fun j => g j.val := funext fun j => h j.val j.isLt
  rw [this]
theorem vcell_i {c : ClassId} {N : Nat} {f g : Int → Int} (h : ∀ j : Int, 0 ≤ j → j < N → f j = g j) : vp_cell c (N, .inl (fI f)) = vp_cell c (N, .inl (fI g)) := by
  rw [vp_cell_i, vp_cell_i]
  exact arrV_c (fun j hj => by unfold fI; rw [h j (by omega) (by omega)])
theorem vcell_l {c : ClassId} {N : Nat} {f g : Int → Int64} (h : ∀ j : Int, 0 ≤ j → j < N → f j = g j) : vp_cell c (N, .inr (.inl (fL f))) = vp_cell c (N, .inr (.inl (fL g))) := by
  rw [vp_cell_l, vp_cell_l]
  exact arrV_c (fun j hj => by unfold fL; rw [h j (by omega) (by omega)])
theorem Sb.cell {ws ws' : va_W} (q : Nat) {a : Nat} {e e' : ClassId × vp_A} (h : ws[q]? = some (a, .inl e)) (he : vp_cell e.1 e.2 = vp_cell e'.1 e'.2) (hw : ws.set q (a, .inl e') = ws') : Sb ws ws' := by
  subst hw
  refine ⟨fun D cl H hP k z hz => ?_, fun A hD => hD.set h⟩
  rw [List.getElem?_set] at hz
  split at hz
  · rename_i hk
    split at hz
    · cases hz
      have := hP q _ h
      show H[a]? = some (vp_cell e'.1 e'.2)
      rw [← he]
      exact this
    · cases hz
  · exact hP k z hz
theorem Sb.arr {ws ws' : va_W} (q : Nat) {a : Nat} {c : ClassId} {N : Nat} {f g : Int → Int} (h : ws[q]? = some (a, .inl (c, N, .inl (fI f)))) (e : ∀ j : Int, 0 ≤ j → j < N → f j = g j) (hw : ws.set q (a, .inl (c, N, .inl (fI g))) = ws') : Sb ws ws' := Sb.cell (e' := (c, N, .inl (fI g))) q h (vcell_i e) hw
end Pure4
