section UpId
theorem up_id {f : Int → Int} {i v : Int} (h : f i = v) : up f i v = f := by
  funext j
  unfold up
  split
  · rename_i e; rw [e, h]
  · rfl
end UpId
