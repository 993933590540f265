section Worlds
def stW (G : GG) (a b c : Nat) (f le : Int → Int) (co : Int → Int64) : va_W := [
  (a, .inr (5, [.ref b, .ref c, vI (f 0), vI (f 1), vI (f 2), vI (f 3), vI (f 4), vI (f 5), vI (f 10), vI (f 6), vI (f 7), vI (f 8), vI (f 9)])),
  (b, .inl (G.2 1, 20, .inl (fI le))), (c, .inl (G.2 2, 20, .inr (.inl (fL co))))]
def liW (G : GG) (ad : Nat → Nat) (F : Int → Int → Int) (K : Int → Int → Int64) : va_W := [
  (ad 0, .inr (3, [.ref (ad 1), .ref (ad 4), .ref (ad 7), .ref (ad 8), vI (F 0 7), vI (F 0 4), vI (F 0 5), vI (F 0 1), vI (F 0 2), vI (F 0 6), vI (F 0 9)])),
  (ad 1, .inr (5, [.ref (ad 2), .ref (ad 3), vI (F 1 0), vI (F 1 1), vI (F 1 2), vI (F 1 3), vI (F 1 4), vI (F 1 5), vI (F 1 10), vI (F 1 6), vI (F 1 7), vI (F 1 8), vI (F 1 9)])),
  (ad 2, .inl (G.2 1, 20, .inl (fI (F 3)))), (ad 3, .inl (G.2 2, 20, .inr (.inl (fL (K 0))))),
  (ad 4, .inr (5, [.ref (ad 5), .ref (ad 6), vI (F 2 0), vI (F 2 1), vI (F 2 2), vI (F 2 3), vI (F 2 4), vI (F 2 5), vI (F 2 10), vI (F 2 6), vI (F 2 7), vI (F 2 8), vI (F 2 9)])),
  (ad 5, .inl (G.2 1, 20, .inl (fI (F 4)))), (ad 6, .inl (G.2 2, 20, .inr (.inl (fL (K 1))))),
  (ad 7, .inl (G.2 1, 10, .inl (fI (F 5)))), (ad 8, .inl (G.2 2, 32, .inr (.inl (fL (K 2)))))]
theorem Sb.w {ws : va_W} : Sb ws (ws ++ []) := by rw [List.append_nil]; exact Sb.rf
theorem inw_0 {c0 : Cond} : ∀ w ∈ u_ws RX0 TX0 3, w ∈ c0 :: wsL_law := fun w h => List.mem_cons_of_mem _ (inlX0 w h)
theorem inw_1 {c0 : Cond} : ∀ w ∈ u_ws RX1 TX1 6, w ∈ c0 :: wsL_law := fun w h => List.mem_cons_of_mem _ (inlX1 w h)
theorem inw_2 {c0 : Cond} : ∀ w ∈ u_ws RX2 TX2 2, w ∈ c0 :: wsL_law := fun w h => List.mem_cons_of_mem _ (inlX2 w h)
theorem inw_3 {c0 : Cond} : ∀ w ∈ u_ws RX3 TX3 11, w ∈ c0 :: wsL_law := fun w h => List.mem_cons_of_mem _ (inlX3 w h)
theorem inw_4 {c0 : Cond} : ∀ w ∈ u_ws RX4 TX4 2, w ∈ c0 :: wsL_law := fun w h => List.mem_cons_of_mem _ (inlX4 w h)
theorem inw_5 {c0 : Cond} : ∀ w ∈ u_ws RX5 TX5 13, w ∈ c0 :: wsL_law := fun w h => List.mem_cons_of_mem _ (inlX5 w h)
theorem inw_6 {c0 : Cond} : ∀ w ∈ u_ws RX6 TX6 11, w ∈ c0 :: wsL_law := fun w h => List.mem_cons_of_mem _ (inlX6 w h)
theorem inw_7 {c0 : Cond} : ∀ w ∈ u_ws RX7 TX7 9, w ∈ c0 :: wsL_law := fun w h => List.mem_cons_of_mem _ (inlX7 w h)
theorem inw_8 {c0 : Cond} : ∀ w ∈ u_ws RX8 TX8 4, w ∈ c0 :: wsL_law := fun w h => List.mem_cons_of_mem _ (inlX8 w h)
theorem fb_01 {z : Int} (h : z = 0 ∨ z = 1) : fits .boolean (vI z) = true := by
  rcases h with rfl | rfl <;> rfl
theorem fb_bI {p : Prop} [Decidable p] : fits .boolean (vI (bI p)) = true := by
  unfold bI
  split <;> rfl
end Worlds
