section M1
set_option maxHeartbeats 4000000 in
set_option maxRecDepth 100000 in
theorem c_X8_at (G : GG) (l : Launch) (s q : Int)  : Ct G l yX8_at wsX8_at 0 0 0 0 [vI s, vI q] ([]) (fun r w => r = some (vI ((18 + (11 * s)) + q)) ∧ w = []) := by
  refine Ct.of (own := RX8) (cc := cX8_at) (maxL := 2) (ret := (some .int)) (by decide) rfl rfl (Nat.le_of_ble_eq_true rfl) (fun X C E hG hl => ?_)
  subst hG hl
  refine v_bipush C dX8_at_0 (by decide +kernel) ?_
  refine v_bipush C dX8_at_2 (by decide +kernel) ?_
  refine v_iload_n C dX8_at_4 rfl 0 rfl ?_
  refine v_imul C dX8_at_5 ?_
  refine v_iadd C dX8_at_6 ?_
  refine v_iload_n C dX8_at_7 rfl 1 rfl ?_
  refine v_iadd C dX8_at_8 ?_
  exact v_iret C E rfl dX8_at_9 (by decide) (by decide) (⟨rfl, rfl⟩)
set_option maxHeartbeats 4000000 in
set_option maxRecDepth 100000 in
theorem c_X8_lengthAt (G : GG) (l : Launch) (s q : Int)  : Ct G l yX8_lengthAt wsX8_lengthAt 0 0 0 0 [vI s, vI q] ([]) (fun r w => r = some (vI ((40 + (20 * s)) + q)) ∧ w = []) := by
  refine Ct.of (own := RX8) (cc := cX8_lengthAt) (maxL := 2) (ret := (some .int)) (by decide) rfl rfl (Nat.le_of_ble_eq_true rfl) (fun X C E hG hl => ?_)
  subst hG hl
  refine v_bipush C dX8_lengthAt_0 (by decide +kernel) ?_
  refine v_bipush C dX8_lengthAt_2 (by decide +kernel) ?_
  refine v_iload_n C dX8_lengthAt_4 rfl 0 rfl ?_
  refine v_imul C dX8_lengthAt_5 ?_
  refine v_iadd C dX8_lengthAt_6 ?_
  refine v_iload_n C dX8_lengthAt_7 rfl 1 rfl ?_
  refine v_iadd C dX8_lengthAt_8 ?_
  exact v_iret C E rfl dX8_lengthAt_9 (by decide) (by decide) (⟨rfl, rfl⟩)
set_option maxHeartbeats 4000000 in
set_option maxRecDepth 100000 in
theorem c_X8_byteOf (G : GG) (l : Launch) (s q j : Int)  : Ct G l yX8_byteOf wsX8_byteOf 0 0 0 0 [vI s, vI q, vI j] ([]) (fun r w => r = some (vI ((80 + (8 * ((20 * s) + q))) + j)) ∧ w = []) := by
  refine Ct.of (own := RX8) (cc := cX8_byteOf) (maxL := 3) (ret := (some .int)) (by decide) rfl rfl (Nat.le_of_ble_eq_true rfl) (fun X C E hG hl => ?_)
  subst hG hl
  refine v_bipush C dX8_byteOf_0 (by decide +kernel) ?_
  refine v_bipush C dX8_byteOf_2 (by decide +kernel) ?_
  refine v_bipush C dX8_byteOf_4 (by decide +kernel) ?_
  refine v_iload_n C dX8_byteOf_6 rfl 0 rfl ?_
  refine v_imul C dX8_byteOf_7 ?_
  refine v_iload_n C dX8_byteOf_8 rfl 1 rfl ?_
  refine v_iadd C dX8_byteOf_9 ?_
  refine v_imul C dX8_byteOf_10 ?_
  refine v_iadd C dX8_byteOf_11 ?_
  refine v_iload_n C dX8_byteOf_12 rfl 2 rfl ?_
  refine v_iadd C dX8_byteOf_13 ?_
  exact v_iret C E rfl dX8_byteOf_14 (by decide) (by decide) (⟨rfl, rfl⟩)
theorem in_X8_of_8 : ∀ w ∈ u_ws RX8 TX8 27, w ∈ wsX8_of := fun w h => List.mem_cons_of_mem _ (List.mem_append_right _ (h))
set_option maxHeartbeats 4000000 in
set_option maxRecDepth 100000 in
theorem c_X8_of (G : GG) (l : Launch) (ad : Nat → Nat) (F : Int → Int → Int) (s q : Int) (h0 : 0 ≤ 18 + 11 * s + q) (h1 : 18 + 11 * s + q < 441) : Ct G l yX8_of wsX8_of 1 21 0 0 [.ref (ad 0), vI s, vI q] ((mW G ad F)) (fun r w => r = some (vI (F 2 ((18 + (11 * s)) + q))) ∧ w = (mW G ad F)) := by
  refine Ct.of (own := RX8) (cc := cX8_of) (maxL := 3) (ret := (some .int)) (by decide) rfl rfl (Nat.le_of_ble_eq_true rfl) (fun X C E hG hl => ?_)
  subst hG hl
  refine v_aload_n C dX8_of_0 rfl 0 rfl ?_
  refine v_get (v := .ref (ad 2)) C in_X8_of_8 0 10 rfl (by decide) (List.mem_of_getElem? (i := 1) rfl) rfl rfl dX8_of_1 ?_
  refine v_iload_n C dX8_of_4 rfl 1 rfl ?_
  refine v_iload_n C dX8_of_5 rfl 2 rfl ?_
  refine v_callS (na := 2) (wc := []) (wr := (mW (vG X) ad F)) C [vI s, vI q] [.ref (ad 2)] (c_X8_at _ _ s q) rfl gX8_of_X8_at (by decide +kernel) rfl rfl Sb.rf rfl rfl dX8_of_6 (fun r w1 hp6_1 => ?_)
  obtain ⟨rfl, rfl⟩ := hp6_1
  show V X 0 0 9 [(0, .ref (ad 0)), (1, vI s), (2, vI q)] [vI ((18 + (11 * s)) + q), .ref (ad 2)] ((mW (vG X) ad F))
  refine v_iald C 2 rfl (by  omega) (by  omega) (by decide) dX8_of_9 ?_
  exact v_iret C E rfl dX8_of_10 (by decide) (by decide) (⟨rfl, rfl⟩)
theorem in_X8_limitOf_8 : ∀ w ∈ u_ws RX8 TX8 27, w ∈ wsX8_limitOf := fun w h => List.mem_cons_of_mem _ (List.mem_append_right _ (h))
set_option maxHeartbeats 4000000 in
set_option maxRecDepth 100000 in
theorem c_X8_limitOf (G : GG) (l : Launch) (ad : Nat → Nat) (F : Int → Int → Int) (s : Int) (h0 : s = 0 ∨ s = 1) : Ct G l yX8_limitOf wsX8_limitOf 2 43 0 0 [.ref (ad 0), vI s] ((mW G ad F)) (fun r w => r = some (vI ((F 2 ((18 + (11 * s)) + 2)) + (F 2 ((18 + (11 * s)) + 3)))) ∧ w = (mW G ad F)) := by
  refine Ct.of (own := RX8) (cc := cX8_limitOf) (maxL := 2) (ret := (some .int)) (by decide) rfl rfl (Nat.le_of_ble_eq_true rfl) (fun X C E hG hl => ?_)
  subst hG hl
  refine v_aload_n C dX8_limitOf_0 rfl 0 rfl ?_
  refine v_iload_n C dX8_limitOf_1 rfl 1 rfl ?_
  refine v_iconst C dX8_limitOf_2 ?_
  refine v_callV (na := 2) (wc := (mW (vG X) ad F)) (wr := []) C [vI s, vI 2] [] (c_X8_of _ _ ad F s 2 (by omega) (by omega)) rfl gX8_limitOf_X8_of rfl (by decide +kernel) 0 rfl rfl rfl rfl Sb.w rfl rfl dX8_limitOf_3 (fun r w1 hp3_1 => ?_)
  obtain ⟨rfl, rfl⟩ := hp3_1
  show V X 0 0 6 [(0, .ref (ad 0)), (1, vI s)] [vI (F 2 ((18 + (11 * s)) + 2))] ((mW (vG X) ad F))
  refine v_aload_n C dX8_limitOf_6 rfl 0 rfl ?_
  refine v_iload_n C dX8_limitOf_7 rfl 1 rfl ?_
  refine v_iconst C dX8_limitOf_8 ?_
  refine v_callV (na := 2) (wc := (mW (vG X) ad F)) (wr := []) C [vI s, vI 3] [vI (F 2 ((18 + (11 * s)) + 2))] (c_X8_of _ _ ad F s 3 (by omega) (by omega)) rfl gX8_limitOf_X8_of rfl (by decide +kernel) 0 rfl rfl rfl rfl Sb.w rfl rfl dX8_limitOf_9 (fun r w1 hp9_2 => ?_)
  obtain ⟨rfl, rfl⟩ := hp9_2
  show V X 0 0 12 [(0, .ref (ad 0)), (1, vI s)] [vI (F 2 ((18 + (11 * s)) + 3)), vI (F 2 ((18 + (11 * s)) + 2))] ((mW (vG X) ad F))
  refine v_iadd C dX8_limitOf_12 ?_
  exact v_iret C E rfl dX8_limitOf_13 (by decide) (by decide) (⟨rfl, rfl⟩)
end M1
