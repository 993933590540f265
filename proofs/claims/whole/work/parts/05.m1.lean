section M1
set_option maxHeartbeats 4000000 in
set_option maxRecDepth 100000 in
theorem c_X8_at (G : GG) (l : Launch) (s q : Int)  : Ct G l yX8_at (Cond.code yX8_at cX8_at 2 (some .int) :: wsL_law) 0 0 0 0 [vI s, vI q] ([]) (fun r w => r = some (vI ((18 + (11 * s)) + q)) ∧ w = []) := by
  refine Ct.of (own := RX8) (cc := cX8_at) (maxL := 2) (ret := (some .int)) (by decide) rfl rfl (Nat.le_of_ble_eq_true rfl) (fun X C E M hG hl => ?_)
  subst hG hl
  refine v_bipush C dX8_at_0 (by decide +kernel) ?_
  refine v_bipush C dX8_at_2 (by decide +kernel) ?_
  refine v_iload_n C dX8_at_4 rfl 0 rfl ?_
  refine v_imul C dX8_at_5 ?_
  refine v_iadd C dX8_at_6 ?_
  refine v_iload_n C dX8_at_7 rfl 1 rfl ?_
  refine v_iadd C dX8_at_8 ?_
  exact v_iret C E rfl dX8_at_9 (by decide) (by decide) (⟨rfl, rfl⟩)
set_option maxHeartbeats 4000000 in
set_option maxRecDepth 100000 in
theorem c_X8_lengthAt (G : GG) (l : Launch) (s q : Int)  : Ct G l yX8_lengthAt (Cond.code yX8_lengthAt cX8_lengthAt 2 (some .int) :: wsL_law) 0 0 0 0 [vI s, vI q] ([]) (fun r w => r = some (vI ((40 + (20 * s)) + q)) ∧ w = []) := by
  refine Ct.of (own := RX8) (cc := cX8_lengthAt) (maxL := 2) (ret := (some .int)) (by decide) rfl rfl (Nat.le_of_ble_eq_true rfl) (fun X C E M hG hl => ?_)
  subst hG hl
  refine v_bipush C dX8_lengthAt_0 (by decide +kernel) ?_
  refine v_bipush C dX8_lengthAt_2 (by decide +kernel) ?_
  refine v_iload_n C dX8_lengthAt_4 rfl 0 rfl ?_
  refine v_imul C dX8_lengthAt_5 ?_
  refine v_iadd C dX8_lengthAt_6 ?_
  refine v_iload_n C dX8_lengthAt_7 rfl 1 rfl ?_
  refine v_iadd C dX8_lengthAt_8 ?_
  exact v_iret C E rfl dX8_lengthAt_9 (by decide) (by decide) (⟨rfl, rfl⟩)
set_option maxHeartbeats 4000000 in
set_option maxRecDepth 100000 in
theorem c_X8_byteOf (G : GG) (l : Launch) (s q j : Int)  : Ct G l yX8_byteOf (Cond.code yX8_byteOf cX8_byteOf 3 (some .int) :: wsL_law) 0 0 0 0 [vI s, vI q, vI j] ([]) (fun r w => r = some (vI ((80 + (8 * ((20 * s) + q))) + j)) ∧ w = []) := by
  refine Ct.of (own := RX8) (cc := cX8_byteOf) (maxL := 3) (ret := (some .int)) (by decide) rfl rfl (Nat.le_of_ble_eq_true rfl) (fun X C E M hG hl => ?_)
  subst hG hl
  refine v_bipush C dX8_byteOf_0 (by decide +kernel) ?_
  refine v_bipush C dX8_byteOf_2 (by decide +kernel) ?_
  refine v_bipush C dX8_byteOf_4 (by decide +kernel) ?_
  refine v_iload_n C dX8_byteOf_6 rfl 0 rfl ?_
  refine v_imul C dX8_byteOf_7 ?_
  refine v_iload_n C dX8_byteOf_8 rfl 1 rfl ?_
  refine v_iadd C dX8_byteOf_9 ?_
  refine v_imul C dX8_byteOf_10 ?_
  refine v_iadd C dX8_byteOf_11 ?_
  refine v_iload_n C dX8_byteOf_12 rfl 2 rfl ?_
  refine v_iadd C dX8_byteOf_13 ?_
  exact v_iret C E rfl dX8_byteOf_14 (by decide) (by decide) (⟨rfl, rfl⟩)
set_option maxHeartbeats 4000000 in
set_option maxRecDepth 100000 in
theorem c_X8_within (G : GG) (l : Launch) (v lo hi : Int) (h1 : sm v) (h2 : sm lo) (h3 : sm hi) : Ct G l yX8_within (Cond.code yX8_within cX8_within 3 (some .boolean) :: wsL_law) 0 0 0 0 [vI v, vI lo, vI hi] ([]) (fun r w => r = some (vI (bI (lo ≤ v ∧ v ≤ hi))) ∧ w = []) := by
  refine Ct.of (own := RX8) (cc := cX8_within) (maxL := 3) (ret := (some .boolean)) (by decide) rfl rfl (Nat.le_of_ble_eq_true rfl) (fun X C E M hG hl => ?_)
  subst hG hl
  refine v_iload_n C dX8_within_0 rfl 0 rfl ?_
  refine v_iload_n C dX8_within_1 rfl 1 rfl ?_
  refine v_icmp_lt (tgt := 14) C dX8_within_2 (by decide) (by  first | assumption | exact ⟨by omega, by omega⟩) (by  first | assumption | exact ⟨by omega, by omega⟩) (fun c2 => ?_) (fun c2 => ?_)
  · refine v_iconst C dX8_within_14 ?_
    exact v_zret C E rfl rfl dX8_within_15 (by decide) (by decide) (⟨by rw [bI_f (by omega)], rfl⟩)
  · refine v_iload_n C dX8_within_5 rfl 0 rfl ?_
    refine v_iload_n C dX8_within_6 rfl 2 rfl ?_
    refine v_icmp_gt (tgt := 14) C dX8_within_7 (by decide) (by  first | assumption | exact ⟨by omega, by omega⟩) (by  first | assumption | exact ⟨by omega, by omega⟩) (fun c7 => ?_) (fun c7 => ?_)
    · refine v_iconst C dX8_within_14 ?_
      exact v_zret C E rfl rfl dX8_within_15 (by decide) (by decide) (⟨by rw [bI_f (by omega)], rfl⟩)
    · refine v_iconst C dX8_within_10 ?_
      refine v_goto (tgt := 15) C dX8_within_11 (by decide) ?_
      exact v_zret C E rfl rfl dX8_within_15 (by decide) (by decide) (⟨by rw [bI_t (by omega)], rfl⟩)
set_option maxHeartbeats 4000000 in
set_option maxRecDepth 100000 in
theorem c_X8_isStation (G : GG) (l : Launch) (s : Int) (h1 : sm s) : Ct G l yX8_isStation (Cond.code yX8_isStation cX8_isStation 1 (some .boolean) :: wsL_law) 1 22 0 0 [vI s] ([]) (fun r w => r = some (vI (bI (0 ≤ s ∧ s ≤ 1))) ∧ w = []) := by
  refine Ct.of (own := RX8) (cc := cX8_isStation) (maxL := 1) (ret := (some .boolean)) (by decide) rfl rfl (Nat.le_of_ble_eq_true rfl) (fun X C E M hG hl => ?_)
  subst hG hl
  refine v_iload_n C dX8_isStation_0 rfl 0 rfl ?_
  refine v_iconst C dX8_isStation_1 ?_
  refine v_iconst C dX8_isStation_2 ?_
  refine v_callS (na := 3) (wy := (Cond.code yX8_within cX8_within 3 (some .boolean) :: wsL_law)) (wc := []) (wr := []) C [vI s, vI 0, vI 1] [] (c_X8_within _ _ s 0 1 (by first | assumption | exact ⟨by omega, by omega⟩) (by decide) (by decide)) rfl (gwS mw_343 mw_341 mw_342 mw_5) (by decide +kernel) rfl rfl Sb.w rfl rfl dX8_isStation_3 (fun r w1 hp3_1 => ?_)
  obtain ⟨rfl, rfl⟩ := hp3_1
  show V X 0 0 6 [(0, vI s)] [vI (bI (0 ≤ s ∧ s ≤ 1))] ([])
  exact v_zret C E rfl nb_bI dX8_isStation_6 (by decide) (by decide) (⟨rfl, rfl⟩)
set_option maxHeartbeats 4000000 in
set_option maxRecDepth 100000 in
theorem c_X8_of (G : GG) (l : Launch) (ad : Nat → Nat) (F : Int → Int → Int) (s q : Int) (h0 : 0 ≤ 18 + 11 * s + q) (h1 : 18 + 11 * s + q < 441) : Ct G l yX8_of (Cond.code yX8_of cX8_of 3 (some .int) :: wsL_law) 1 21 0 0 [.ref (ad 0), vI s, vI q] ((mW G ad F)) (fun r w => r = some (vI (F 2 ((18 + (11 * s)) + q))) ∧ w = (mW G ad F)) := by
  refine Ct.of (own := RX8) (cc := cX8_of) (maxL := 3) (ret := (some .int)) (by decide) rfl rfl (Nat.le_of_ble_eq_true rfl) (fun X C E M hG hl => ?_)
  subst hG hl
  refine v_aload_n C dX8_of_0 rfl 0 rfl ?_
  refine v_get (v := .ref (ad 2)) C inw_8 0 10 rfl (by decide) (List.mem_cons_of_mem _ mw_105) rfl rfl dX8_of_1 ?_
  refine v_iload_n C dX8_of_4 rfl 1 rfl ?_
  refine v_iload_n C dX8_of_5 rfl 2 rfl ?_
  refine v_callS (na := 2) (wy := (Cond.code yX8_at cX8_at 2 (some .int) :: wsL_law)) (wc := []) (wr := (mW (vG X) ad F)) C [vI s, vI q] [.ref (ad 2)] (c_X8_at _ _ s q ) rfl (gwS mw_120 mw_118 mw_119 mw_5) (by decide +kernel) rfl rfl Sb.rf rfl rfl dX8_of_6 (fun r w1 hp6_1 => ?_)
  obtain ⟨rfl, rfl⟩ := hp6_1
  show V X 0 0 9 [(0, .ref (ad 0)), (1, vI s), (2, vI q)] [vI ((18 + (11 * s)) + q), .ref (ad 2)] ((mW (vG X) ad F))
  refine v_iald C 2 rfl (by  omega) (by  omega) (by decide) dX8_of_9 ?_
  exact v_iret C E rfl dX8_of_10 (by decide) (by decide) (⟨rfl, rfl⟩)
set_option maxHeartbeats 4000000 in
set_option maxRecDepth 100000 in
theorem c_X8_limitOf (G : GG) (l : Launch) (ad : Nat → Nat) (F : Int → Int → Int) (s : Int) (h0 : s = 0 ∨ s = 1) : Ct G l yX8_limitOf (Cond.code yX8_limitOf cX8_limitOf 2 (some .int) :: wsL_law) 2 43 0 0 [.ref (ad 0), vI s] ((mW G ad F)) (fun r w => r = some (vI ((F 2 ((18 + (11 * s)) + 2)) + (F 2 ((18 + (11 * s)) + 3)))) ∧ w = (mW G ad F)) := by
  refine Ct.of (own := RX8) (cc := cX8_limitOf) (maxL := 2) (ret := (some .int)) (by decide) rfl rfl (Nat.le_of_ble_eq_true rfl) (fun X C E M hG hl => ?_)
  subst hG hl
  refine v_aload_n C dX8_limitOf_0 rfl 0 rfl ?_
  refine v_iload_n C dX8_limitOf_1 rfl 1 rfl ?_
  refine v_iconst C dX8_limitOf_2 ?_
  refine v_callV (na := 2) (wy := (Cond.code yX8_of cX8_of 3 (some .int) :: wsL_law)) (wc := (mW (vG X) ad F)) (wr := []) C [vI s, vI 2] [] (c_X8_of _ _ ad F s 2 (by omega) (by omega)) rfl (gwV mw_129 mw_126 mw_127 mw_128 mw_5) rfl (by decide +kernel) 0 rfl rfl rfl rfl Sb.w rfl rfl dX8_limitOf_3 (fun r w1 hp3_1 => ?_)
  obtain ⟨rfl, rfl⟩ := hp3_1
  show V X 0 0 6 [(0, .ref (ad 0)), (1, vI s)] [vI (F 2 ((18 + (11 * s)) + 2))] ((mW (vG X) ad F))
  refine v_aload_n C dX8_limitOf_6 rfl 0 rfl ?_
  refine v_iload_n C dX8_limitOf_7 rfl 1 rfl ?_
  refine v_iconst C dX8_limitOf_8 ?_
  refine v_callV (na := 2) (wy := (Cond.code yX8_of cX8_of 3 (some .int) :: wsL_law)) (wc := (mW (vG X) ad F)) (wr := []) C [vI s, vI 3] [vI (F 2 ((18 + (11 * s)) + 2))] (c_X8_of _ _ ad F s 3 (by omega) (by omega)) rfl (gwV mw_129 mw_126 mw_127 mw_128 mw_5) rfl (by decide +kernel) 0 rfl rfl rfl rfl Sb.w rfl rfl dX8_limitOf_9 (fun r w1 hp9_2 => ?_)
  obtain ⟨rfl, rfl⟩ := hp9_2
  show V X 0 0 12 [(0, .ref (ad 0)), (1, vI s)] [vI (F 2 ((18 + (11 * s)) + 3)), vI (F 2 ((18 + (11 * s)) + 2))] ((mW (vG X) ad F))
  refine v_iadd C dX8_limitOf_12 ?_
  exact v_iret C E rfl dX8_limitOf_13 (by decide) (by decide) (⟨rfl, rfl⟩)
set_option maxHeartbeats 4000000 in
set_option maxRecDepth 100000 in
theorem c_X8_nextMessage (G : GG) (l : Launch) (ad : Nat → Nat) (F : Int → Int → Int) (hT : F 2 1 = 0 ∨ F 2 1 = 1) : Ct G l yX8_nextMessage (Cond.code yX8_nextMessage cX8_nextMessage 1 (some .int) :: wsL_law) 2 43 0 0 [.ref (ad 0)] ((mW G ad F)) (fun r w => r = some (vI ((F 2 ((18 + (11 * (F 2 1))) + 6)) + (F 2 2))) ∧ w = (mW G ad F)) := by
  refine Ct.of (own := RX8) (cc := cX8_nextMessage) (maxL := 1) (ret := (some .int)) (by decide) rfl rfl (Nat.le_of_ble_eq_true rfl) (fun X C E M hG hl => ?_)
  subst hG hl
  refine v_aload_n C dX8_nextMessage_0 rfl 0 rfl ?_
  refine v_aload_n C dX8_nextMessage_1 rfl 0 rfl ?_
  refine v_get (v := .ref (ad 2)) C inw_8 0 10 rfl (by decide) (List.mem_cons_of_mem _ mw_105) rfl rfl dX8_nextMessage_2 ?_
  refine v_iconst C dX8_nextMessage_5 ?_
  refine v_iald C 2 rfl (by decide) (by decide) (by decide) dX8_nextMessage_6 ?_
  refine v_bipush C dX8_nextMessage_7 (by decide +kernel) ?_
  refine v_callV (na := 2) (wy := (Cond.code yX8_of cX8_of 3 (some .int) :: wsL_law)) (wc := (mW (vG X) ad F)) (wr := []) C [vI (F 2 1), vI 6] [] (c_X8_of _ _ ad F (F 2 1) 6 (by omega) (by omega)) rfl (gwV mw_129 mw_126 mw_127 mw_128 mw_5) rfl (by decide +kernel) 0 rfl rfl rfl rfl Sb.w rfl rfl dX8_nextMessage_9 (fun r w1 hp9_1 => ?_)
  obtain ⟨rfl, rfl⟩ := hp9_1
  show V X 0 0 12 [(0, .ref (ad 0))] [vI (F 2 ((18 + (11 * (F 2 1))) + 6))] ((mW (vG X) ad F))
  refine v_aload_n C dX8_nextMessage_12 rfl 0 rfl ?_
  refine v_get (v := .ref (ad 2)) C inw_8 0 10 rfl (by decide) (List.mem_cons_of_mem _ mw_105) rfl rfl dX8_nextMessage_13 ?_
  refine v_iconst C dX8_nextMessage_16 ?_
  refine v_iald C 2 rfl (by decide) (by decide) (by decide) dX8_nextMessage_17 ?_
  refine v_iadd C dX8_nextMessage_18 ?_
  exact v_iret C E rfl dX8_nextMessage_19 (by decide) (by decide) (⟨rfl, rfl⟩)
set_option maxHeartbeats 4000000 in
set_option maxRecDepth 100000 in
theorem c_X8_isData (G : GG) (l : Launch) (ad : Nat → Nat) (F : Int → Int → Int) (hT : F 2 1 = 0 ∨ F 2 1 = 1) (hB : sB 1073741824 (F 2)) : Ct G l yX8_isData (Cond.code yX8_isData cX8_isData 2 (some .boolean) :: wsL_law) 3 63 0 0 [.ref (ad 0)] ((mW G ad F)) (fun r w => r = some (vI (bI (isDataP (F 2)))) ∧ w = (mW G ad F)) := by
  refine Ct.of (own := RX8) (cc := cX8_isData) (maxL := 2) (ret := (some .boolean)) (by decide) rfl rfl (Nat.le_of_ble_eq_true rfl) (fun X C E M hG hl => ?_)
  subst hG hl
  refine v_aload_n C dX8_isData_0 rfl 0 rfl ?_
  refine v_get (v := .ref (ad 2)) C inw_8 0 10 rfl (by decide) (List.mem_cons_of_mem _ mw_105) rfl rfl dX8_isData_1 ?_
  refine v_iconst C dX8_isData_4 ?_
  refine v_iald C 2 rfl (by decide) (by decide) (by decide) dX8_isData_5 ?_
  refine v_istore_n C M dX8_isData_6 rfl (by decide) (L' := [(1, vI (F 2 1)), (0, .ref (ad 0))]) rfl ?_
  refine v_aload_n C dX8_isData_7 rfl 1 rfl ?_
  refine v_get (v := .ref (ad 2)) C inw_8 0 10 rfl (by decide) (List.mem_cons_of_mem _ mw_105) rfl rfl dX8_isData_8 ?_
  refine v_bipush C dX8_isData_11 (by decide +kernel) ?_
  refine v_iald C 2 rfl (by decide) (by decide) (by decide) dX8_isData_13 ?_
  refine v_if_ne (tgt := 63) C dX8_isData_14 (by decide) (by have := hB 6; first | assumption | exact ⟨by omega, by omega⟩) (fun c14 => ?_) (fun c14 => ?_)
  · refine v_iconst C dX8_isData_63 ?_
    exact v_zret C E rfl rfl dX8_isData_64 (by decide) (by decide) (⟨by rw [bI_f (by omega)], rfl⟩)
  · refine v_aload_n C dX8_isData_17 rfl 1 rfl ?_
    refine v_get (v := .ref (ad 2)) C inw_8 0 10 rfl (by decide) (List.mem_cons_of_mem _ mw_105) rfl rfl dX8_isData_18 ?_
    refine v_iconst C dX8_isData_21 ?_
    refine v_iald C 2 rfl (by decide) (by decide) (by decide) dX8_isData_22 ?_
    refine v_aload_n C dX8_isData_23 rfl 1 rfl ?_
    refine v_get (v := .ref (ad 2)) C inw_8 0 10 rfl (by decide) (List.mem_cons_of_mem _ mw_105) rfl rfl dX8_isData_24 ?_
    refine v_iconst C dX8_isData_27 ?_
    refine v_iald C 2 rfl (by decide) (by decide) (by decide) dX8_isData_28 ?_
    refine v_icmp_ge (tgt := 63) C dX8_isData_29 (by decide) (by have := hB 2; first | assumption | exact ⟨by omega, by omega⟩) (by have := hB 4; first | assumption | exact ⟨by omega, by omega⟩) (fun c29 => ?_) (fun c29 => ?_)
    · refine v_iconst C dX8_isData_63 ?_
      exact v_zret C E rfl rfl dX8_isData_64 (by decide) (by decide) (⟨by rw [bI_f (by omega)], rfl⟩)
    · refine v_aload_n C dX8_isData_32 rfl 1 rfl ?_
      refine v_callV (na := 0) (wy := (Cond.code yX8_nextMessage cX8_nextMessage 1 (some .int) :: wsL_law)) (wc := (mW (vG X) ad F)) (wr := []) C [] [] (c_X8_nextMessage _ _ ad F hT) rfl (gwV mw_546 mw_543 mw_544 mw_545 mw_5) rfl (by decide +kernel) 0 rfl rfl rfl rfl Sb.w rfl rfl dX8_isData_33 (fun r w1 hp33_1 => ?_)
      obtain ⟨rfl, rfl⟩ := hp33_1
      show V X 0 0 36 [(1, vI (F 2 1)), (0, .ref (ad 0))] [vI ((F 2 ((18 + (11 * (F 2 1))) + 6)) + (F 2 2))] ((mW (vG X) ad F))
      refine v_aload_n C dX8_isData_36 rfl 1 rfl ?_
      refine v_iload_n C dX8_isData_37 rfl 0 rfl ?_
      refine v_iconst C dX8_isData_38 ?_
      refine v_callV (na := 2) (wy := (Cond.code yX8_of cX8_of 3 (some .int) :: wsL_law)) (wc := (mW (vG X) ad F)) (wr := []) C [vI (F 2 1), vI 0] [vI ((F 2 ((18 + (11 * (F 2 1))) + 6)) + (F 2 2))] (c_X8_of _ _ ad F (F 2 1) 0 (by have := hB 1; omega) (by have := hB 1; omega)) rfl (gwV mw_129 mw_126 mw_127 mw_128 mw_5) rfl (by decide +kernel) 0 rfl rfl rfl rfl Sb.w rfl rfl dX8_isData_39 (fun r w1 hp39_2 => ?_)
      obtain ⟨rfl, rfl⟩ := hp39_2
      show V X 0 0 42 [(1, vI (F 2 1)), (0, .ref (ad 0))] [vI (F 2 ((18 + (11 * (F 2 1))) + 0)), vI ((F 2 ((18 + (11 * (F 2 1))) + 6)) + (F 2 2))] ((mW (vG X) ad F))
      refine v_icmp_ge (tgt := 63) C dX8_isData_42 (by decide) (by have := hB ((18 + (11 * (F 2 1))) + 6); have := hB 1; have := hB 2; first | assumption | exact ⟨by omega, by omega⟩) (by have := hB ((18 + (11 * (F 2 1))) + 0); have := hB 1; first | assumption | exact ⟨by omega, by omega⟩) (fun c42 => ?_) (fun c42 => ?_)
      · refine v_iconst C dX8_isData_63 ?_
        exact v_zret C E rfl rfl dX8_isData_64 (by decide) (by decide) (⟨by rw [bI_f (by omega)], rfl⟩)
      · refine v_aload_n C dX8_isData_45 rfl 1 rfl ?_
        refine v_callV (na := 0) (wy := (Cond.code yX8_nextMessage cX8_nextMessage 1 (some .int) :: wsL_law)) (wc := (mW (vG X) ad F)) (wr := []) C [] [] (c_X8_nextMessage _ _ ad F hT) rfl (gwV mw_546 mw_543 mw_544 mw_545 mw_5) rfl (by decide +kernel) 0 rfl rfl rfl rfl Sb.w rfl rfl dX8_isData_46 (fun r w1 hp46_3 => ?_)
        obtain ⟨rfl, rfl⟩ := hp46_3
        show V X 0 0 49 [(1, vI (F 2 1)), (0, .ref (ad 0))] [vI ((F 2 ((18 + (11 * (F 2 1))) + 6)) + (F 2 2))] ((mW (vG X) ad F))
        refine v_aload_n C dX8_isData_49 rfl 1 rfl ?_
        refine v_iload_n C dX8_isData_50 rfl 0 rfl ?_
        refine v_bipush C dX8_isData_51 (by decide +kernel) ?_
        refine v_callV (na := 2) (wy := (Cond.code yX8_of cX8_of 3 (some .int) :: wsL_law)) (wc := (mW (vG X) ad F)) (wr := []) C [vI (F 2 1), vI 7] [vI ((F 2 ((18 + (11 * (F 2 1))) + 6)) + (F 2 2))] (c_X8_of _ _ ad F (F 2 1) 7 (by have := hB 1; omega) (by have := hB 1; omega)) rfl (gwV mw_129 mw_126 mw_127 mw_128 mw_5) rfl (by decide +kernel) 0 rfl rfl rfl rfl Sb.w rfl rfl dX8_isData_53 (fun r w1 hp53_4 => ?_)
        obtain ⟨rfl, rfl⟩ := hp53_4
        show V X 0 0 56 [(1, vI (F 2 1)), (0, .ref (ad 0))] [vI (F 2 ((18 + (11 * (F 2 1))) + 7)), vI ((F 2 ((18 + (11 * (F 2 1))) + 6)) + (F 2 2))] ((mW (vG X) ad F))
        refine v_icmp_ge (tgt := 63) C dX8_isData_56 (by decide) (by have := hB ((18 + (11 * (F 2 1))) + 6); have := hB 1; have := hB 2; first | assumption | exact ⟨by omega, by omega⟩) (by have := hB ((18 + (11 * (F 2 1))) + 7); have := hB 1; first | assumption | exact ⟨by omega, by omega⟩) (fun c56 => ?_) (fun c56 => ?_)
        · refine v_iconst C dX8_isData_63 ?_
          exact v_zret C E rfl rfl dX8_isData_64 (by decide) (by decide) (⟨by rw [bI_f (by omega)], rfl⟩)
        · refine v_iconst C dX8_isData_59 ?_
          refine v_goto (tgt := 64) C dX8_isData_60 (by decide) ?_
          exact v_zret C E rfl rfl dX8_isData_64 (by decide) (by decide) (⟨by rw [bI_t (by omega)], rfl⟩)
set_option maxHeartbeats 4000000 in
set_option maxRecDepth 100000 in
theorem c_X8_buffered (G : GG) (l : Launch) (ad : Nat → Nat) (F : Int → Int → Int) (s : Int) (h0 : s = 0 ∨ s = 1) : Ct G l yX8_buffered (Cond.code yX8_buffered cX8_buffered 2 (some .int) :: wsL_law) 2 43 0 0 [.ref (ad 0), vI s] ((mW G ad F)) (fun r w => r = some (vI ((F 2 ((18 + (11 * s)) + 1)) - (F 2 ((18 + (11 * s)) + 2)))) ∧ w = (mW G ad F)) := by
  refine Ct.of (own := RX8) (cc := cX8_buffered) (maxL := 2) (ret := (some .int)) (by decide) rfl rfl (Nat.le_of_ble_eq_true rfl) (fun X C E M hG hl => ?_)
  subst hG hl
  refine v_aload_n C dX8_buffered_0 rfl 0 rfl ?_
  refine v_iload_n C dX8_buffered_1 rfl 1 rfl ?_
  refine v_iconst C dX8_buffered_2 ?_
  refine v_callV (na := 2) (wy := (Cond.code yX8_of cX8_of 3 (some .int) :: wsL_law)) (wc := (mW (vG X) ad F)) (wr := []) C [vI s, vI 1] [] (c_X8_of _ _ ad F s 1 (by omega) (by omega)) rfl (gwV mw_129 mw_126 mw_127 mw_128 mw_5) rfl (by decide +kernel) 0 rfl rfl rfl rfl Sb.w rfl rfl dX8_buffered_3 (fun r w1 hp3_1 => ?_)
  obtain ⟨rfl, rfl⟩ := hp3_1
  show V X 0 0 6 [(0, .ref (ad 0)), (1, vI s)] [vI (F 2 ((18 + (11 * s)) + 1))] ((mW (vG X) ad F))
  refine v_aload_n C dX8_buffered_6 rfl 0 rfl ?_
  refine v_iload_n C dX8_buffered_7 rfl 1 rfl ?_
  refine v_iconst C dX8_buffered_8 ?_
  refine v_callV (na := 2) (wy := (Cond.code yX8_of cX8_of 3 (some .int) :: wsL_law)) (wc := (mW (vG X) ad F)) (wr := []) C [vI s, vI 2] [vI (F 2 ((18 + (11 * s)) + 1))] (c_X8_of _ _ ad F s 2 (by omega) (by omega)) rfl (gwV mw_129 mw_126 mw_127 mw_128 mw_5) rfl (by decide +kernel) 0 rfl rfl rfl rfl Sb.w rfl rfl dX8_buffered_9 (fun r w1 hp9_2 => ?_)
  obtain ⟨rfl, rfl⟩ := hp9_2
  show V X 0 0 12 [(0, .ref (ad 0)), (1, vI s)] [vI (F 2 ((18 + (11 * s)) + 2)), vI (F 2 ((18 + (11 * s)) + 1))] ((mW (vG X) ad F))
  refine v_isub C dX8_buffered_12 ?_
  exact v_iret C E rfl dX8_buffered_13 (by decide) (by decide) (⟨rfl, rfl⟩)
set_option maxHeartbeats 4000000 in
set_option maxRecDepth 100000 in
theorem c_X8_isOver (G : GG) (l : Launch) (ad : Nat → Nat) (F : Int → Int → Int) (hB : sB 1073741824 (F 2)) : Ct G l yX8_isOver (Cond.code yX8_isOver cX8_isOver 1 (some .boolean) :: wsL_law) 2 43 0 0 [.ref (ad 0)] ((mW G ad F)) (fun r w => r = some (vI (bI (isOverP (F 2)))) ∧ w = (mW G ad F)) := by
  refine Ct.of (own := RX8) (cc := cX8_isOver) (maxL := 1) (ret := (some .boolean)) (by decide) rfl rfl (Nat.le_of_ble_eq_true rfl) (fun X C E M hG hl => ?_)
  subst hG hl
  refine v_aload_n C dX8_isOver_0 rfl 0 rfl ?_
  refine v_iconst C dX8_isOver_1 ?_
  refine v_iconst C dX8_isOver_2 ?_
  refine v_callV (na := 2) (wy := (Cond.code yX8_of cX8_of 3 (some .int) :: wsL_law)) (wc := (mW (vG X) ad F)) (wr := []) C [vI 0, vI 1] [] (c_X8_of _ _ ad F 0 1 (by decide) (by decide)) rfl (gwV mw_129 mw_126 mw_127 mw_128 mw_5) rfl (by decide +kernel) 0 rfl rfl rfl rfl Sb.w rfl rfl dX8_isOver_3 (fun r w1 hp3_1 => ?_)
  obtain ⟨rfl, rfl⟩ := hp3_1
  show V X 0 0 6 [(0, .ref (ad 0))] [vI (F 2 19)] ((mW (vG X) ad F))
  refine v_aload_n C dX8_isOver_6 rfl 0 rfl ?_
  refine v_iconst C dX8_isOver_7 ?_
  refine v_iconst C dX8_isOver_8 ?_
  refine v_callV (na := 2) (wy := (Cond.code yX8_of cX8_of 3 (some .int) :: wsL_law)) (wc := (mW (vG X) ad F)) (wr := []) C [vI 1, vI 0] [vI (F 2 19)] (c_X8_of _ _ ad F 1 0 (by decide) (by decide)) rfl (gwV mw_129 mw_126 mw_127 mw_128 mw_5) rfl (by decide +kernel) 0 rfl rfl rfl rfl Sb.w rfl rfl dX8_isOver_9 (fun r w1 hp9_2 => ?_)
  obtain ⟨rfl, rfl⟩ := hp9_2
  show V X 0 0 12 [(0, .ref (ad 0))] [vI (F 2 29), vI (F 2 19)] ((mW (vG X) ad F))
  refine v_icmp_ne (tgt := 34) C dX8_isOver_12 (by decide) (by have := hB 19; first | assumption | exact ⟨by omega, by omega⟩) (by have := hB 29; first | assumption | exact ⟨by omega, by omega⟩) (fun c12 => ?_) (fun c12 => ?_)
  · refine v_iconst C dX8_isOver_34 ?_
    exact v_zret C E rfl rfl dX8_isOver_35 (by decide) (by decide) (⟨by rw [bI_f (by omega)], rfl⟩)
  · refine v_aload_n C dX8_isOver_15 rfl 0 rfl ?_
    refine v_iconst C dX8_isOver_16 ?_
    refine v_iconst C dX8_isOver_17 ?_
    refine v_callV (na := 2) (wy := (Cond.code yX8_of cX8_of 3 (some .int) :: wsL_law)) (wc := (mW (vG X) ad F)) (wr := []) C [vI 1, vI 1] [] (c_X8_of _ _ ad F 1 1 (by decide) (by decide)) rfl (gwV mw_129 mw_126 mw_127 mw_128 mw_5) rfl (by decide +kernel) 0 rfl rfl rfl rfl Sb.w rfl rfl dX8_isOver_18 (fun r w1 hp18_3 => ?_)
    obtain ⟨rfl, rfl⟩ := hp18_3
    show V X 0 0 21 [(0, .ref (ad 0))] [vI (F 2 30)] ((mW (vG X) ad F))
    refine v_aload_n C dX8_isOver_21 rfl 0 rfl ?_
    refine v_iconst C dX8_isOver_22 ?_
    refine v_iconst C dX8_isOver_23 ?_
    refine v_callV (na := 2) (wy := (Cond.code yX8_of cX8_of 3 (some .int) :: wsL_law)) (wc := (mW (vG X) ad F)) (wr := []) C [vI 0, vI 0] [vI (F 2 30)] (c_X8_of _ _ ad F 0 0 (by decide) (by decide)) rfl (gwV mw_129 mw_126 mw_127 mw_128 mw_5) rfl (by decide +kernel) 0 rfl rfl rfl rfl Sb.w rfl rfl dX8_isOver_24 (fun r w1 hp24_4 => ?_)
    obtain ⟨rfl, rfl⟩ := hp24_4
    show V X 0 0 27 [(0, .ref (ad 0))] [vI (F 2 18), vI (F 2 30)] ((mW (vG X) ad F))
    refine v_icmp_ne (tgt := 34) C dX8_isOver_27 (by decide) (by have := hB 30; first | assumption | exact ⟨by omega, by omega⟩) (by have := hB 18; first | assumption | exact ⟨by omega, by omega⟩) (fun c27 => ?_) (fun c27 => ?_)
    · refine v_iconst C dX8_isOver_34 ?_
      exact v_zret C E rfl rfl dX8_isOver_35 (by decide) (by decide) (⟨by rw [bI_f (by omega)], rfl⟩)
    · refine v_iconst C dX8_isOver_30 ?_
      refine v_goto (tgt := 35) C dX8_isOver_31 (by decide) ?_
      exact v_zret C E rfl rfl dX8_isOver_35 (by decide) (by decide) (⟨by rw [bI_t (by omega)], rfl⟩)
set_option maxHeartbeats 4000000 in
set_option maxRecDepth 100000 in
theorem c_X8_tells (G : GG) (l : Launch) (ad : Nat → Nat) (F : Int → Int → Int) (s : Int) (h0 : s = 0 ∨ s = 1) (hB : sB 4000000 (F 2)) : Ct G l yX8_tells (Cond.code yX8_tells cX8_tells 4 none :: wsL_law) 3 64 0 0 [.ref (ad 0), vI s] ((mW G ad F)) (fun r w => r = none ∧ w = mW G ad (up F 2 (teF s (F 2)))) := by
  refine Ct.of (own := RX8) (cc := cX8_tells) (maxL := 4) (ret := none) (by decide) rfl rfl (Nat.le_of_ble_eq_true rfl) (fun X C E M hG hl => ?_)
  subst hG hl
  refine v_iconst C dX8_tells_0 ?_
  refine v_iload_n C dX8_tells_1 rfl 1 rfl ?_
  refine v_isub C dX8_tells_2 ?_
  refine v_istore_n C M dX8_tells_3 rfl (by decide) (L' := [(2, vI (1 - s)), (0, .ref (ad 0)), (1, vI s)]) rfl ?_
  refine v_aload_n C dX8_tells_4 rfl 1 rfl ?_
  refine v_get (v := .ref (ad 2)) C inw_8 0 10 rfl (by decide) (List.mem_cons_of_mem _ mw_105) rfl rfl dX8_tells_5 ?_
  refine v_iload_n C dX8_tells_8 rfl 0 rfl ?_
  refine v_bipush C dX8_tells_9 (by decide +kernel) ?_
  refine v_callS (na := 2) (wy := (Cond.code yX8_at cX8_at 2 (some .int) :: wsL_law)) (wc := []) (wr := (mW (vG X) ad F)) C [vI (1 - s), vI 6] [.ref (ad 2)] (c_X8_at _ _ (1 - s) 6 ) rfl (gwS mw_120 mw_118 mw_119 mw_5) (by decide +kernel) rfl rfl Sb.rf rfl rfl dX8_tells_11 (fun r w1 hp11_1 => ?_)
  obtain ⟨rfl, rfl⟩ := hp11_1
  show V X 0 0 14 [(2, vI (1 - s)), (0, .ref (ad 0)), (1, vI s)] [vI ((18 + (11 * (1 - s))) + 6), .ref (ad 2)] ((mW (vG X) ad F))
  refine v_aload_n C dX8_tells_14 rfl 1 rfl ?_
  refine v_iload_n C dX8_tells_15 rfl 2 rfl ?_
  refine v_iconst C dX8_tells_16 ?_
  refine v_callV (na := 2) (wy := (Cond.code yX8_of cX8_of 3 (some .int) :: wsL_law)) (wc := (mW (vG X) ad F)) (wr := []) C [vI s, vI 1] [vI ((18 + (11 * (1 - s))) + 6), .ref (ad 2)] (c_X8_of _ _ ad F s 1 (by omega) (by omega)) rfl (gwV mw_129 mw_126 mw_127 mw_128 mw_5) rfl (by decide +kernel) 0 rfl rfl rfl rfl Sb.w rfl rfl dX8_tells_17 (fun r w1 hp17_2 => ?_)
  obtain ⟨rfl, rfl⟩ := hp17_2
  show V X 0 0 20 [(2, vI (1 - s)), (0, .ref (ad 0)), (1, vI s)] [vI (F 2 ((18 + (11 * s)) + 1)), vI ((18 + (11 * (1 - s))) + 6), .ref (ad 2)] ((mW (vG X) ad F))
  refine v_iast C 2 rfl (by  omega) (by  omega) (by decide) dX8_tells_20 (ws' := (mW (vG X) ad (up F 2 (up (F 2) ((18 + (11 * (1 - s))) + 6) (F 2 ((18 + (11 * s)) + 1)))))) rfl ?_
  refine v_aload_n C dX8_tells_21 rfl 1 rfl ?_
  refine v_get (v := .ref (ad 2)) C inw_8 0 10 rfl (by decide) (List.mem_cons_of_mem _ mw_105) rfl rfl dX8_tells_22 ?_
  refine v_iload_n C dX8_tells_25 rfl 0 rfl ?_
  refine v_bipush C dX8_tells_26 (by decide +kernel) ?_
  refine v_callS (na := 2) (wy := (Cond.code yX8_at cX8_at 2 (some .int) :: wsL_law)) (wc := []) (wr := (mW (vG X) ad (up F 2 (up (F 2) ((18 + (11 * (1 - s))) + 6) (F 2 ((18 + (11 * s)) + 1)))))) C [vI (1 - s), vI 7] [.ref (ad 2)] (c_X8_at _ _ (1 - s) 7 ) rfl (gwS mw_120 mw_118 mw_119 mw_5) (by decide +kernel) rfl rfl Sb.rf rfl rfl dX8_tells_28 (fun r w1 hp28_3 => ?_)
  obtain ⟨rfl, rfl⟩ := hp28_3
  show V X 0 0 31 [(2, vI (1 - s)), (0, .ref (ad 0)), (1, vI s)] [vI ((18 + (11 * (1 - s))) + 7), .ref (ad 2)] ((mW (vG X) ad (up F 2 (up (F 2) ((18 + (11 * (1 - s))) + 6) (F 2 ((18 + (11 * s)) + 1))))))
  refine v_aload_n C dX8_tells_31 rfl 1 rfl ?_
  refine v_iload_n C dX8_tells_32 rfl 2 rfl ?_
  refine v_callV (na := 1) (wy := (Cond.code yX8_limitOf cX8_limitOf 2 (some .int) :: wsL_law)) (wc := (mW (vG X) ad (up F 2 (up (F 2) ((18 + (11 * (1 - s))) + 6) (F 2 ((18 + (11 * s)) + 1)))))) (wr := []) C [vI s] [vI ((18 + (11 * (1 - s))) + 7), .ref (ad 2)] (c_X8_limitOf _ _ ad (up F 2 (up (F 2) ((18 + (11 * (1 - s))) + 6) (F 2 ((18 + (11 * s)) + 1)))) s (by omega)) rfl (gwV mw_554 mw_551 mw_552 mw_553 mw_5) rfl (by decide +kernel) 0 rfl rfl rfl rfl Sb.w rfl rfl dX8_tells_33 (fun r w1 hp33_4 => ?_)
  obtain ⟨rfl, rfl⟩ := hp33_4
  show V X 0 0 36 [(2, vI (1 - s)), (0, .ref (ad 0)), (1, vI s)] [vI (((up (F 2) ((18 + (11 * (1 - s))) + 6) (F 2 ((18 + (11 * s)) + 1))) ((18 + (11 * s)) + 2)) + ((up (F 2) ((18 + (11 * (1 - s))) + 6) (F 2 ((18 + (11 * s)) + 1))) ((18 + (11 * s)) + 3))), vI ((18 + (11 * (1 - s))) + 7), .ref (ad 2)] ((mW (vG X) ad (up F 2 (up (F 2) ((18 + (11 * (1 - s))) + 6) (F 2 ((18 + (11 * s)) + 1))))))
  rw [up_n (show (((18 + (11 * s)) + 2) : Int) ≠ ((18 + (11 * (1 - s))) + 6) by omega)]
  rw [up_n (show (((18 + (11 * s)) + 3) : Int) ≠ ((18 + (11 * (1 - s))) + 6) by omega)]
  refine v_iast C 2 rfl (by  omega) (by  omega) (by decide) dX8_tells_36 (ws' := (mW (vG X) ad (up F 2 (up (up (F 2) ((18 + (11 * (1 - s))) + 6) (F 2 ((18 + (11 * s)) + 1))) ((18 + (11 * (1 - s))) + 7) ((F 2 ((18 + (11 * s)) + 2)) + (F 2 ((18 + (11 * s)) + 3))))))) rfl ?_
  refine v_aload_n C dX8_tells_37 rfl 1 rfl ?_
  refine v_iload_n C dX8_tells_38 rfl 2 rfl ?_
  refine v_iconst C dX8_tells_39 ?_
  refine v_callV (na := 2) (wy := (Cond.code yX8_of cX8_of 3 (some .int) :: wsL_law)) (wc := (mW (vG X) ad (up F 2 (up (up (F 2) ((18 + (11 * (1 - s))) + 6) (F 2 ((18 + (11 * s)) + 1))) ((18 + (11 * (1 - s))) + 7) ((F 2 ((18 + (11 * s)) + 2)) + (F 2 ((18 + (11 * s)) + 3))))))) (wr := []) C [vI s, vI 5] [] (c_X8_of _ _ ad (up F 2 (up (up (F 2) ((18 + (11 * (1 - s))) + 6) (F 2 ((18 + (11 * s)) + 1))) ((18 + (11 * (1 - s))) + 7) ((F 2 ((18 + (11 * s)) + 2)) + (F 2 ((18 + (11 * s)) + 3))))) s 5 (by omega) (by omega)) rfl (gwV mw_129 mw_126 mw_127 mw_128 mw_5) rfl (by decide +kernel) 0 rfl rfl rfl rfl Sb.w rfl rfl dX8_tells_40 (fun r w1 hp40_5 => ?_)
  obtain ⟨rfl, rfl⟩ := hp40_5
  show V X 0 0 43 [(2, vI (1 - s)), (0, .ref (ad 0)), (1, vI s)] [vI ((up (up (F 2) ((18 + (11 * (1 - s))) + 6) (F 2 ((18 + (11 * s)) + 1))) ((18 + (11 * (1 - s))) + 7) ((F 2 ((18 + (11 * s)) + 2)) + (F 2 ((18 + (11 * s)) + 3)))) ((18 + (11 * s)) + 5))] ((mW (vG X) ad (up F 2 (up (up (F 2) ((18 + (11 * (1 - s))) + 6) (F 2 ((18 + (11 * s)) + 1))) ((18 + (11 * (1 - s))) + 7) ((F 2 ((18 + (11 * s)) + 2)) + (F 2 ((18 + (11 * s)) + 3)))))))
  rw [up_n (show (((18 + (11 * s)) + 5) : Int) ≠ ((18 + (11 * (1 - s))) + 7) by omega), up_n (show (((18 + (11 * s)) + 5) : Int) ≠ ((18 + (11 * (1 - s))) + 6) by omega)]
  refine v_aload_n C dX8_tells_43 rfl 1 rfl ?_
  refine v_iload_n C dX8_tells_44 rfl 0 rfl ?_
  refine v_bipush C dX8_tells_45 (by decide +kernel) ?_
  refine v_callV (na := 2) (wy := (Cond.code yX8_of cX8_of 3 (some .int) :: wsL_law)) (wc := (mW (vG X) ad (up F 2 (up (up (F 2) ((18 + (11 * (1 - s))) + 6) (F 2 ((18 + (11 * s)) + 1))) ((18 + (11 * (1 - s))) + 7) ((F 2 ((18 + (11 * s)) + 2)) + (F 2 ((18 + (11 * s)) + 3))))))) (wr := []) C [vI (1 - s), vI 10] [vI (F 2 ((18 + (11 * s)) + 5))] (c_X8_of _ _ ad (up F 2 (up (up (F 2) ((18 + (11 * (1 - s))) + 6) (F 2 ((18 + (11 * s)) + 1))) ((18 + (11 * (1 - s))) + 7) ((F 2 ((18 + (11 * s)) + 2)) + (F 2 ((18 + (11 * s)) + 3))))) (1 - s) 10 (by omega) (by omega)) rfl (gwV mw_129 mw_126 mw_127 mw_128 mw_5) rfl (by decide +kernel) 0 rfl rfl rfl rfl Sb.w rfl rfl dX8_tells_47 (fun r w1 hp47_6 => ?_)
  obtain ⟨rfl, rfl⟩ := hp47_6
  show V X 0 0 50 [(2, vI (1 - s)), (0, .ref (ad 0)), (1, vI s)] [vI ((up (up (F 2) ((18 + (11 * (1 - s))) + 6) (F 2 ((18 + (11 * s)) + 1))) ((18 + (11 * (1 - s))) + 7) ((F 2 ((18 + (11 * s)) + 2)) + (F 2 ((18 + (11 * s)) + 3)))) ((18 + (11 * (1 - s))) + 10)), vI (F 2 ((18 + (11 * s)) + 5))] ((mW (vG X) ad (up F 2 (up (up (F 2) ((18 + (11 * (1 - s))) + 6) (F 2 ((18 + (11 * s)) + 1))) ((18 + (11 * (1 - s))) + 7) ((F 2 ((18 + (11 * s)) + 2)) + (F 2 ((18 + (11 * s)) + 3)))))))
  rw [up_n (show (((18 + (11 * (1 - s))) + 10) : Int) ≠ ((18 + (11 * (1 - s))) + 7) by omega), up_n (show (((18 + (11 * (1 - s))) + 10) : Int) ≠ ((18 + (11 * (1 - s))) + 6) by omega)]
  refine v_isub C dX8_tells_50 ?_
  refine v_istore_n C M dX8_tells_51 rfl (by decide) (L' := [(3, vI ((F 2 ((18 + (11 * s)) + 5)) - (F 2 ((18 + (11 * (1 - s))) + 10)))), (2, vI (1 - s)), (0, .ref (ad 0)), (1, vI s)]) rfl ?_
  refine v_iload_n C dX8_tells_52 rfl 0 rfl ?_
  refine v_if_gt (tgt := 57) C dX8_tells_53 (by decide) (by have := hB ((18 + (11 * s)) + 5); have := hB ((18 + (11 * (1 - s))) + 10); first | assumption | exact ⟨by omega, by omega⟩) (fun c53 => ?_) (fun c53 => ?_)
  · skip
    refine v_aload_n C dX8_tells_57 rfl 2 rfl ?_
    refine v_get (v := .ref (ad 2)) C inw_8 0 10 rfl (by decide) (List.mem_cons_of_mem _ mw_105) rfl rfl dX8_tells_58 ?_
    refine v_iload_n C dX8_tells_61 rfl 1 rfl ?_
    refine v_iconst C dX8_tells_62 ?_
    refine v_callS (na := 2) (wy := (Cond.code yX8_at cX8_at 2 (some .int) :: wsL_law)) (wc := []) (wr := (mW (vG X) ad (up F 2 (up (up (F 2) ((18 + (11 * (1 - s))) + 6) (F 2 ((18 + (11 * s)) + 1))) ((18 + (11 * (1 - s))) + 7) ((F 2 ((18 + (11 * s)) + 2)) + (F 2 ((18 + (11 * s)) + 3))))))) C [vI (1 - s), vI 3] [.ref (ad 2)] (c_X8_at _ _ (1 - s) 3 ) rfl (gwS mw_120 mw_118 mw_119 mw_5) (by decide +kernel) rfl rfl Sb.rf rfl rfl dX8_tells_63 (fun r w1 hp63_7 => ?_)
    obtain ⟨rfl, rfl⟩ := hp63_7
    show V X 0 0 66 [(3, vI ((F 2 ((18 + (11 * s)) + 5)) - (F 2 ((18 + (11 * (1 - s))) + 10)))), (2, vI (1 - s)), (0, .ref (ad 0)), (1, vI s)] [vI ((18 + (11 * (1 - s))) + 3), .ref (ad 2)] ((mW (vG X) ad (up F 2 (up (up (F 2) ((18 + (11 * (1 - s))) + 6) (F 2 ((18 + (11 * s)) + 1))) ((18 + (11 * (1 - s))) + 7) ((F 2 ((18 + (11 * s)) + 2)) + (F 2 ((18 + (11 * s)) + 3)))))))
    refine v_dup2 C dX8_tells_66 rfl rfl ?_
    refine v_iald C 2 rfl (by  omega) (by  omega) (by decide) dX8_tells_67 ?_
    show V X 0 0 68 [(3, vI ((F 2 ((18 + (11 * s)) + 5)) - (F 2 ((18 + (11 * (1 - s))) + 10)))), (2, vI (1 - s)), (0, .ref (ad 0)), (1, vI s)] [vI ((up (up (F 2) ((18 + (11 * (1 - s))) + 6) (F 2 ((18 + (11 * s)) + 1))) ((18 + (11 * (1 - s))) + 7) ((F 2 ((18 + (11 * s)) + 2)) + (F 2 ((18 + (11 * s)) + 3)))) ((18 + (11 * (1 - s))) + 3)), vI ((18 + (11 * (1 - s))) + 3), .ref (ad 2)] ((mW (vG X) ad (up F 2 (up (up (F 2) ((18 + (11 * (1 - s))) + 6) (F 2 ((18 + (11 * s)) + 1))) ((18 + (11 * (1 - s))) + 7) ((F 2 ((18 + (11 * s)) + 2)) + (F 2 ((18 + (11 * s)) + 3)))))))
    rw [up_n (show (((18 + (11 * (1 - s))) + 3) : Int) ≠ ((18 + (11 * (1 - s))) + 7) by omega), up_n (show (((18 + (11 * (1 - s))) + 3) : Int) ≠ ((18 + (11 * (1 - s))) + 6) by omega)]
    refine v_iload_n C dX8_tells_68 rfl 0 rfl ?_
    refine v_isub C dX8_tells_69 ?_
    refine v_iast C 2 rfl (by  omega) (by  omega) (by decide) dX8_tells_70 (ws' := (mW (vG X) ad (up F 2 (up (up (up (F 2) ((18 + (11 * (1 - s))) + 6) (F 2 ((18 + (11 * s)) + 1))) ((18 + (11 * (1 - s))) + 7) ((F 2 ((18 + (11 * s)) + 2)) + (F 2 ((18 + (11 * s)) + 3)))) ((18 + (11 * (1 - s))) + 3) ((F 2 ((18 + (11 * (1 - s))) + 3)) - ((F 2 ((18 + (11 * s)) + 5)) - (F 2 ((18 + (11 * (1 - s))) + 10)))))))) rfl ?_
    refine v_aload_n C dX8_tells_71 rfl 2 rfl ?_
    refine v_get (v := .ref (ad 2)) C inw_8 0 10 rfl (by decide) (List.mem_cons_of_mem _ mw_105) rfl rfl dX8_tells_72 ?_
    refine v_iload_n C dX8_tells_75 rfl 1 rfl ?_
    refine v_iconst C dX8_tells_76 ?_
    refine v_callS (na := 2) (wy := (Cond.code yX8_at cX8_at 2 (some .int) :: wsL_law)) (wc := []) (wr := (mW (vG X) ad (up F 2 (up (up (up (F 2) ((18 + (11 * (1 - s))) + 6) (F 2 ((18 + (11 * s)) + 1))) ((18 + (11 * (1 - s))) + 7) ((F 2 ((18 + (11 * s)) + 2)) + (F 2 ((18 + (11 * s)) + 3)))) ((18 + (11 * (1 - s))) + 3) ((F 2 ((18 + (11 * (1 - s))) + 3)) - ((F 2 ((18 + (11 * s)) + 5)) - (F 2 ((18 + (11 * (1 - s))) + 10)))))))) C [vI (1 - s), vI 4] [.ref (ad 2)] (c_X8_at _ _ (1 - s) 4 ) rfl (gwS mw_120 mw_118 mw_119 mw_5) (by decide +kernel) rfl rfl Sb.rf rfl rfl dX8_tells_77 (fun r w1 hp77_8 => ?_)
    obtain ⟨rfl, rfl⟩ := hp77_8
    show V X 0 0 80 [(3, vI ((F 2 ((18 + (11 * s)) + 5)) - (F 2 ((18 + (11 * (1 - s))) + 10)))), (2, vI (1 - s)), (0, .ref (ad 0)), (1, vI s)] [vI ((18 + (11 * (1 - s))) + 4), .ref (ad 2)] ((mW (vG X) ad (up F 2 (up (up (up (F 2) ((18 + (11 * (1 - s))) + 6) (F 2 ((18 + (11 * s)) + 1))) ((18 + (11 * (1 - s))) + 7) ((F 2 ((18 + (11 * s)) + 2)) + (F 2 ((18 + (11 * s)) + 3)))) ((18 + (11 * (1 - s))) + 3) ((F 2 ((18 + (11 * (1 - s))) + 3)) - ((F 2 ((18 + (11 * s)) + 5)) - (F 2 ((18 + (11 * (1 - s))) + 10))))))))
    refine v_dup2 C dX8_tells_80 rfl rfl ?_
    refine v_iald C 2 rfl (by  omega) (by  omega) (by decide) dX8_tells_81 ?_
    show V X 0 0 82 [(3, vI ((F 2 ((18 + (11 * s)) + 5)) - (F 2 ((18 + (11 * (1 - s))) + 10)))), (2, vI (1 - s)), (0, .ref (ad 0)), (1, vI s)] [vI ((up (up (up (F 2) ((18 + (11 * (1 - s))) + 6) (F 2 ((18 + (11 * s)) + 1))) ((18 + (11 * (1 - s))) + 7) ((F 2 ((18 + (11 * s)) + 2)) + (F 2 ((18 + (11 * s)) + 3)))) ((18 + (11 * (1 - s))) + 3) ((F 2 ((18 + (11 * (1 - s))) + 3)) - ((F 2 ((18 + (11 * s)) + 5)) - (F 2 ((18 + (11 * (1 - s))) + 10))))) ((18 + (11 * (1 - s))) + 4)), vI ((18 + (11 * (1 - s))) + 4), .ref (ad 2)] ((mW (vG X) ad (up F 2 (up (up (up (F 2) ((18 + (11 * (1 - s))) + 6) (F 2 ((18 + (11 * s)) + 1))) ((18 + (11 * (1 - s))) + 7) ((F 2 ((18 + (11 * s)) + 2)) + (F 2 ((18 + (11 * s)) + 3)))) ((18 + (11 * (1 - s))) + 3) ((F 2 ((18 + (11 * (1 - s))) + 3)) - ((F 2 ((18 + (11 * s)) + 5)) - (F 2 ((18 + (11 * (1 - s))) + 10))))))))
    rw [up_n (show (((18 + (11 * (1 - s))) + 4) : Int) ≠ ((18 + (11 * (1 - s))) + 3) by omega), up_n (show (((18 + (11 * (1 - s))) + 4) : Int) ≠ ((18 + (11 * (1 - s))) + 7) by omega), up_n (show (((18 + (11 * (1 - s))) + 4) : Int) ≠ ((18 + (11 * (1 - s))) + 6) by omega)]
    refine v_iload_n C dX8_tells_82 rfl 0 rfl ?_
    refine v_isub C dX8_tells_83 ?_
    refine v_iast C 2 rfl (by  omega) (by  omega) (by decide) dX8_tells_84 (ws' := (mW (vG X) ad (up F 2 (up (up (up (up (F 2) ((18 + (11 * (1 - s))) + 6) (F 2 ((18 + (11 * s)) + 1))) ((18 + (11 * (1 - s))) + 7) ((F 2 ((18 + (11 * s)) + 2)) + (F 2 ((18 + (11 * s)) + 3)))) ((18 + (11 * (1 - s))) + 3) ((F 2 ((18 + (11 * (1 - s))) + 3)) - ((F 2 ((18 + (11 * s)) + 5)) - (F 2 ((18 + (11 * (1 - s))) + 10))))) ((18 + (11 * (1 - s))) + 4) ((F 2 ((18 + (11 * (1 - s))) + 4)) - ((F 2 ((18 + (11 * s)) + 5)) - (F 2 ((18 + (11 * (1 - s))) + 10)))))))) rfl ?_
    refine v_aload_n C dX8_tells_85 rfl 2 rfl ?_
    refine v_get (v := .ref (ad 2)) C inw_8 0 10 rfl (by decide) (List.mem_cons_of_mem _ mw_105) rfl rfl dX8_tells_86 ?_
    refine v_iload_n C dX8_tells_89 rfl 1 rfl ?_
    refine v_bipush C dX8_tells_90 (by decide +kernel) ?_
    refine v_callS (na := 2) (wy := (Cond.code yX8_at cX8_at 2 (some .int) :: wsL_law)) (wc := []) (wr := (mW (vG X) ad (up F 2 (up (up (up (up (F 2) ((18 + (11 * (1 - s))) + 6) (F 2 ((18 + (11 * s)) + 1))) ((18 + (11 * (1 - s))) + 7) ((F 2 ((18 + (11 * s)) + 2)) + (F 2 ((18 + (11 * s)) + 3)))) ((18 + (11 * (1 - s))) + 3) ((F 2 ((18 + (11 * (1 - s))) + 3)) - ((F 2 ((18 + (11 * s)) + 5)) - (F 2 ((18 + (11 * (1 - s))) + 10))))) ((18 + (11 * (1 - s))) + 4) ((F 2 ((18 + (11 * (1 - s))) + 4)) - ((F 2 ((18 + (11 * s)) + 5)) - (F 2 ((18 + (11 * (1 - s))) + 10)))))))) C [vI (1 - s), vI 10] [.ref (ad 2)] (c_X8_at _ _ (1 - s) 10 ) rfl (gwS mw_120 mw_118 mw_119 mw_5) (by decide +kernel) rfl rfl Sb.rf rfl rfl dX8_tells_92 (fun r w1 hp92_9 => ?_)
    obtain ⟨rfl, rfl⟩ := hp92_9
    show V X 0 0 95 [(3, vI ((F 2 ((18 + (11 * s)) + 5)) - (F 2 ((18 + (11 * (1 - s))) + 10)))), (2, vI (1 - s)), (0, .ref (ad 0)), (1, vI s)] [vI ((18 + (11 * (1 - s))) + 10), .ref (ad 2)] ((mW (vG X) ad (up F 2 (up (up (up (up (F 2) ((18 + (11 * (1 - s))) + 6) (F 2 ((18 + (11 * s)) + 1))) ((18 + (11 * (1 - s))) + 7) ((F 2 ((18 + (11 * s)) + 2)) + (F 2 ((18 + (11 * s)) + 3)))) ((18 + (11 * (1 - s))) + 3) ((F 2 ((18 + (11 * (1 - s))) + 3)) - ((F 2 ((18 + (11 * s)) + 5)) - (F 2 ((18 + (11 * (1 - s))) + 10))))) ((18 + (11 * (1 - s))) + 4) ((F 2 ((18 + (11 * (1 - s))) + 4)) - ((F 2 ((18 + (11 * s)) + 5)) - (F 2 ((18 + (11 * (1 - s))) + 10))))))))
    refine v_aload_n C dX8_tells_95 rfl 2 rfl ?_
    refine v_iload_n C dX8_tells_96 rfl 3 rfl ?_
    refine v_iconst C dX8_tells_97 ?_
    refine v_callV (na := 2) (wy := (Cond.code yX8_of cX8_of 3 (some .int) :: wsL_law)) (wc := (mW (vG X) ad (up F 2 (up (up (up (up (F 2) ((18 + (11 * (1 - s))) + 6) (F 2 ((18 + (11 * s)) + 1))) ((18 + (11 * (1 - s))) + 7) ((F 2 ((18 + (11 * s)) + 2)) + (F 2 ((18 + (11 * s)) + 3)))) ((18 + (11 * (1 - s))) + 3) ((F 2 ((18 + (11 * (1 - s))) + 3)) - ((F 2 ((18 + (11 * s)) + 5)) - (F 2 ((18 + (11 * (1 - s))) + 10))))) ((18 + (11 * (1 - s))) + 4) ((F 2 ((18 + (11 * (1 - s))) + 4)) - ((F 2 ((18 + (11 * s)) + 5)) - (F 2 ((18 + (11 * (1 - s))) + 10)))))))) (wr := []) C [vI s, vI 5] [vI ((18 + (11 * (1 - s))) + 10), .ref (ad 2)] (c_X8_of _ _ ad (up F 2 (up (up (up (up (F 2) ((18 + (11 * (1 - s))) + 6) (F 2 ((18 + (11 * s)) + 1))) ((18 + (11 * (1 - s))) + 7) ((F 2 ((18 + (11 * s)) + 2)) + (F 2 ((18 + (11 * s)) + 3)))) ((18 + (11 * (1 - s))) + 3) ((F 2 ((18 + (11 * (1 - s))) + 3)) - ((F 2 ((18 + (11 * s)) + 5)) - (F 2 ((18 + (11 * (1 - s))) + 10))))) ((18 + (11 * (1 - s))) + 4) ((F 2 ((18 + (11 * (1 - s))) + 4)) - ((F 2 ((18 + (11 * s)) + 5)) - (F 2 ((18 + (11 * (1 - s))) + 10)))))) s 5 (by omega) (by omega)) rfl (gwV mw_129 mw_126 mw_127 mw_128 mw_5) rfl (by decide +kernel) 0 rfl rfl rfl rfl Sb.w rfl rfl dX8_tells_98 (fun r w1 hp98_10 => ?_)
    obtain ⟨rfl, rfl⟩ := hp98_10
    show V X 0 0 101 [(3, vI ((F 2 ((18 + (11 * s)) + 5)) - (F 2 ((18 + (11 * (1 - s))) + 10)))), (2, vI (1 - s)), (0, .ref (ad 0)), (1, vI s)] [vI ((up (up (up (up (F 2) ((18 + (11 * (1 - s))) + 6) (F 2 ((18 + (11 * s)) + 1))) ((18 + (11 * (1 - s))) + 7) ((F 2 ((18 + (11 * s)) + 2)) + (F 2 ((18 + (11 * s)) + 3)))) ((18 + (11 * (1 - s))) + 3) ((F 2 ((18 + (11 * (1 - s))) + 3)) - ((F 2 ((18 + (11 * s)) + 5)) - (F 2 ((18 + (11 * (1 - s))) + 10))))) ((18 + (11 * (1 - s))) + 4) ((F 2 ((18 + (11 * (1 - s))) + 4)) - ((F 2 ((18 + (11 * s)) + 5)) - (F 2 ((18 + (11 * (1 - s))) + 10))))) ((18 + (11 * s)) + 5)), vI ((18 + (11 * (1 - s))) + 10), .ref (ad 2)] ((mW (vG X) ad (up F 2 (up (up (up (up (F 2) ((18 + (11 * (1 - s))) + 6) (F 2 ((18 + (11 * s)) + 1))) ((18 + (11 * (1 - s))) + 7) ((F 2 ((18 + (11 * s)) + 2)) + (F 2 ((18 + (11 * s)) + 3)))) ((18 + (11 * (1 - s))) + 3) ((F 2 ((18 + (11 * (1 - s))) + 3)) - ((F 2 ((18 + (11 * s)) + 5)) - (F 2 ((18 + (11 * (1 - s))) + 10))))) ((18 + (11 * (1 - s))) + 4) ((F 2 ((18 + (11 * (1 - s))) + 4)) - ((F 2 ((18 + (11 * s)) + 5)) - (F 2 ((18 + (11 * (1 - s))) + 10))))))))
    rw [up_n (show (((18 + (11 * s)) + 5) : Int) ≠ ((18 + (11 * (1 - s))) + 4) by omega), up_n (show (((18 + (11 * s)) + 5) : Int) ≠ ((18 + (11 * (1 - s))) + 3) by omega), up_n (show (((18 + (11 * s)) + 5) : Int) ≠ ((18 + (11 * (1 - s))) + 7) by omega), up_n (show (((18 + (11 * s)) + 5) : Int) ≠ ((18 + (11 * (1 - s))) + 6) by omega)]
    refine v_iast C 2 rfl (by  omega) (by  omega) (by decide) dX8_tells_101 (ws' := (mW (vG X) ad (up F 2 (up (up (up (up (up (F 2) ((18 + (11 * (1 - s))) + 6) (F 2 ((18 + (11 * s)) + 1))) ((18 + (11 * (1 - s))) + 7) ((F 2 ((18 + (11 * s)) + 2)) + (F 2 ((18 + (11 * s)) + 3)))) ((18 + (11 * (1 - s))) + 3) ((F 2 ((18 + (11 * (1 - s))) + 3)) - ((F 2 ((18 + (11 * s)) + 5)) - (F 2 ((18 + (11 * (1 - s))) + 10))))) ((18 + (11 * (1 - s))) + 4) ((F 2 ((18 + (11 * (1 - s))) + 4)) - ((F 2 ((18 + (11 * s)) + 5)) - (F 2 ((18 + (11 * (1 - s))) + 10))))) ((18 + (11 * (1 - s))) + 10) (F 2 ((18 + (11 * s)) + 5)))))) rfl ?_
    exact v_vret C E rfl dX8_tells_102 (by decide) (by decide) (⟨rfl, by rw [show (teF s (F 2)) = (up (up (up (up (up (F 2) ((18 + (11 * (1 - s))) + 6) (F 2 ((18 + (11 * s)) + 1))) ((18 + (11 * (1 - s))) + 7) ((F 2 ((18 + (11 * s)) + 2)) + (F 2 ((18 + (11 * s)) + 3)))) ((18 + (11 * (1 - s))) + 3) ((F 2 ((18 + (11 * (1 - s))) + 3)) - ((F 2 ((18 + (11 * s)) + 5)) - (F 2 ((18 + (11 * (1 - s))) + 10))))) ((18 + (11 * (1 - s))) + 4) ((F 2 ((18 + (11 * (1 - s))) + 4)) - ((F 2 ((18 + (11 * s)) + 5)) - (F 2 ((18 + (11 * (1 - s))) + 10))))) ((18 + (11 * (1 - s))) + 10) (F 2 ((18 + (11 * s)) + 5))) from (if_pos c53)]⟩)
  · skip
    exact v_vret C E rfl dX8_tells_56 (by decide) (by decide) (⟨rfl, by rw [show (teF s (F 2)) = (up (up (F 2) ((18 + (11 * (1 - s))) + 6) (F 2 ((18 + (11 * s)) + 1))) ((18 + (11 * (1 - s))) + 7) ((F 2 ((18 + (11 * s)) + 2)) + (F 2 ((18 + (11 * s)) + 3)))) from (if_neg c53)]⟩)
set_option maxHeartbeats 4000000 in
set_option maxRecDepth 100000 in
theorem c_X8_sendsData (G : GG) (l : Launch) (ad : Nat → Nat) (F : Int → Int → Int) (s z : Int) (h0 : s = 0 ∨ s = 1) (hz : z = 0 ∨ z = 1) (hT : F 2 1 = 0 ∨ F 2 1 = 1) (hB : sB 2000000 (F 2)) : Ct G l yX8_sendsData (Cond.code yX8_sendsData cX8_sendsData 5 none :: wsL_law) 4 87 0 0 [.ref (ad 0), vI s, vI z] ((mW G ad F)) (fun r w => r = none ∧ w = mW G ad (up F 2 (sdF s z (F 2)))) := by
  refine Ct.of (own := RX8) (cc := cX8_sendsData) (maxL := 5) (ret := none) (by decide) rfl rfl (Nat.le_of_ble_eq_true rfl) (fun X C E M hG hl => ?_)
  subst hG hl
  refine v_aload_n C dX8_sendsData_0 rfl 0 rfl ?_
  refine v_callV (na := 0) (wy := (Cond.code yX8_nextMessage cX8_nextMessage 1 (some .int) :: wsL_law)) (wc := (mW (vG X) ad F)) (wr := []) C [] [] (c_X8_nextMessage _ _ ad F hT) rfl (gwV mw_546 mw_543 mw_544 mw_545 mw_5) rfl (by decide +kernel) 0 rfl rfl rfl rfl Sb.w rfl rfl dX8_sendsData_1 (fun r w1 hp1_1 => ?_)
  obtain ⟨rfl, rfl⟩ := hp1_1
  show V X 0 0 4 [(0, .ref (ad 0)), (1, vI s), (2, vI z)] [vI ((F 2 ((18 + (11 * (F 2 1))) + 6)) + (F 2 2))] ((mW (vG X) ad F))
  refine v_istore_n C M dX8_sendsData_4 rfl (by decide) (L' := [(3, vI ((F 2 ((18 + (11 * (F 2 1))) + 6)) + (F 2 2))), (0, .ref (ad 0)), (1, vI s), (2, vI z)]) rfl ?_
  refine v_aload_n C dX8_sendsData_5 rfl 1 rfl ?_
  refine v_get (v := .ref (ad 2)) C inw_8 0 10 rfl (by decide) (List.mem_cons_of_mem _ mw_105) rfl rfl dX8_sendsData_6 ?_
  refine v_bipush C dX8_sendsData_9 (by decide +kernel) ?_
  refine v_dup2 C dX8_sendsData_11 rfl rfl ?_
  refine v_iald C 2 rfl (by decide) (by decide) (by decide) dX8_sendsData_12 ?_
  refine v_iconst C dX8_sendsData_13 ?_
  refine v_iadd C dX8_sendsData_14 ?_
  refine v_iast C 2 rfl (by decide) (by decide) (by decide) dX8_sendsData_15 (ws' := (mW (vG X) ad (up F 2 (up (F 2) 10 ((F 2 10) + 1))))) rfl ?_
  refine v_aload_n C dX8_sendsData_16 rfl 1 rfl ?_
  refine v_get (v := .ref (ad 2)) C inw_8 0 10 rfl (by decide) (List.mem_cons_of_mem _ mw_105) rfl rfl dX8_sendsData_17 ?_
  refine v_bipush C dX8_sendsData_20 (by decide +kernel) ?_
  refine v_dup2 C dX8_sendsData_22 rfl rfl ?_
  refine v_iald C 2 rfl (by decide) (by decide) (by decide) dX8_sendsData_23 ?_
  show V X 0 0 24 [(3, vI ((F 2 ((18 + (11 * (F 2 1))) + 6)) + (F 2 2))), (0, .ref (ad 0)), (1, vI s), (2, vI z)] [vI ((up (F 2) 10 ((F 2 10) + 1)) 11), vI 11, .ref (ad 2)] ((mW (vG X) ad (up F 2 (up (F 2) 10 ((F 2 10) + 1)))))
  rw [up_n (show (11 : Int) ≠ 10 by decide)]
  refine v_iload_n C dX8_sendsData_24 rfl 0 rfl ?_
  refine v_aload_n C dX8_sendsData_25 rfl 1 rfl ?_
  refine v_iload_n C dX8_sendsData_26 rfl 2 rfl ?_
  refine v_bipush C dX8_sendsData_27 (by decide +kernel) ?_
  refine v_callV (na := 2) (wy := (Cond.code yX8_of cX8_of 3 (some .int) :: wsL_law)) (wc := (mW (vG X) ad (up F 2 (up (F 2) 10 ((F 2 10) + 1))))) (wr := []) C [vI s, vI 8] [vI ((F 2 ((18 + (11 * (F 2 1))) + 6)) + (F 2 2)), vI (F 2 11), vI 11, .ref (ad 2)] (c_X8_of _ _ ad (up F 2 (up (F 2) 10 ((F 2 10) + 1))) s 8 (by omega) (by omega)) rfl (gwV mw_129 mw_126 mw_127 mw_128 mw_5) rfl (by decide +kernel) 0 rfl rfl rfl rfl Sb.w rfl rfl dX8_sendsData_29 (fun r w1 hp29_2 => ?_)
  obtain ⟨rfl, rfl⟩ := hp29_2
  show V X 0 0 32 [(3, vI ((F 2 ((18 + (11 * (F 2 1))) + 6)) + (F 2 2))), (0, .ref (ad 0)), (1, vI s), (2, vI z)] [vI ((up (F 2) 10 ((F 2 10) + 1)) ((18 + (11 * s)) + 8)), vI ((F 2 ((18 + (11 * (F 2 1))) + 6)) + (F 2 2)), vI (F 2 11), vI 11, .ref (ad 2)] ((mW (vG X) ad (up F 2 (up (F 2) 10 ((F 2 10) + 1)))))
  rw [up_n (show (((18 + (11 * s)) + 8) : Int) ≠ 10 by omega)]
  suffices mrg : V X 0 0 40 [(3, vI ((F 2 ((18 + (11 * (F 2 1))) + 6)) + (F 2 2))), (0, .ref (ad 0)), (1, vI s), (2, vI z)] [vI (bI (((F 2 ((18 + (11 * (F 2 1))) + 6)) + (F 2 2)) < (F 2 ((18 + (11 * s)) + 8)))), vI (F 2 11), vI 11, .ref (ad 2)] ((mW (vG X) ad (up F 2 (up (F 2) 10 ((F 2 10) + 1))))) by
    refine v_icmp_ge (tgt := 39) C dX8_sendsData_32 (by decide) (by have := hB ((18 + (11 * (F 2 1))) + 6); have := hB 1; have := hB 2; first | assumption | exact ⟨by omega, by omega⟩) (by have := hB ((18 + (11 * s)) + 8); first | assumption | exact ⟨by omega, by omega⟩) (fun c32 => ?_) (fun c32 => ?_)
    · skip
      refine v_iconst C dX8_sendsData_39 ?_
      exact V.top (bI_f (by omega)).symm mrg
    · skip
      refine v_iconst C dX8_sendsData_35 ?_
      refine v_goto (tgt := 40) C dX8_sendsData_36 (by decide) ?_
      exact V.top (bI_t (by omega)).symm mrg
  refine v_iadd C dX8_sendsData_40 ?_
  refine v_iast C 2 rfl (by decide) (by decide) (by decide) dX8_sendsData_41 (ws' := (mW (vG X) ad (up F 2 (up (up (F 2) 10 ((F 2 10) + 1)) 11 ((F 2 11) + (bI (((F 2 ((18 + (11 * (F 2 1))) + 6)) + (F 2 2)) < (F 2 ((18 + (11 * s)) + 8))))))))) rfl ?_
  refine v_aload_n C dX8_sendsData_42 rfl 1 rfl ?_
  refine v_get (v := .ref (ad 2)) C inw_8 0 10 rfl (by decide) (List.mem_cons_of_mem _ mw_105) rfl rfl dX8_sendsData_43 ?_
  refine v_iload_n C dX8_sendsData_46 rfl 2 rfl ?_
  refine v_bipush C dX8_sendsData_47 (by decide +kernel) ?_
  refine v_callS (na := 2) (wy := (Cond.code yX8_at cX8_at 2 (some .int) :: wsL_law)) (wc := []) (wr := (mW (vG X) ad (up F 2 (up (up (F 2) 10 ((F 2 10) + 1)) 11 ((F 2 11) + (bI (((F 2 ((18 + (11 * (F 2 1))) + 6)) + (F 2 2)) < (F 2 ((18 + (11 * s)) + 8))))))))) C [vI s, vI 8] [.ref (ad 2)] (c_X8_at _ _ s 8 ) rfl (gwS mw_120 mw_118 mw_119 mw_5) (by decide +kernel) rfl rfl Sb.rf rfl rfl dX8_sendsData_49 (fun r w1 hp49_3 => ?_)
  obtain ⟨rfl, rfl⟩ := hp49_3
  show V X 0 0 52 [(3, vI ((F 2 ((18 + (11 * (F 2 1))) + 6)) + (F 2 2))), (0, .ref (ad 0)), (1, vI s), (2, vI z)] [vI ((18 + (11 * s)) + 8), .ref (ad 2)] ((mW (vG X) ad (up F 2 (up (up (F 2) 10 ((F 2 10) + 1)) 11 ((F 2 11) + (bI (((F 2 ((18 + (11 * (F 2 1))) + 6)) + (F 2 2)) < (F 2 ((18 + (11 * s)) + 8)))))))))
  refine v_iload_n C dX8_sendsData_52 rfl 0 rfl ?_
  refine v_iconst C dX8_sendsData_53 ?_
  refine v_iadd C dX8_sendsData_54 ?_
  refine v_aload_n C dX8_sendsData_55 rfl 1 rfl ?_
  refine v_iload_n C dX8_sendsData_56 rfl 2 rfl ?_
  refine v_bipush C dX8_sendsData_57 (by decide +kernel) ?_
  refine v_callV (na := 2) (wy := (Cond.code yX8_of cX8_of 3 (some .int) :: wsL_law)) (wc := (mW (vG X) ad (up F 2 (up (up (F 2) 10 ((F 2 10) + 1)) 11 ((F 2 11) + (bI (((F 2 ((18 + (11 * (F 2 1))) + 6)) + (F 2 2)) < (F 2 ((18 + (11 * s)) + 8))))))))) (wr := []) C [vI s, vI 8] [vI (((F 2 ((18 + (11 * (F 2 1))) + 6)) + (F 2 2)) + 1), vI ((18 + (11 * s)) + 8), .ref (ad 2)] (c_X8_of _ _ ad (up F 2 (up (up (F 2) 10 ((F 2 10) + 1)) 11 ((F 2 11) + (bI (((F 2 ((18 + (11 * (F 2 1))) + 6)) + (F 2 2)) < (F 2 ((18 + (11 * s)) + 8))))))) s 8 (by omega) (by omega)) rfl (gwV mw_129 mw_126 mw_127 mw_128 mw_5) rfl (by decide +kernel) 0 rfl rfl rfl rfl Sb.w rfl rfl dX8_sendsData_59 (fun r w1 hp59_4 => ?_)
  obtain ⟨rfl, rfl⟩ := hp59_4
  show V X 0 0 62 [(3, vI ((F 2 ((18 + (11 * (F 2 1))) + 6)) + (F 2 2))), (0, .ref (ad 0)), (1, vI s), (2, vI z)] [vI ((up (up (F 2) 10 ((F 2 10) + 1)) 11 ((F 2 11) + (bI (((F 2 ((18 + (11 * (F 2 1))) + 6)) + (F 2 2)) < (F 2 ((18 + (11 * s)) + 8)))))) ((18 + (11 * s)) + 8)), vI (((F 2 ((18 + (11 * (F 2 1))) + 6)) + (F 2 2)) + 1), vI ((18 + (11 * s)) + 8), .ref (ad 2)] ((mW (vG X) ad (up F 2 (up (up (F 2) 10 ((F 2 10) + 1)) 11 ((F 2 11) + (bI (((F 2 ((18 + (11 * (F 2 1))) + 6)) + (F 2 2)) < (F 2 ((18 + (11 * s)) + 8)))))))))
  rw [up_n (show (((18 + (11 * s)) + 8) : Int) ≠ 11 by omega), up_n (show (((18 + (11 * s)) + 8) : Int) ≠ 10 by omega)]
  suffices mrg : V X 0 0 78 [(3, vI ((F 2 ((18 + (11 * (F 2 1))) + 6)) + (F 2 2))), (0, .ref (ad 0)), (1, vI s), (2, vI z)] [vI (if (((F 2 ((18 + (11 * (F 2 1))) + 6)) + (F 2 2)) + 1) ≤ (F 2 ((18 + (11 * s)) + 8)) then (F 2 ((18 + (11 * s)) + 8)) else (((F 2 ((18 + (11 * (F 2 1))) + 6)) + (F 2 2)) + 1)), vI ((18 + (11 * s)) + 8), .ref (ad 2)] ((mW (vG X) ad (up F 2 (up (up (F 2) 10 ((F 2 10) + 1)) 11 ((F 2 11) + (bI (((F 2 ((18 + (11 * (F 2 1))) + 6)) + (F 2 2)) < (F 2 ((18 + (11 * s)) + 8))))))))) by
    refine v_icmp_le (tgt := 71) C dX8_sendsData_62 (by decide) (by have := hB ((18 + (11 * (F 2 1))) + 6); have := hB 1; have := hB 2; first | assumption | exact ⟨by omega, by omega⟩) (by have := hB ((18 + (11 * s)) + 8); first | assumption | exact ⟨by omega, by omega⟩) (fun c62 => ?_) (fun c62 => ?_)
    · skip
      refine v_aload_n C dX8_sendsData_71 rfl 1 rfl ?_
      refine v_iload_n C dX8_sendsData_72 rfl 2 rfl ?_
      refine v_bipush C dX8_sendsData_73 (by decide +kernel) ?_
      refine v_callV (na := 2) (wy := (Cond.code yX8_of cX8_of 3 (some .int) :: wsL_law)) (wc := (mW (vG X) ad (up F 2 (up (up (F 2) 10 ((F 2 10) + 1)) 11 ((F 2 11) + (bI (((F 2 ((18 + (11 * (F 2 1))) + 6)) + (F 2 2)) < (F 2 ((18 + (11 * s)) + 8))))))))) (wr := []) C [vI s, vI 8] [vI ((18 + (11 * s)) + 8), .ref (ad 2)] (c_X8_of _ _ ad (up F 2 (up (up (F 2) 10 ((F 2 10) + 1)) 11 ((F 2 11) + (bI (((F 2 ((18 + (11 * (F 2 1))) + 6)) + (F 2 2)) < (F 2 ((18 + (11 * s)) + 8))))))) s 8 (by omega) (by omega)) rfl (gwV mw_129 mw_126 mw_127 mw_128 mw_5) rfl (by decide +kernel) 0 rfl rfl rfl rfl Sb.w rfl rfl dX8_sendsData_75 (fun r w1 hp75_5 => ?_)
      obtain ⟨rfl, rfl⟩ := hp75_5
      show V X 0 0 78 [(3, vI ((F 2 ((18 + (11 * (F 2 1))) + 6)) + (F 2 2))), (0, .ref (ad 0)), (1, vI s), (2, vI z)] [vI ((up (up (F 2) 10 ((F 2 10) + 1)) 11 ((F 2 11) + (bI (((F 2 ((18 + (11 * (F 2 1))) + 6)) + (F 2 2)) < (F 2 ((18 + (11 * s)) + 8)))))) ((18 + (11 * s)) + 8)), vI ((18 + (11 * s)) + 8), .ref (ad 2)] ((mW (vG X) ad (up F 2 (up (up (F 2) 10 ((F 2 10) + 1)) 11 ((F 2 11) + (bI (((F 2 ((18 + (11 * (F 2 1))) + 6)) + (F 2 2)) < (F 2 ((18 + (11 * s)) + 8)))))))))
      rw [up_n (show (((18 + (11 * s)) + 8) : Int) ≠ 11 by omega), up_n (show (((18 + (11 * s)) + 8) : Int) ≠ 10 by omega)]
      exact V.top (if_pos c62).symm mrg
    · skip
      refine v_iload_n C dX8_sendsData_65 rfl 0 rfl ?_
      refine v_iconst C dX8_sendsData_66 ?_
      refine v_iadd C dX8_sendsData_67 ?_
      refine v_goto (tgt := 78) C dX8_sendsData_68 (by decide) ?_
      exact V.top (if_neg c62).symm mrg
  refine v_iast C 2 rfl (by  omega) (by  omega) (by decide) dX8_sendsData_78 (ws' := (mW (vG X) ad (up F 2 (up (up (up (F 2) 10 ((F 2 10) + 1)) 11 ((F 2 11) + (bI (((F 2 ((18 + (11 * (F 2 1))) + 6)) + (F 2 2)) < (F 2 ((18 + (11 * s)) + 8)))))) ((18 + (11 * s)) + 8) (if (((F 2 ((18 + (11 * (F 2 1))) + 6)) + (F 2 2)) + 1) ≤ (F 2 ((18 + (11 * s)) + 8)) then (F 2 ((18 + (11 * s)) + 8)) else (((F 2 ((18 + (11 * (F 2 1))) + 6)) + (F 2 2)) + 1)))))) rfl ?_
  refine v_iload_n C dX8_sendsData_79 rfl 3 rfl ?_
  refine v_if_ne (tgt := 152) C dX8_sendsData_80 (by decide) (by  first | assumption | exact ⟨by omega, by omega⟩) (fun c80 => ?_) (fun c80 => ?_)
  · skip
    refine v_aload_n C dX8_sendsData_152 rfl 1 rfl ?_
    refine v_get (v := .ref (ad 2)) C inw_8 0 10 rfl (by decide) (List.mem_cons_of_mem _ mw_105) rfl rfl dX8_sendsData_153 ?_
    refine v_iconst C dX8_sendsData_156 ?_
    refine v_dup2 C dX8_sendsData_157 rfl rfl ?_
    refine v_iald C 2 rfl (by decide) (by decide) (by decide) dX8_sendsData_158 ?_
    show V X 0 0 159 [(3, vI ((F 2 ((18 + (11 * (F 2 1))) + 6)) + (F 2 2))), (0, .ref (ad 0)), (1, vI s), (2, vI z)] [vI ((up (up (up (F 2) 10 ((F 2 10) + 1)) 11 ((F 2 11) + (bI (((F 2 ((18 + (11 * (F 2 1))) + 6)) + (F 2 2)) < (F 2 ((18 + (11 * s)) + 8)))))) ((18 + (11 * s)) + 8) (if (((F 2 ((18 + (11 * (F 2 1))) + 6)) + (F 2 2)) + 1) ≤ (F 2 ((18 + (11 * s)) + 8)) then (F 2 ((18 + (11 * s)) + 8)) else (((F 2 ((18 + (11 * (F 2 1))) + 6)) + (F 2 2)) + 1))) 2), vI 2, .ref (ad 2)] ((mW (vG X) ad (up F 2 (up (up (up (F 2) 10 ((F 2 10) + 1)) 11 ((F 2 11) + (bI (((F 2 ((18 + (11 * (F 2 1))) + 6)) + (F 2 2)) < (F 2 ((18 + (11 * s)) + 8)))))) ((18 + (11 * s)) + 8) (if (((F 2 ((18 + (11 * (F 2 1))) + 6)) + (F 2 2)) + 1) ≤ (F 2 ((18 + (11 * s)) + 8)) then (F 2 ((18 + (11 * s)) + 8)) else (((F 2 ((18 + (11 * (F 2 1))) + 6)) + (F 2 2)) + 1))))))
    rw [up_n (show (2 : Int) ≠ ((18 + (11 * s)) + 8) by omega), up_n (show (2 : Int) ≠ 11 by decide), up_n (show (2 : Int) ≠ 10 by decide)]
    refine v_iconst C dX8_sendsData_159 ?_
    refine v_iadd C dX8_sendsData_160 ?_
    refine v_iast C 2 rfl (by decide) (by decide) (by decide) dX8_sendsData_161 (ws' := (mW (vG X) ad (up F 2 (up (up (up (up (F 2) 10 ((F 2 10) + 1)) 11 ((F 2 11) + (bI (((F 2 ((18 + (11 * (F 2 1))) + 6)) + (F 2 2)) < (F 2 ((18 + (11 * s)) + 8)))))) ((18 + (11 * s)) + 8) (if (((F 2 ((18 + (11 * (F 2 1))) + 6)) + (F 2 2)) + 1) ≤ (F 2 ((18 + (11 * s)) + 8)) then (F 2 ((18 + (11 * s)) + 8)) else (((F 2 ((18 + (11 * (F 2 1))) + 6)) + (F 2 2)) + 1))) 2 ((F 2 2) + 1))))) rfl ?_
    exact v_vret C E rfl dX8_sendsData_162 (by decide) (by decide) (⟨rfl, by rw [show (sdF s z (F 2)) = (up (up (up (up (F 2) 10 ((F 2 10) + 1)) 11 ((F 2 11) + (bI (((F 2 ((18 + (11 * (F 2 1))) + 6)) + (F 2 2)) < (F 2 ((18 + (11 * s)) + 8)))))) ((18 + (11 * s)) + 8) (if (((F 2 ((18 + (11 * (F 2 1))) + 6)) + (F 2 2)) + 1) ≤ (F 2 ((18 + (11 * s)) + 8)) then (F 2 ((18 + (11 * s)) + 8)) else (((F 2 ((18 + (11 * (F 2 1))) + 6)) + (F 2 2)) + 1))) 2 ((F 2 2) + 1)) from (if_neg c80)]⟩)
  · skip
    refine v_aload_n C dX8_sendsData_83 rfl 1 rfl ?_
    refine v_iload_n C dX8_sendsData_84 rfl 2 rfl ?_
    refine v_callV (na := 1) (wy := (Cond.code yX8_tells cX8_tells 4 none :: wsL_law)) (wc := (mW (vG X) ad (up F 2 (up (up (up (F 2) 10 ((F 2 10) + 1)) 11 ((F 2 11) + (bI (((F 2 ((18 + (11 * (F 2 1))) + 6)) + (F 2 2)) < (F 2 ((18 + (11 * s)) + 8)))))) ((18 + (11 * s)) + 8) (if (((F 2 ((18 + (11 * (F 2 1))) + 6)) + (F 2 2)) + 1) ≤ (F 2 ((18 + (11 * s)) + 8)) then (F 2 ((18 + (11 * s)) + 8)) else (((F 2 ((18 + (11 * (F 2 1))) + 6)) + (F 2 2)) + 1)))))) (wr := []) C [vI s] [] (c_X8_tells _ _ ad (up F 2 (up (up (up (F 2) 10 ((F 2 10) + 1)) 11 ((F 2 11) + (bI (((F 2 ((18 + (11 * (F 2 1))) + 6)) + (F 2 2)) < (F 2 ((18 + (11 * s)) + 8)))))) ((18 + (11 * s)) + 8) (if (((F 2 ((18 + (11 * (F 2 1))) + 6)) + (F 2 2)) + 1) ≤ (F 2 ((18 + (11 * s)) + 8)) then (F 2 ((18 + (11 * s)) + 8)) else (((F 2 ((18 + (11 * (F 2 1))) + 6)) + (F 2 2)) + 1)))) s (by omega) (sB_up (sB_up (sB_up (sB_mono (by decide) hB) (by have := hB 10; exact ⟨by omega, by omega⟩)) (by have := hB 11; have := hB ((18 + (11 * (F 2 1))) + 6); have := hB 1; have := hB 2; have := hB ((18 + (11 * s)) + 8); have := bI_in (p := ((F 2 ((18 + (11 * (F 2 1))) + 6)) + (F 2 2)) < (F 2 ((18 + (11 * s)) + 8))); exact ⟨by omega, by omega⟩)) (by have := hB ((18 + (11 * (F 2 1))) + 6); have := hB 1; have := hB 2; have := hB ((18 + (11 * s)) + 8); split <;> exact ⟨by omega, by omega⟩))) rfl (gwV mw_666 mw_663 mw_664 mw_665 mw_5) rfl (by decide +kernel) 0 rfl rfl rfl rfl Sb.w rfl rfl dX8_sendsData_85 (fun r w1 hp85_6 => ?_)
    obtain ⟨rfl, rfl⟩ := hp85_6
    show V X 0 0 88 [(3, vI ((F 2 ((18 + (11 * (F 2 1))) + 6)) + (F 2 2))), (0, .ref (ad 0)), (1, vI s), (2, vI z)] [] ((mW (vG X) ad (up F 2 (teF s (up (up (up (F 2) 10 ((F 2 10) + 1)) 11 ((F 2 11) + (bI (((F 2 ((18 + (11 * (F 2 1))) + 6)) + (F 2 2)) < (F 2 ((18 + (11 * s)) + 8)))))) ((18 + (11 * s)) + 8) (if (((F 2 ((18 + (11 * (F 2 1))) + 6)) + (F 2 2)) + 1) ≤ (F 2 ((18 + (11 * s)) + 8)) then (F 2 ((18 + (11 * s)) + 8)) else (((F 2 ((18 + (11 * (F 2 1))) + 6)) + (F 2 2)) + 1)))))))
    have hB85 : sB 16000000 (teF s (up (up (up (F 2) 10 ((F 2 10) + 1)) 11 ((F 2 11) + (bI (((F 2 ((18 + (11 * (F 2 1))) + 6)) + (F 2 2)) < (F 2 ((18 + (11 * s)) + 8)))))) ((18 + (11 * s)) + 8) (if (((F 2 ((18 + (11 * (F 2 1))) + 6)) + (F 2 2)) + 1) ≤ (F 2 ((18 + (11 * s)) + 8)) then (F 2 ((18 + (11 * s)) + 8)) else (((F 2 ((18 + (11 * (F 2 1))) + 6)) + (F 2 2)) + 1)))) := teF_B (by omega) (sB_up (sB_up (sB_up (sB_mono (by decide) hB) (by have := hB 10; exact ⟨by omega, by omega⟩)) (by have := hB 11; have := hB ((18 + (11 * (F 2 1))) + 6); have := hB 1; have := hB 2; have := hB ((18 + (11 * s)) + 8); have := bI_in (p := ((F 2 ((18 + (11 * (F 2 1))) + 6)) + (F 2 2)) < (F 2 ((18 + (11 * s)) + 8))); exact ⟨by omega, by omega⟩)) (by have := hB ((18 + (11 * (F 2 1))) + 6); have := hB 1; have := hB 2; have := hB ((18 + (11 * s)) + 8); split <;> exact ⟨by omega, by omega⟩))
    refine v_iload_n C dX8_sendsData_88 rfl 0 rfl ?_
    refine v_aload_n C dX8_sendsData_89 rfl 1 rfl ?_
    refine v_iconst C dX8_sendsData_90 ?_
    refine v_iload_n C dX8_sendsData_91 rfl 2 rfl ?_
    refine v_isub C dX8_sendsData_92 ?_
    refine v_iconst C dX8_sendsData_93 ?_
    refine v_callV (na := 2) (wy := (Cond.code yX8_of cX8_of 3 (some .int) :: wsL_law)) (wc := (mW (vG X) ad (up F 2 (teF s (up (up (up (F 2) 10 ((F 2 10) + 1)) 11 ((F 2 11) + (bI (((F 2 ((18 + (11 * (F 2 1))) + 6)) + (F 2 2)) < (F 2 ((18 + (11 * s)) + 8)))))) ((18 + (11 * s)) + 8) (if (((F 2 ((18 + (11 * (F 2 1))) + 6)) + (F 2 2)) + 1) ≤ (F 2 ((18 + (11 * s)) + 8)) then (F 2 ((18 + (11 * s)) + 8)) else (((F 2 ((18 + (11 * (F 2 1))) + 6)) + (F 2 2)) + 1))))))) (wr := []) C [vI (1 - s), vI 1] [vI ((F 2 ((18 + (11 * (F 2 1))) + 6)) + (F 2 2))] (c_X8_of _ _ ad (up F 2 (teF s (up (up (up (F 2) 10 ((F 2 10) + 1)) 11 ((F 2 11) + (bI (((F 2 ((18 + (11 * (F 2 1))) + 6)) + (F 2 2)) < (F 2 ((18 + (11 * s)) + 8)))))) ((18 + (11 * s)) + 8) (if (((F 2 ((18 + (11 * (F 2 1))) + 6)) + (F 2 2)) + 1) ≤ (F 2 ((18 + (11 * s)) + 8)) then (F 2 ((18 + (11 * s)) + 8)) else (((F 2 ((18 + (11 * (F 2 1))) + 6)) + (F 2 2)) + 1))))) (1 - s) 1 (by omega) (by omega)) rfl (gwV mw_129 mw_126 mw_127 mw_128 mw_5) rfl (by decide +kernel) 0 rfl rfl rfl rfl Sb.w rfl rfl dX8_sendsData_94 (fun r w1 hp94_7 => ?_)
    obtain ⟨rfl, rfl⟩ := hp94_7
    show V X 0 0 97 [(3, vI ((F 2 ((18 + (11 * (F 2 1))) + 6)) + (F 2 2))), (0, .ref (ad 0)), (1, vI s), (2, vI z)] [vI ((teF s (up (up (up (F 2) 10 ((F 2 10) + 1)) 11 ((F 2 11) + (bI (((F 2 ((18 + (11 * (F 2 1))) + 6)) + (F 2 2)) < (F 2 ((18 + (11 * s)) + 8)))))) ((18 + (11 * s)) + 8) (if (((F 2 ((18 + (11 * (F 2 1))) + 6)) + (F 2 2)) + 1) ≤ (F 2 ((18 + (11 * s)) + 8)) then (F 2 ((18 + (11 * s)) + 8)) else (((F 2 ((18 + (11 * (F 2 1))) + 6)) + (F 2 2)) + 1)))) ((18 + (11 * (1 - s))) + 1)), vI ((F 2 ((18 + (11 * (F 2 1))) + 6)) + (F 2 2))] ((mW (vG X) ad (up F 2 (teF s (up (up (up (F 2) 10 ((F 2 10) + 1)) 11 ((F 2 11) + (bI (((F 2 ((18 + (11 * (F 2 1))) + 6)) + (F 2 2)) < (F 2 ((18 + (11 * s)) + 8)))))) ((18 + (11 * s)) + 8) (if (((F 2 ((18 + (11 * (F 2 1))) + 6)) + (F 2 2)) + 1) ≤ (F 2 ((18 + (11 * s)) + 8)) then (F 2 ((18 + (11 * s)) + 8)) else (((F 2 ((18 + (11 * (F 2 1))) + 6)) + (F 2 2)) + 1)))))))
    suffices mrg : V X 0 0 105 [(3, vI ((F 2 ((18 + (11 * (F 2 1))) + 6)) + (F 2 2))), (0, .ref (ad 0)), (1, vI s), (2, vI z)] [vI (bI (((F 2 ((18 + (11 * (F 2 1))) + 6)) + (F 2 2)) = ((teF s (up (up (up (F 2) 10 ((F 2 10) + 1)) 11 ((F 2 11) + (bI (((F 2 ((18 + (11 * (F 2 1))) + 6)) + (F 2 2)) < (F 2 ((18 + (11 * s)) + 8)))))) ((18 + (11 * s)) + 8) (if (((F 2 ((18 + (11 * (F 2 1))) + 6)) + (F 2 2)) + 1) ≤ (F 2 ((18 + (11 * s)) + 8)) then (F 2 ((18 + (11 * s)) + 8)) else (((F 2 ((18 + (11 * (F 2 1))) + 6)) + (F 2 2)) + 1)))) ((18 + (11 * (1 - s))) + 1))))] ((mW (vG X) ad (up F 2 (teF s (up (up (up (F 2) 10 ((F 2 10) + 1)) 11 ((F 2 11) + (bI (((F 2 ((18 + (11 * (F 2 1))) + 6)) + (F 2 2)) < (F 2 ((18 + (11 * s)) + 8)))))) ((18 + (11 * s)) + 8) (if (((F 2 ((18 + (11 * (F 2 1))) + 6)) + (F 2 2)) + 1) ≤ (F 2 ((18 + (11 * s)) + 8)) then (F 2 ((18 + (11 * s)) + 8)) else (((F 2 ((18 + (11 * (F 2 1))) + 6)) + (F 2 2)) + 1))))))) by
      refine v_icmp_ne (tgt := 104) C dX8_sendsData_97 (by decide) (by have := hB ((18 + (11 * (F 2 1))) + 6); have := hB 1; have := hB 2; first | assumption | exact ⟨by omega, by omega⟩) (by have := hB85 ((18 + (11 * (1 - s))) + 1); first | assumption | exact ⟨by omega, by omega⟩) (fun c97 => ?_) (fun c97 => ?_)
      · skip
        refine v_iconst C dX8_sendsData_104 ?_
        exact V.top (bI_f (by omega)).symm mrg
      · skip
        refine v_iconst C dX8_sendsData_100 ?_
        refine v_goto (tgt := 105) C dX8_sendsData_101 (by decide) ?_
        exact V.top (bI_t (by omega)).symm mrg
    refine v_istore C M dX8_sendsData_105 (by decide) (L' := [(4, vI (bI (((F 2 ((18 + (11 * (F 2 1))) + 6)) + (F 2 2)) = ((teF s (up (up (up (F 2) 10 ((F 2 10) + 1)) 11 ((F 2 11) + (bI (((F 2 ((18 + (11 * (F 2 1))) + 6)) + (F 2 2)) < (F 2 ((18 + (11 * s)) + 8)))))) ((18 + (11 * s)) + 8) (if (((F 2 ((18 + (11 * (F 2 1))) + 6)) + (F 2 2)) + 1) ≤ (F 2 ((18 + (11 * s)) + 8)) then (F 2 ((18 + (11 * s)) + 8)) else (((F 2 ((18 + (11 * (F 2 1))) + 6)) + (F 2 2)) + 1)))) ((18 + (11 * (1 - s))) + 1))))), (3, vI ((F 2 ((18 + (11 * (F 2 1))) + 6)) + (F 2 2))), (0, .ref (ad 0)), (1, vI s), (2, vI z)]) rfl ?_
    refine v_aload_n C dX8_sendsData_107 rfl 2 rfl ?_
    refine v_get (v := .ref (ad 2)) C inw_8 0 10 rfl (by decide) (List.mem_cons_of_mem _ mw_105) rfl rfl dX8_sendsData_108 ?_
    refine v_iconst C dX8_sendsData_111 ?_
    refine v_iload_n C dX8_sendsData_112 rfl 3 rfl ?_
    refine v_isub C dX8_sendsData_113 ?_
    refine v_iconst C dX8_sendsData_114 ?_
    refine v_callS (na := 2) (wy := (Cond.code yX8_at cX8_at 2 (some .int) :: wsL_law)) (wc := []) (wr := (mW (vG X) ad (up F 2 (teF s (up (up (up (F 2) 10 ((F 2 10) + 1)) 11 ((F 2 11) + (bI (((F 2 ((18 + (11 * (F 2 1))) + 6)) + (F 2 2)) < (F 2 ((18 + (11 * s)) + 8)))))) ((18 + (11 * s)) + 8) (if (((F 2 ((18 + (11 * (F 2 1))) + 6)) + (F 2 2)) + 1) ≤ (F 2 ((18 + (11 * s)) + 8)) then (F 2 ((18 + (11 * s)) + 8)) else (((F 2 ((18 + (11 * (F 2 1))) + 6)) + (F 2 2)) + 1))))))) C [vI (1 - s), vI 1] [.ref (ad 2)] (c_X8_at _ _ (1 - s) 1 ) rfl (gwS mw_120 mw_118 mw_119 mw_5) (by decide +kernel) rfl rfl Sb.rf rfl rfl dX8_sendsData_115 (fun r w1 hp115_8 => ?_)
    obtain ⟨rfl, rfl⟩ := hp115_8
    show V X 0 0 118 [(4, vI (bI (((F 2 ((18 + (11 * (F 2 1))) + 6)) + (F 2 2)) = ((teF s (up (up (up (F 2) 10 ((F 2 10) + 1)) 11 ((F 2 11) + (bI (((F 2 ((18 + (11 * (F 2 1))) + 6)) + (F 2 2)) < (F 2 ((18 + (11 * s)) + 8)))))) ((18 + (11 * s)) + 8) (if (((F 2 ((18 + (11 * (F 2 1))) + 6)) + (F 2 2)) + 1) ≤ (F 2 ((18 + (11 * s)) + 8)) then (F 2 ((18 + (11 * s)) + 8)) else (((F 2 ((18 + (11 * (F 2 1))) + 6)) + (F 2 2)) + 1)))) ((18 + (11 * (1 - s))) + 1))))), (3, vI ((F 2 ((18 + (11 * (F 2 1))) + 6)) + (F 2 2))), (0, .ref (ad 0)), (1, vI s), (2, vI z)] [vI ((18 + (11 * (1 - s))) + 1), .ref (ad 2)] ((mW (vG X) ad (up F 2 (teF s (up (up (up (F 2) 10 ((F 2 10) + 1)) 11 ((F 2 11) + (bI (((F 2 ((18 + (11 * (F 2 1))) + 6)) + (F 2 2)) < (F 2 ((18 + (11 * s)) + 8)))))) ((18 + (11 * s)) + 8) (if (((F 2 ((18 + (11 * (F 2 1))) + 6)) + (F 2 2)) + 1) ≤ (F 2 ((18 + (11 * s)) + 8)) then (F 2 ((18 + (11 * s)) + 8)) else (((F 2 ((18 + (11 * (F 2 1))) + 6)) + (F 2 2)) + 1)))))))
    refine v_dup2 C dX8_sendsData_118 rfl rfl ?_
    refine v_iald C 2 rfl (by  omega) (by  omega) (by decide) dX8_sendsData_119 ?_
    show V X 0 0 120 [(4, vI (bI (((F 2 ((18 + (11 * (F 2 1))) + 6)) + (F 2 2)) = ((teF s (up (up (up (F 2) 10 ((F 2 10) + 1)) 11 ((F 2 11) + (bI (((F 2 ((18 + (11 * (F 2 1))) + 6)) + (F 2 2)) < (F 2 ((18 + (11 * s)) + 8)))))) ((18 + (11 * s)) + 8) (if (((F 2 ((18 + (11 * (F 2 1))) + 6)) + (F 2 2)) + 1) ≤ (F 2 ((18 + (11 * s)) + 8)) then (F 2 ((18 + (11 * s)) + 8)) else (((F 2 ((18 + (11 * (F 2 1))) + 6)) + (F 2 2)) + 1)))) ((18 + (11 * (1 - s))) + 1))))), (3, vI ((F 2 ((18 + (11 * (F 2 1))) + 6)) + (F 2 2))), (0, .ref (ad 0)), (1, vI s), (2, vI z)] [vI ((teF s (up (up (up (F 2) 10 ((F 2 10) + 1)) 11 ((F 2 11) + (bI (((F 2 ((18 + (11 * (F 2 1))) + 6)) + (F 2 2)) < (F 2 ((18 + (11 * s)) + 8)))))) ((18 + (11 * s)) + 8) (if (((F 2 ((18 + (11 * (F 2 1))) + 6)) + (F 2 2)) + 1) ≤ (F 2 ((18 + (11 * s)) + 8)) then (F 2 ((18 + (11 * s)) + 8)) else (((F 2 ((18 + (11 * (F 2 1))) + 6)) + (F 2 2)) + 1)))) ((18 + (11 * (1 - s))) + 1)), vI ((18 + (11 * (1 - s))) + 1), .ref (ad 2)] ((mW (vG X) ad (up F 2 (teF s (up (up (up (F 2) 10 ((F 2 10) + 1)) 11 ((F 2 11) + (bI (((F 2 ((18 + (11 * (F 2 1))) + 6)) + (F 2 2)) < (F 2 ((18 + (11 * s)) + 8)))))) ((18 + (11 * s)) + 8) (if (((F 2 ((18 + (11 * (F 2 1))) + 6)) + (F 2 2)) + 1) ≤ (F 2 ((18 + (11 * s)) + 8)) then (F 2 ((18 + (11 * s)) + 8)) else (((F 2 ((18 + (11 * (F 2 1))) + 6)) + (F 2 2)) + 1)))))))
    refine v_iload C dX8_sendsData_120 0 rfl ?_
    suffices mrg : V X 0 0 130 [(4, vI (bI (((F 2 ((18 + (11 * (F 2 1))) + 6)) + (F 2 2)) = ((teF s (up (up (up (F 2) 10 ((F 2 10) + 1)) 11 ((F 2 11) + (bI (((F 2 ((18 + (11 * (F 2 1))) + 6)) + (F 2 2)) < (F 2 ((18 + (11 * s)) + 8)))))) ((18 + (11 * s)) + 8) (if (((F 2 ((18 + (11 * (F 2 1))) + 6)) + (F 2 2)) + 1) ≤ (F 2 ((18 + (11 * s)) + 8)) then (F 2 ((18 + (11 * s)) + 8)) else (((F 2 ((18 + (11 * (F 2 1))) + 6)) + (F 2 2)) + 1)))) ((18 + (11 * (1 - s))) + 1))))), (3, vI ((F 2 ((18 + (11 * (F 2 1))) + 6)) + (F 2 2))), (0, .ref (ad 0)), (1, vI s), (2, vI z)] [vI (bI (((F 2 ((18 + (11 * (F 2 1))) + 6)) + (F 2 2)) = ((teF s (up (up (up (F 2) 10 ((F 2 10) + 1)) 11 ((F 2 11) + (bI (((F 2 ((18 + (11 * (F 2 1))) + 6)) + (F 2 2)) < (F 2 ((18 + (11 * s)) + 8)))))) ((18 + (11 * s)) + 8) (if (((F 2 ((18 + (11 * (F 2 1))) + 6)) + (F 2 2)) + 1) ≤ (F 2 ((18 + (11 * s)) + 8)) then (F 2 ((18 + (11 * s)) + 8)) else (((F 2 ((18 + (11 * (F 2 1))) + 6)) + (F 2 2)) + 1)))) ((18 + (11 * (1 - s))) + 1)))), vI ((teF s (up (up (up (F 2) 10 ((F 2 10) + 1)) 11 ((F 2 11) + (bI (((F 2 ((18 + (11 * (F 2 1))) + 6)) + (F 2 2)) < (F 2 ((18 + (11 * s)) + 8)))))) ((18 + (11 * s)) + 8) (if (((F 2 ((18 + (11 * (F 2 1))) + 6)) + (F 2 2)) + 1) ≤ (F 2 ((18 + (11 * s)) + 8)) then (F 2 ((18 + (11 * s)) + 8)) else (((F 2 ((18 + (11 * (F 2 1))) + 6)) + (F 2 2)) + 1)))) ((18 + (11 * (1 - s))) + 1)), vI ((18 + (11 * (1 - s))) + 1), .ref (ad 2)] ((mW (vG X) ad (up F 2 (teF s (up (up (up (F 2) 10 ((F 2 10) + 1)) 11 ((F 2 11) + (bI (((F 2 ((18 + (11 * (F 2 1))) + 6)) + (F 2 2)) < (F 2 ((18 + (11 * s)) + 8)))))) ((18 + (11 * s)) + 8) (if (((F 2 ((18 + (11 * (F 2 1))) + 6)) + (F 2 2)) + 1) ≤ (F 2 ((18 + (11 * s)) + 8)) then (F 2 ((18 + (11 * s)) + 8)) else (((F 2 ((18 + (11 * (F 2 1))) + 6)) + (F 2 2)) + 1))))))) by
      refine v_if_eq (tgt := 129) C dX8_sendsData_122 (by decide) sm_bI (fun c122 => ?_) (fun c122 => ?_)
      · skip
        refine v_iconst C dX8_sendsData_129 ?_
        exact V.top (bI_f (bI_0.mp c122)).symm mrg
      · skip
        refine v_iconst C dX8_sendsData_125 ?_
        refine v_goto (tgt := 130) C dX8_sendsData_126 (by decide) ?_
        exact V.top (bI_t (bI_n0.mp c122)).symm mrg
    refine v_iadd C dX8_sendsData_130 ?_
    refine v_iast C 2 rfl (by  omega) (by  omega) (by decide) dX8_sendsData_131 (ws' := (mW (vG X) ad (up F 2 (up (teF s (up (up (up (F 2) 10 ((F 2 10) + 1)) 11 ((F 2 11) + (bI (((F 2 ((18 + (11 * (F 2 1))) + 6)) + (F 2 2)) < (F 2 ((18 + (11 * s)) + 8)))))) ((18 + (11 * s)) + 8) (if (((F 2 ((18 + (11 * (F 2 1))) + 6)) + (F 2 2)) + 1) ≤ (F 2 ((18 + (11 * s)) + 8)) then (F 2 ((18 + (11 * s)) + 8)) else (((F 2 ((18 + (11 * (F 2 1))) + 6)) + (F 2 2)) + 1)))) ((18 + (11 * (1 - s))) + 1) (((teF s (up (up (up (F 2) 10 ((F 2 10) + 1)) 11 ((F 2 11) + (bI (((F 2 ((18 + (11 * (F 2 1))) + 6)) + (F 2 2)) < (F 2 ((18 + (11 * s)) + 8)))))) ((18 + (11 * s)) + 8) (if (((F 2 ((18 + (11 * (F 2 1))) + 6)) + (F 2 2)) + 1) ≤ (F 2 ((18 + (11 * s)) + 8)) then (F 2 ((18 + (11 * s)) + 8)) else (((F 2 ((18 + (11 * (F 2 1))) + 6)) + (F 2 2)) + 1)))) ((18 + (11 * (1 - s))) + 1)) + (bI (((F 2 ((18 + (11 * (F 2 1))) + 6)) + (F 2 2)) = ((teF s (up (up (up (F 2) 10 ((F 2 10) + 1)) 11 ((F 2 11) + (bI (((F 2 ((18 + (11 * (F 2 1))) + 6)) + (F 2 2)) < (F 2 ((18 + (11 * s)) + 8)))))) ((18 + (11 * s)) + 8) (if (((F 2 ((18 + (11 * (F 2 1))) + 6)) + (F 2 2)) + 1) ≤ (F 2 ((18 + (11 * s)) + 8)) then (F 2 ((18 + (11 * s)) + 8)) else (((F 2 ((18 + (11 * (F 2 1))) + 6)) + (F 2 2)) + 1)))) ((18 + (11 * (1 - s))) + 1))))))))) rfl ?_
    refine v_aload_n C dX8_sendsData_132 rfl 2 rfl ?_
    refine v_get (v := .ref (ad 2)) C inw_8 0 10 rfl (by decide) (List.mem_cons_of_mem _ mw_105) rfl rfl dX8_sendsData_133 ?_
    refine v_bipush C dX8_sendsData_136 (by decide +kernel) ?_
    refine v_dup2 C dX8_sendsData_138 rfl rfl ?_
    refine v_iald C 2 rfl (by decide) (by decide) (by decide) dX8_sendsData_139 ?_
    show V X 0 0 140 [(4, vI (bI (((F 2 ((18 + (11 * (F 2 1))) + 6)) + (F 2 2)) = ((teF s (up (up (up (F 2) 10 ((F 2 10) + 1)) 11 ((F 2 11) + (bI (((F 2 ((18 + (11 * (F 2 1))) + 6)) + (F 2 2)) < (F 2 ((18 + (11 * s)) + 8)))))) ((18 + (11 * s)) + 8) (if (((F 2 ((18 + (11 * (F 2 1))) + 6)) + (F 2 2)) + 1) ≤ (F 2 ((18 + (11 * s)) + 8)) then (F 2 ((18 + (11 * s)) + 8)) else (((F 2 ((18 + (11 * (F 2 1))) + 6)) + (F 2 2)) + 1)))) ((18 + (11 * (1 - s))) + 1))))), (3, vI ((F 2 ((18 + (11 * (F 2 1))) + 6)) + (F 2 2))), (0, .ref (ad 0)), (1, vI s), (2, vI z)] [vI ((up (teF s (up (up (up (F 2) 10 ((F 2 10) + 1)) 11 ((F 2 11) + (bI (((F 2 ((18 + (11 * (F 2 1))) + 6)) + (F 2 2)) < (F 2 ((18 + (11 * s)) + 8)))))) ((18 + (11 * s)) + 8) (if (((F 2 ((18 + (11 * (F 2 1))) + 6)) + (F 2 2)) + 1) ≤ (F 2 ((18 + (11 * s)) + 8)) then (F 2 ((18 + (11 * s)) + 8)) else (((F 2 ((18 + (11 * (F 2 1))) + 6)) + (F 2 2)) + 1)))) ((18 + (11 * (1 - s))) + 1) (((teF s (up (up (up (F 2) 10 ((F 2 10) + 1)) 11 ((F 2 11) + (bI (((F 2 ((18 + (11 * (F 2 1))) + 6)) + (F 2 2)) < (F 2 ((18 + (11 * s)) + 8)))))) ((18 + (11 * s)) + 8) (if (((F 2 ((18 + (11 * (F 2 1))) + 6)) + (F 2 2)) + 1) ≤ (F 2 ((18 + (11 * s)) + 8)) then (F 2 ((18 + (11 * s)) + 8)) else (((F 2 ((18 + (11 * (F 2 1))) + 6)) + (F 2 2)) + 1)))) ((18 + (11 * (1 - s))) + 1)) + (bI (((F 2 ((18 + (11 * (F 2 1))) + 6)) + (F 2 2)) = ((teF s (up (up (up (F 2) 10 ((F 2 10) + 1)) 11 ((F 2 11) + (bI (((F 2 ((18 + (11 * (F 2 1))) + 6)) + (F 2 2)) < (F 2 ((18 + (11 * s)) + 8)))))) ((18 + (11 * s)) + 8) (if (((F 2 ((18 + (11 * (F 2 1))) + 6)) + (F 2 2)) + 1) ≤ (F 2 ((18 + (11 * s)) + 8)) then (F 2 ((18 + (11 * s)) + 8)) else (((F 2 ((18 + (11 * (F 2 1))) + 6)) + (F 2 2)) + 1)))) ((18 + (11 * (1 - s))) + 1)))))) 17), vI 17, .ref (ad 2)] ((mW (vG X) ad (up F 2 (up (teF s (up (up (up (F 2) 10 ((F 2 10) + 1)) 11 ((F 2 11) + (bI (((F 2 ((18 + (11 * (F 2 1))) + 6)) + (F 2 2)) < (F 2 ((18 + (11 * s)) + 8)))))) ((18 + (11 * s)) + 8) (if (((F 2 ((18 + (11 * (F 2 1))) + 6)) + (F 2 2)) + 1) ≤ (F 2 ((18 + (11 * s)) + 8)) then (F 2 ((18 + (11 * s)) + 8)) else (((F 2 ((18 + (11 * (F 2 1))) + 6)) + (F 2 2)) + 1)))) ((18 + (11 * (1 - s))) + 1) (((teF s (up (up (up (F 2) 10 ((F 2 10) + 1)) 11 ((F 2 11) + (bI (((F 2 ((18 + (11 * (F 2 1))) + 6)) + (F 2 2)) < (F 2 ((18 + (11 * s)) + 8)))))) ((18 + (11 * s)) + 8) (if (((F 2 ((18 + (11 * (F 2 1))) + 6)) + (F 2 2)) + 1) ≤ (F 2 ((18 + (11 * s)) + 8)) then (F 2 ((18 + (11 * s)) + 8)) else (((F 2 ((18 + (11 * (F 2 1))) + 6)) + (F 2 2)) + 1)))) ((18 + (11 * (1 - s))) + 1)) + (bI (((F 2 ((18 + (11 * (F 2 1))) + 6)) + (F 2 2)) = ((teF s (up (up (up (F 2) 10 ((F 2 10) + 1)) 11 ((F 2 11) + (bI (((F 2 ((18 + (11 * (F 2 1))) + 6)) + (F 2 2)) < (F 2 ((18 + (11 * s)) + 8)))))) ((18 + (11 * s)) + 8) (if (((F 2 ((18 + (11 * (F 2 1))) + 6)) + (F 2 2)) + 1) ≤ (F 2 ((18 + (11 * s)) + 8)) then (F 2 ((18 + (11 * s)) + 8)) else (((F 2 ((18 + (11 * (F 2 1))) + 6)) + (F 2 2)) + 1)))) ((18 + (11 * (1 - s))) + 1)))))))))
    rw [up_n (show (17 : Int) ≠ ((18 + (11 * (1 - s))) + 1) by omega)]
    refine v_iload C dX8_sendsData_140 0 rfl ?_
    suffices mrg : V X 0 0 150 [(4, vI (bI (((F 2 ((18 + (11 * (F 2 1))) + 6)) + (F 2 2)) = ((teF s (up (up (up (F 2) 10 ((F 2 10) + 1)) 11 ((F 2 11) + (bI (((F 2 ((18 + (11 * (F 2 1))) + 6)) + (F 2 2)) < (F 2 ((18 + (11 * s)) + 8)))))) ((18 + (11 * s)) + 8) (if (((F 2 ((18 + (11 * (F 2 1))) + 6)) + (F 2 2)) + 1) ≤ (F 2 ((18 + (11 * s)) + 8)) then (F 2 ((18 + (11 * s)) + 8)) else (((F 2 ((18 + (11 * (F 2 1))) + 6)) + (F 2 2)) + 1)))) ((18 + (11 * (1 - s))) + 1))))), (3, vI ((F 2 ((18 + (11 * (F 2 1))) + 6)) + (F 2 2))), (0, .ref (ad 0)), (1, vI s), (2, vI z)] [vI (bI (¬ ((F 2 ((18 + (11 * (F 2 1))) + 6)) + (F 2 2)) = ((teF s (up (up (up (F 2) 10 ((F 2 10) + 1)) 11 ((F 2 11) + (bI (((F 2 ((18 + (11 * (F 2 1))) + 6)) + (F 2 2)) < (F 2 ((18 + (11 * s)) + 8)))))) ((18 + (11 * s)) + 8) (if (((F 2 ((18 + (11 * (F 2 1))) + 6)) + (F 2 2)) + 1) ≤ (F 2 ((18 + (11 * s)) + 8)) then (F 2 ((18 + (11 * s)) + 8)) else (((F 2 ((18 + (11 * (F 2 1))) + 6)) + (F 2 2)) + 1)))) ((18 + (11 * (1 - s))) + 1)))), vI ((teF s (up (up (up (F 2) 10 ((F 2 10) + 1)) 11 ((F 2 11) + (bI (((F 2 ((18 + (11 * (F 2 1))) + 6)) + (F 2 2)) < (F 2 ((18 + (11 * s)) + 8)))))) ((18 + (11 * s)) + 8) (if (((F 2 ((18 + (11 * (F 2 1))) + 6)) + (F 2 2)) + 1) ≤ (F 2 ((18 + (11 * s)) + 8)) then (F 2 ((18 + (11 * s)) + 8)) else (((F 2 ((18 + (11 * (F 2 1))) + 6)) + (F 2 2)) + 1)))) 17), vI 17, .ref (ad 2)] ((mW (vG X) ad (up F 2 (up (teF s (up (up (up (F 2) 10 ((F 2 10) + 1)) 11 ((F 2 11) + (bI (((F 2 ((18 + (11 * (F 2 1))) + 6)) + (F 2 2)) < (F 2 ((18 + (11 * s)) + 8)))))) ((18 + (11 * s)) + 8) (if (((F 2 ((18 + (11 * (F 2 1))) + 6)) + (F 2 2)) + 1) ≤ (F 2 ((18 + (11 * s)) + 8)) then (F 2 ((18 + (11 * s)) + 8)) else (((F 2 ((18 + (11 * (F 2 1))) + 6)) + (F 2 2)) + 1)))) ((18 + (11 * (1 - s))) + 1) (((teF s (up (up (up (F 2) 10 ((F 2 10) + 1)) 11 ((F 2 11) + (bI (((F 2 ((18 + (11 * (F 2 1))) + 6)) + (F 2 2)) < (F 2 ((18 + (11 * s)) + 8)))))) ((18 + (11 * s)) + 8) (if (((F 2 ((18 + (11 * (F 2 1))) + 6)) + (F 2 2)) + 1) ≤ (F 2 ((18 + (11 * s)) + 8)) then (F 2 ((18 + (11 * s)) + 8)) else (((F 2 ((18 + (11 * (F 2 1))) + 6)) + (F 2 2)) + 1)))) ((18 + (11 * (1 - s))) + 1)) + (bI (((F 2 ((18 + (11 * (F 2 1))) + 6)) + (F 2 2)) = ((teF s (up (up (up (F 2) 10 ((F 2 10) + 1)) 11 ((F 2 11) + (bI (((F 2 ((18 + (11 * (F 2 1))) + 6)) + (F 2 2)) < (F 2 ((18 + (11 * s)) + 8)))))) ((18 + (11 * s)) + 8) (if (((F 2 ((18 + (11 * (F 2 1))) + 6)) + (F 2 2)) + 1) ≤ (F 2 ((18 + (11 * s)) + 8)) then (F 2 ((18 + (11 * s)) + 8)) else (((F 2 ((18 + (11 * (F 2 1))) + 6)) + (F 2 2)) + 1)))) ((18 + (11 * (1 - s))) + 1))))))))) by
      refine v_if_eq (tgt := 149) C dX8_sendsData_142 (by decide) sm_bI (fun c142 => ?_) (fun c142 => ?_)
      · skip
        refine v_iconst C dX8_sendsData_149 ?_
        exact V.top (bI_t (bI_0.mp c142)).symm mrg
      · skip
        refine v_iconst C dX8_sendsData_145 ?_
        refine v_goto (tgt := 150) C dX8_sendsData_146 (by decide) ?_
        exact V.top (bI_f (fun x => x (bI_n0.mp c142))).symm mrg
    refine v_iadd C dX8_sendsData_150 ?_
    refine v_iast C 2 rfl (by decide) (by decide) (by decide) dX8_sendsData_151 (ws' := (mW (vG X) ad (up F 2 (up (up (teF s (up (up (up (F 2) 10 ((F 2 10) + 1)) 11 ((F 2 11) + (bI (((F 2 ((18 + (11 * (F 2 1))) + 6)) + (F 2 2)) < (F 2 ((18 + (11 * s)) + 8)))))) ((18 + (11 * s)) + 8) (if (((F 2 ((18 + (11 * (F 2 1))) + 6)) + (F 2 2)) + 1) ≤ (F 2 ((18 + (11 * s)) + 8)) then (F 2 ((18 + (11 * s)) + 8)) else (((F 2 ((18 + (11 * (F 2 1))) + 6)) + (F 2 2)) + 1)))) ((18 + (11 * (1 - s))) + 1) (((teF s (up (up (up (F 2) 10 ((F 2 10) + 1)) 11 ((F 2 11) + (bI (((F 2 ((18 + (11 * (F 2 1))) + 6)) + (F 2 2)) < (F 2 ((18 + (11 * s)) + 8)))))) ((18 + (11 * s)) + 8) (if (((F 2 ((18 + (11 * (F 2 1))) + 6)) + (F 2 2)) + 1) ≤ (F 2 ((18 + (11 * s)) + 8)) then (F 2 ((18 + (11 * s)) + 8)) else (((F 2 ((18 + (11 * (F 2 1))) + 6)) + (F 2 2)) + 1)))) ((18 + (11 * (1 - s))) + 1)) + (bI (((F 2 ((18 + (11 * (F 2 1))) + 6)) + (F 2 2)) = ((teF s (up (up (up (F 2) 10 ((F 2 10) + 1)) 11 ((F 2 11) + (bI (((F 2 ((18 + (11 * (F 2 1))) + 6)) + (F 2 2)) < (F 2 ((18 + (11 * s)) + 8)))))) ((18 + (11 * s)) + 8) (if (((F 2 ((18 + (11 * (F 2 1))) + 6)) + (F 2 2)) + 1) ≤ (F 2 ((18 + (11 * s)) + 8)) then (F 2 ((18 + (11 * s)) + 8)) else (((F 2 ((18 + (11 * (F 2 1))) + 6)) + (F 2 2)) + 1)))) ((18 + (11 * (1 - s))) + 1)))))) 17 (((teF s (up (up (up (F 2) 10 ((F 2 10) + 1)) 11 ((F 2 11) + (bI (((F 2 ((18 + (11 * (F 2 1))) + 6)) + (F 2 2)) < (F 2 ((18 + (11 * s)) + 8)))))) ((18 + (11 * s)) + 8) (if (((F 2 ((18 + (11 * (F 2 1))) + 6)) + (F 2 2)) + 1) ≤ (F 2 ((18 + (11 * s)) + 8)) then (F 2 ((18 + (11 * s)) + 8)) else (((F 2 ((18 + (11 * (F 2 1))) + 6)) + (F 2 2)) + 1)))) 17) + (bI (¬ ((F 2 ((18 + (11 * (F 2 1))) + 6)) + (F 2 2)) = ((teF s (up (up (up (F 2) 10 ((F 2 10) + 1)) 11 ((F 2 11) + (bI (((F 2 ((18 + (11 * (F 2 1))) + 6)) + (F 2 2)) < (F 2 ((18 + (11 * s)) + 8)))))) ((18 + (11 * s)) + 8) (if (((F 2 ((18 + (11 * (F 2 1))) + 6)) + (F 2 2)) + 1) ≤ (F 2 ((18 + (11 * s)) + 8)) then (F 2 ((18 + (11 * s)) + 8)) else (((F 2 ((18 + (11 * (F 2 1))) + 6)) + (F 2 2)) + 1)))) ((18 + (11 * (1 - s))) + 1))))))))) rfl ?_
    refine v_aload_n C dX8_sendsData_152 rfl 2 rfl ?_
    refine v_get (v := .ref (ad 2)) C inw_8 0 10 rfl (by decide) (List.mem_cons_of_mem _ mw_105) rfl rfl dX8_sendsData_153 ?_
    refine v_iconst C dX8_sendsData_156 ?_
    refine v_dup2 C dX8_sendsData_157 rfl rfl ?_
    refine v_iald C 2 rfl (by decide) (by decide) (by decide) dX8_sendsData_158 ?_
    show V X 0 0 159 [(4, vI (bI (((F 2 ((18 + (11 * (F 2 1))) + 6)) + (F 2 2)) = ((teF s (up (up (up (F 2) 10 ((F 2 10) + 1)) 11 ((F 2 11) + (bI (((F 2 ((18 + (11 * (F 2 1))) + 6)) + (F 2 2)) < (F 2 ((18 + (11 * s)) + 8)))))) ((18 + (11 * s)) + 8) (if (((F 2 ((18 + (11 * (F 2 1))) + 6)) + (F 2 2)) + 1) ≤ (F 2 ((18 + (11 * s)) + 8)) then (F 2 ((18 + (11 * s)) + 8)) else (((F 2 ((18 + (11 * (F 2 1))) + 6)) + (F 2 2)) + 1)))) ((18 + (11 * (1 - s))) + 1))))), (3, vI ((F 2 ((18 + (11 * (F 2 1))) + 6)) + (F 2 2))), (0, .ref (ad 0)), (1, vI s), (2, vI z)] [vI ((up (up (teF s (up (up (up (F 2) 10 ((F 2 10) + 1)) 11 ((F 2 11) + (bI (((F 2 ((18 + (11 * (F 2 1))) + 6)) + (F 2 2)) < (F 2 ((18 + (11 * s)) + 8)))))) ((18 + (11 * s)) + 8) (if (((F 2 ((18 + (11 * (F 2 1))) + 6)) + (F 2 2)) + 1) ≤ (F 2 ((18 + (11 * s)) + 8)) then (F 2 ((18 + (11 * s)) + 8)) else (((F 2 ((18 + (11 * (F 2 1))) + 6)) + (F 2 2)) + 1)))) ((18 + (11 * (1 - s))) + 1) (((teF s (up (up (up (F 2) 10 ((F 2 10) + 1)) 11 ((F 2 11) + (bI (((F 2 ((18 + (11 * (F 2 1))) + 6)) + (F 2 2)) < (F 2 ((18 + (11 * s)) + 8)))))) ((18 + (11 * s)) + 8) (if (((F 2 ((18 + (11 * (F 2 1))) + 6)) + (F 2 2)) + 1) ≤ (F 2 ((18 + (11 * s)) + 8)) then (F 2 ((18 + (11 * s)) + 8)) else (((F 2 ((18 + (11 * (F 2 1))) + 6)) + (F 2 2)) + 1)))) ((18 + (11 * (1 - s))) + 1)) + (bI (((F 2 ((18 + (11 * (F 2 1))) + 6)) + (F 2 2)) = ((teF s (up (up (up (F 2) 10 ((F 2 10) + 1)) 11 ((F 2 11) + (bI (((F 2 ((18 + (11 * (F 2 1))) + 6)) + (F 2 2)) < (F 2 ((18 + (11 * s)) + 8)))))) ((18 + (11 * s)) + 8) (if (((F 2 ((18 + (11 * (F 2 1))) + 6)) + (F 2 2)) + 1) ≤ (F 2 ((18 + (11 * s)) + 8)) then (F 2 ((18 + (11 * s)) + 8)) else (((F 2 ((18 + (11 * (F 2 1))) + 6)) + (F 2 2)) + 1)))) ((18 + (11 * (1 - s))) + 1)))))) 17 (((teF s (up (up (up (F 2) 10 ((F 2 10) + 1)) 11 ((F 2 11) + (bI (((F 2 ((18 + (11 * (F 2 1))) + 6)) + (F 2 2)) < (F 2 ((18 + (11 * s)) + 8)))))) ((18 + (11 * s)) + 8) (if (((F 2 ((18 + (11 * (F 2 1))) + 6)) + (F 2 2)) + 1) ≤ (F 2 ((18 + (11 * s)) + 8)) then (F 2 ((18 + (11 * s)) + 8)) else (((F 2 ((18 + (11 * (F 2 1))) + 6)) + (F 2 2)) + 1)))) 17) + (bI (¬ ((F 2 ((18 + (11 * (F 2 1))) + 6)) + (F 2 2)) = ((teF s (up (up (up (F 2) 10 ((F 2 10) + 1)) 11 ((F 2 11) + (bI (((F 2 ((18 + (11 * (F 2 1))) + 6)) + (F 2 2)) < (F 2 ((18 + (11 * s)) + 8)))))) ((18 + (11 * s)) + 8) (if (((F 2 ((18 + (11 * (F 2 1))) + 6)) + (F 2 2)) + 1) ≤ (F 2 ((18 + (11 * s)) + 8)) then (F 2 ((18 + (11 * s)) + 8)) else (((F 2 ((18 + (11 * (F 2 1))) + 6)) + (F 2 2)) + 1)))) ((18 + (11 * (1 - s))) + 1)))))) 2), vI 2, .ref (ad 2)] ((mW (vG X) ad (up F 2 (up (up (teF s (up (up (up (F 2) 10 ((F 2 10) + 1)) 11 ((F 2 11) + (bI (((F 2 ((18 + (11 * (F 2 1))) + 6)) + (F 2 2)) < (F 2 ((18 + (11 * s)) + 8)))))) ((18 + (11 * s)) + 8) (if (((F 2 ((18 + (11 * (F 2 1))) + 6)) + (F 2 2)) + 1) ≤ (F 2 ((18 + (11 * s)) + 8)) then (F 2 ((18 + (11 * s)) + 8)) else (((F 2 ((18 + (11 * (F 2 1))) + 6)) + (F 2 2)) + 1)))) ((18 + (11 * (1 - s))) + 1) (((teF s (up (up (up (F 2) 10 ((F 2 10) + 1)) 11 ((F 2 11) + (bI (((F 2 ((18 + (11 * (F 2 1))) + 6)) + (F 2 2)) < (F 2 ((18 + (11 * s)) + 8)))))) ((18 + (11 * s)) + 8) (if (((F 2 ((18 + (11 * (F 2 1))) + 6)) + (F 2 2)) + 1) ≤ (F 2 ((18 + (11 * s)) + 8)) then (F 2 ((18 + (11 * s)) + 8)) else (((F 2 ((18 + (11 * (F 2 1))) + 6)) + (F 2 2)) + 1)))) ((18 + (11 * (1 - s))) + 1)) + (bI (((F 2 ((18 + (11 * (F 2 1))) + 6)) + (F 2 2)) = ((teF s (up (up (up (F 2) 10 ((F 2 10) + 1)) 11 ((F 2 11) + (bI (((F 2 ((18 + (11 * (F 2 1))) + 6)) + (F 2 2)) < (F 2 ((18 + (11 * s)) + 8)))))) ((18 + (11 * s)) + 8) (if (((F 2 ((18 + (11 * (F 2 1))) + 6)) + (F 2 2)) + 1) ≤ (F 2 ((18 + (11 * s)) + 8)) then (F 2 ((18 + (11 * s)) + 8)) else (((F 2 ((18 + (11 * (F 2 1))) + 6)) + (F 2 2)) + 1)))) ((18 + (11 * (1 - s))) + 1)))))) 17 (((teF s (up (up (up (F 2) 10 ((F 2 10) + 1)) 11 ((F 2 11) + (bI (((F 2 ((18 + (11 * (F 2 1))) + 6)) + (F 2 2)) < (F 2 ((18 + (11 * s)) + 8)))))) ((18 + (11 * s)) + 8) (if (((F 2 ((18 + (11 * (F 2 1))) + 6)) + (F 2 2)) + 1) ≤ (F 2 ((18 + (11 * s)) + 8)) then (F 2 ((18 + (11 * s)) + 8)) else (((F 2 ((18 + (11 * (F 2 1))) + 6)) + (F 2 2)) + 1)))) 17) + (bI (¬ ((F 2 ((18 + (11 * (F 2 1))) + 6)) + (F 2 2)) = ((teF s (up (up (up (F 2) 10 ((F 2 10) + 1)) 11 ((F 2 11) + (bI (((F 2 ((18 + (11 * (F 2 1))) + 6)) + (F 2 2)) < (F 2 ((18 + (11 * s)) + 8)))))) ((18 + (11 * s)) + 8) (if (((F 2 ((18 + (11 * (F 2 1))) + 6)) + (F 2 2)) + 1) ≤ (F 2 ((18 + (11 * s)) + 8)) then (F 2 ((18 + (11 * s)) + 8)) else (((F 2 ((18 + (11 * (F 2 1))) + 6)) + (F 2 2)) + 1)))) ((18 + (11 * (1 - s))) + 1)))))))))
    rw [up_n (show (2 : Int) ≠ 17 by decide), up_n (show (2 : Int) ≠ ((18 + (11 * (1 - s))) + 1) by omega)]
    refine v_iconst C dX8_sendsData_159 ?_
    refine v_iadd C dX8_sendsData_160 ?_
    refine v_iast C 2 rfl (by decide) (by decide) (by decide) dX8_sendsData_161 (ws' := (mW (vG X) ad (up F 2 (up (up (up (teF s (up (up (up (F 2) 10 ((F 2 10) + 1)) 11 ((F 2 11) + (bI (((F 2 ((18 + (11 * (F 2 1))) + 6)) + (F 2 2)) < (F 2 ((18 + (11 * s)) + 8)))))) ((18 + (11 * s)) + 8) (if (((F 2 ((18 + (11 * (F 2 1))) + 6)) + (F 2 2)) + 1) ≤ (F 2 ((18 + (11 * s)) + 8)) then (F 2 ((18 + (11 * s)) + 8)) else (((F 2 ((18 + (11 * (F 2 1))) + 6)) + (F 2 2)) + 1)))) ((18 + (11 * (1 - s))) + 1) (((teF s (up (up (up (F 2) 10 ((F 2 10) + 1)) 11 ((F 2 11) + (bI (((F 2 ((18 + (11 * (F 2 1))) + 6)) + (F 2 2)) < (F 2 ((18 + (11 * s)) + 8)))))) ((18 + (11 * s)) + 8) (if (((F 2 ((18 + (11 * (F 2 1))) + 6)) + (F 2 2)) + 1) ≤ (F 2 ((18 + (11 * s)) + 8)) then (F 2 ((18 + (11 * s)) + 8)) else (((F 2 ((18 + (11 * (F 2 1))) + 6)) + (F 2 2)) + 1)))) ((18 + (11 * (1 - s))) + 1)) + (bI (((F 2 ((18 + (11 * (F 2 1))) + 6)) + (F 2 2)) = ((teF s (up (up (up (F 2) 10 ((F 2 10) + 1)) 11 ((F 2 11) + (bI (((F 2 ((18 + (11 * (F 2 1))) + 6)) + (F 2 2)) < (F 2 ((18 + (11 * s)) + 8)))))) ((18 + (11 * s)) + 8) (if (((F 2 ((18 + (11 * (F 2 1))) + 6)) + (F 2 2)) + 1) ≤ (F 2 ((18 + (11 * s)) + 8)) then (F 2 ((18 + (11 * s)) + 8)) else (((F 2 ((18 + (11 * (F 2 1))) + 6)) + (F 2 2)) + 1)))) ((18 + (11 * (1 - s))) + 1)))))) 17 (((teF s (up (up (up (F 2) 10 ((F 2 10) + 1)) 11 ((F 2 11) + (bI (((F 2 ((18 + (11 * (F 2 1))) + 6)) + (F 2 2)) < (F 2 ((18 + (11 * s)) + 8)))))) ((18 + (11 * s)) + 8) (if (((F 2 ((18 + (11 * (F 2 1))) + 6)) + (F 2 2)) + 1) ≤ (F 2 ((18 + (11 * s)) + 8)) then (F 2 ((18 + (11 * s)) + 8)) else (((F 2 ((18 + (11 * (F 2 1))) + 6)) + (F 2 2)) + 1)))) 17) + (bI (¬ ((F 2 ((18 + (11 * (F 2 1))) + 6)) + (F 2 2)) = ((teF s (up (up (up (F 2) 10 ((F 2 10) + 1)) 11 ((F 2 11) + (bI (((F 2 ((18 + (11 * (F 2 1))) + 6)) + (F 2 2)) < (F 2 ((18 + (11 * s)) + 8)))))) ((18 + (11 * s)) + 8) (if (((F 2 ((18 + (11 * (F 2 1))) + 6)) + (F 2 2)) + 1) ≤ (F 2 ((18 + (11 * s)) + 8)) then (F 2 ((18 + (11 * s)) + 8)) else (((F 2 ((18 + (11 * (F 2 1))) + 6)) + (F 2 2)) + 1)))) ((18 + (11 * (1 - s))) + 1)))))) 2 (((teF s (up (up (up (F 2) 10 ((F 2 10) + 1)) 11 ((F 2 11) + (bI (((F 2 ((18 + (11 * (F 2 1))) + 6)) + (F 2 2)) < (F 2 ((18 + (11 * s)) + 8)))))) ((18 + (11 * s)) + 8) (if (((F 2 ((18 + (11 * (F 2 1))) + 6)) + (F 2 2)) + 1) ≤ (F 2 ((18 + (11 * s)) + 8)) then (F 2 ((18 + (11 * s)) + 8)) else (((F 2 ((18 + (11 * (F 2 1))) + 6)) + (F 2 2)) + 1)))) 2) + 1))))) rfl ?_
    exact v_vret C E rfl dX8_sendsData_162 (by decide) (by decide) (⟨rfl, by rw [show (sdF s z (F 2)) = (up (up (up (teF s (up (up (up (F 2) 10 ((F 2 10) + 1)) 11 ((F 2 11) + (bI (((F 2 ((18 + (11 * (F 2 1))) + 6)) + (F 2 2)) < (F 2 ((18 + (11 * s)) + 8)))))) ((18 + (11 * s)) + 8) (if (((F 2 ((18 + (11 * (F 2 1))) + 6)) + (F 2 2)) + 1) ≤ (F 2 ((18 + (11 * s)) + 8)) then (F 2 ((18 + (11 * s)) + 8)) else (((F 2 ((18 + (11 * (F 2 1))) + 6)) + (F 2 2)) + 1)))) ((18 + (11 * (1 - s))) + 1) (((teF s (up (up (up (F 2) 10 ((F 2 10) + 1)) 11 ((F 2 11) + (bI (((F 2 ((18 + (11 * (F 2 1))) + 6)) + (F 2 2)) < (F 2 ((18 + (11 * s)) + 8)))))) ((18 + (11 * s)) + 8) (if (((F 2 ((18 + (11 * (F 2 1))) + 6)) + (F 2 2)) + 1) ≤ (F 2 ((18 + (11 * s)) + 8)) then (F 2 ((18 + (11 * s)) + 8)) else (((F 2 ((18 + (11 * (F 2 1))) + 6)) + (F 2 2)) + 1)))) ((18 + (11 * (1 - s))) + 1)) + (bI (((F 2 ((18 + (11 * (F 2 1))) + 6)) + (F 2 2)) = ((teF s (up (up (up (F 2) 10 ((F 2 10) + 1)) 11 ((F 2 11) + (bI (((F 2 ((18 + (11 * (F 2 1))) + 6)) + (F 2 2)) < (F 2 ((18 + (11 * s)) + 8)))))) ((18 + (11 * s)) + 8) (if (((F 2 ((18 + (11 * (F 2 1))) + 6)) + (F 2 2)) + 1) ≤ (F 2 ((18 + (11 * s)) + 8)) then (F 2 ((18 + (11 * s)) + 8)) else (((F 2 ((18 + (11 * (F 2 1))) + 6)) + (F 2 2)) + 1)))) ((18 + (11 * (1 - s))) + 1)))))) 17 (((teF s (up (up (up (F 2) 10 ((F 2 10) + 1)) 11 ((F 2 11) + (bI (((F 2 ((18 + (11 * (F 2 1))) + 6)) + (F 2 2)) < (F 2 ((18 + (11 * s)) + 8)))))) ((18 + (11 * s)) + 8) (if (((F 2 ((18 + (11 * (F 2 1))) + 6)) + (F 2 2)) + 1) ≤ (F 2 ((18 + (11 * s)) + 8)) then (F 2 ((18 + (11 * s)) + 8)) else (((F 2 ((18 + (11 * (F 2 1))) + 6)) + (F 2 2)) + 1)))) 17) + (bI (¬ ((F 2 ((18 + (11 * (F 2 1))) + 6)) + (F 2 2)) = ((teF s (up (up (up (F 2) 10 ((F 2 10) + 1)) 11 ((F 2 11) + (bI (((F 2 ((18 + (11 * (F 2 1))) + 6)) + (F 2 2)) < (F 2 ((18 + (11 * s)) + 8)))))) ((18 + (11 * s)) + 8) (if (((F 2 ((18 + (11 * (F 2 1))) + 6)) + (F 2 2)) + 1) ≤ (F 2 ((18 + (11 * s)) + 8)) then (F 2 ((18 + (11 * s)) + 8)) else (((F 2 ((18 + (11 * (F 2 1))) + 6)) + (F 2 2)) + 1)))) ((18 + (11 * (1 - s))) + 1)))))) 2 (((teF s (up (up (up (F 2) 10 ((F 2 10) + 1)) 11 ((F 2 11) + (bI (((F 2 ((18 + (11 * (F 2 1))) + 6)) + (F 2 2)) < (F 2 ((18 + (11 * s)) + 8)))))) ((18 + (11 * s)) + 8) (if (((F 2 ((18 + (11 * (F 2 1))) + 6)) + (F 2 2)) + 1) ≤ (F 2 ((18 + (11 * s)) + 8)) then (F 2 ((18 + (11 * s)) + 8)) else (((F 2 ((18 + (11 * (F 2 1))) + 6)) + (F 2 2)) + 1)))) 2) + 1)) from (if_pos c80)]⟩)
set_option maxHeartbeats 4000000 in
set_option maxRecDepth 100000 in
theorem c_X8_sendsTurn (G : GG) (l : Launch) (ad : Nat → Nat) (F : Int → Int → Int) (s z : Int) (h0 : s = 0 ∨ s = 1) (hz : z = 0 ∨ z = 1) (hB : sB 2000000 (F 2)) : Ct G l yX8_sendsTurn (Cond.code yX8_sendsTurn cX8_sendsTurn 6 none :: wsL_law) 4 87 0 0 [.ref (ad 0), vI s, vI z] ((mW G ad F)) (fun r w => r = none ∧ w = mW G ad (up F 2 (stF s z (F 2)))) := by
  refine Ct.of (own := RX8) (cc := cX8_sendsTurn) (maxL := 6) (ret := none) (by decide) rfl rfl (Nat.le_of_ble_eq_true rfl) (fun X C E M hG hl => ?_)
  subst hG hl
  refine v_iconst C dX8_sendsTurn_0 ?_
  refine v_iload_n C dX8_sendsTurn_1 rfl 1 rfl ?_
  refine v_isub C dX8_sendsTurn_2 ?_
  refine v_istore_n C M dX8_sendsTurn_3 rfl (by decide) (L' := [(3, vI (1 - s)), (0, .ref (ad 0)), (1, vI s), (2, vI z)]) rfl ?_
  refine v_aload_n C dX8_sendsTurn_4 rfl 1 rfl ?_
  refine v_get (v := .ref (ad 2)) C inw_8 0 10 rfl (by decide) (List.mem_cons_of_mem _ mw_105) rfl rfl dX8_sendsTurn_5 ?_
  refine v_bipush C dX8_sendsTurn_8 (by decide +kernel) ?_
  refine v_dup2 C dX8_sendsTurn_10 rfl rfl ?_
  refine v_iald C 2 rfl (by decide) (by decide) (by decide) dX8_sendsTurn_11 ?_
  refine v_iconst C dX8_sendsTurn_12 ?_
  refine v_iadd C dX8_sendsTurn_13 ?_
  refine v_iast C 2 rfl (by decide) (by decide) (by decide) dX8_sendsTurn_14 (ws' := (mW (vG X) ad (up F 2 (up (F 2) 12 ((F 2 12) + 1))))) rfl ?_
  refine v_aload_n C dX8_sendsTurn_15 rfl 1 rfl ?_
  refine v_get (v := .ref (ad 2)) C inw_8 0 10 rfl (by decide) (List.mem_cons_of_mem _ mw_105) rfl rfl dX8_sendsTurn_16 ?_
  refine v_bipush C dX8_sendsTurn_19 (by decide +kernel) ?_
  refine v_dup2 C dX8_sendsTurn_21 rfl rfl ?_
  refine v_iald C 2 rfl (by decide) (by decide) (by decide) dX8_sendsTurn_22 ?_
  show V X 0 0 23 [(3, vI (1 - s)), (0, .ref (ad 0)), (1, vI s), (2, vI z)] [vI ((up (F 2) 12 ((F 2 12) + 1)) 13), vI 13, .ref (ad 2)] ((mW (vG X) ad (up F 2 (up (F 2) 12 ((F 2 12) + 1)))))
  rw [up_n (show (13 : Int) ≠ 12 by decide)]
  refine v_aload_n C dX8_sendsTurn_23 rfl 1 rfl ?_
  refine v_get (v := .ref (ad 2)) C inw_8 0 10 rfl (by decide) (List.mem_cons_of_mem _ mw_105) rfl rfl dX8_sendsTurn_24 ?_
  refine v_bipush C dX8_sendsTurn_27 (by decide +kernel) ?_
  refine v_iald C 2 rfl (by decide) (by decide) (by decide) dX8_sendsTurn_29 ?_
  show V X 0 0 30 [(3, vI (1 - s)), (0, .ref (ad 0)), (1, vI s), (2, vI z)] [vI ((up (F 2) 12 ((F 2 12) + 1)) 6), vI (F 2 13), vI 13, .ref (ad 2)] ((mW (vG X) ad (up F 2 (up (F 2) 12 ((F 2 12) + 1)))))
  rw [up_n (show (6 : Int) ≠ 12 by decide)]
  refine v_iadd C dX8_sendsTurn_30 ?_
  refine v_iast C 2 rfl (by decide) (by decide) (by decide) dX8_sendsTurn_31 (ws' := (mW (vG X) ad (up F 2 (up (up (F 2) 12 ((F 2 12) + 1)) 13 ((F 2 13) + (F 2 6)))))) rfl ?_
  refine v_aload_n C dX8_sendsTurn_32 rfl 1 rfl ?_
  refine v_get (v := .ref (ad 2)) C inw_8 0 10 rfl (by decide) (List.mem_cons_of_mem _ mw_105) rfl rfl dX8_sendsTurn_33 ?_
  refine v_bipush C dX8_sendsTurn_36 (by decide +kernel) ?_
  refine v_iload_n C dX8_sendsTurn_38 rfl 3 rfl ?_
  refine v_if_eq (tgt := 46) C dX8_sendsTurn_39 (by decide) (by  first | assumption | exact ⟨by omega, by omega⟩) (fun c39 => ?_) (fun c39 => ?_)
  · skip
    refine v_iconst C dX8_sendsTurn_46 ?_
    refine v_iast C 2 rfl (by decide) (by decide) (by decide) dX8_sendsTurn_47 (ws' := (mW (vG X) ad (up F 2 (up (up (up (F 2) 12 ((F 2 12) + 1)) 13 ((F 2 13) + (F 2 6))) 6 0)))) rfl ?_
    refine v_iload_n C dX8_sendsTurn_48 rfl 3 rfl ?_
    refine v_if_eq (tgt := 84) C dX8_sendsTurn_49 (by decide) (by  first | assumption | exact ⟨by omega, by omega⟩) (fun c49 => ?_) (fun c49 => ?_)
    · skip
      refine v_aload_n C dX8_sendsTurn_84 rfl 1 rfl ?_
      refine v_iload_n C dX8_sendsTurn_85 rfl 2 rfl ?_
      refine v_callV (na := 1) (wy := (Cond.code yX8_tells cX8_tells 4 none :: wsL_law)) (wc := (mW (vG X) ad (up F 2 (up (up (up (F 2) 12 ((F 2 12) + 1)) 13 ((F 2 13) + (F 2 6))) 6 0)))) (wr := []) C [vI s] [] (c_X8_tells _ _ ad (up F 2 (up (up (up (F 2) 12 ((F 2 12) + 1)) 13 ((F 2 13) + (F 2 6))) 6 0)) s (by omega) (sB_up (sB_up (sB_up (sB_mono (by decide) hB) (by have := hB 12; exact ⟨by omega, by omega⟩)) (by have := hB 13; have := hB 6; exact ⟨by omega, by omega⟩)) (by decide))) rfl (gwV mw_666 mw_663 mw_664 mw_665 mw_5) rfl (by decide +kernel) 0 rfl rfl rfl rfl Sb.w rfl rfl dX8_sendsTurn_86 (fun r w1 hp86_1 => ?_)
      obtain ⟨rfl, rfl⟩ := hp86_1
      show V X 0 0 89 [(3, vI (1 - s)), (0, .ref (ad 0)), (1, vI s), (2, vI z)] [] ((mW (vG X) ad (up F 2 (teF s (up (up (up (F 2) 12 ((F 2 12) + 1)) 13 ((F 2 13) + (F 2 6))) 6 0)))))
      have hB86 : sB 16000000 (teF s (up (up (up (F 2) 12 ((F 2 12) + 1)) 13 ((F 2 13) + (F 2 6))) 6 0)) := teF_B (by omega) (sB_up (sB_up (sB_up (sB_mono (by decide) hB) (by have := hB 12; exact ⟨by omega, by omega⟩)) (by have := hB 13; have := hB 6; exact ⟨by omega, by omega⟩)) (by decide))
      refine v_aload_n C dX8_sendsTurn_89 rfl 1 rfl ?_
      refine v_get (v := .ref (ad 2)) C inw_8 0 10 rfl (by decide) (List.mem_cons_of_mem _ mw_105) rfl rfl dX8_sendsTurn_90 ?_
      refine v_iload_n C dX8_sendsTurn_93 rfl 2 rfl ?_
      refine v_bipush C dX8_sendsTurn_94 (by decide +kernel) ?_
      refine v_callS (na := 2) (wy := (Cond.code yX8_at cX8_at 2 (some .int) :: wsL_law)) (wc := []) (wr := (mW (vG X) ad (up F 2 (teF s (up (up (up (F 2) 12 ((F 2 12) + 1)) 13 ((F 2 13) + (F 2 6))) 6 0))))) C [vI s, vI 9] [.ref (ad 2)] (c_X8_at _ _ s 9 ) rfl (gwS mw_120 mw_118 mw_119 mw_5) (by decide +kernel) rfl rfl Sb.rf rfl rfl dX8_sendsTurn_96 (fun r w1 hp96_2 => ?_)
      obtain ⟨rfl, rfl⟩ := hp96_2
      show V X 0 0 99 [(3, vI (1 - s)), (0, .ref (ad 0)), (1, vI s), (2, vI z)] [vI ((18 + (11 * s)) + 9), .ref (ad 2)] ((mW (vG X) ad (up F 2 (teF s (up (up (up (F 2) 12 ((F 2 12) + 1)) 13 ((F 2 13) + (F 2 6))) 6 0)))))
      refine v_dup2 C dX8_sendsTurn_99 rfl rfl ?_
      refine v_iald C 2 rfl (by  omega) (by  omega) (by decide) dX8_sendsTurn_100 ?_
      show V X 0 0 101 [(3, vI (1 - s)), (0, .ref (ad 0)), (1, vI s), (2, vI z)] [vI ((teF s (up (up (up (F 2) 12 ((F 2 12) + 1)) 13 ((F 2 13) + (F 2 6))) 6 0)) ((18 + (11 * s)) + 9)), vI ((18 + (11 * s)) + 9), .ref (ad 2)] ((mW (vG X) ad (up F 2 (teF s (up (up (up (F 2) 12 ((F 2 12) + 1)) 13 ((F 2 13) + (F 2 6))) 6 0)))))
      refine v_iconst C dX8_sendsTurn_101 ?_
      refine v_iadd C dX8_sendsTurn_102 ?_
      refine v_iast C 2 rfl (by  omega) (by  omega) (by decide) dX8_sendsTurn_103 (ws' := (mW (vG X) ad (up F 2 (up (teF s (up (up (up (F 2) 12 ((F 2 12) + 1)) 13 ((F 2 13) + (F 2 6))) 6 0)) ((18 + (11 * s)) + 9) (((teF s (up (up (up (F 2) 12 ((F 2 12) + 1)) 13 ((F 2 13) + (F 2 6))) 6 0)) ((18 + (11 * s)) + 9)) + 1))))) rfl ?_
      refine v_aload_n C dX8_sendsTurn_104 rfl 1 rfl ?_
      refine v_get (v := .ref (ad 2)) C inw_8 0 10 rfl (by decide) (List.mem_cons_of_mem _ mw_105) rfl rfl dX8_sendsTurn_105 ?_
      refine v_iconst C dX8_sendsTurn_108 ?_
      refine v_iload_n C dX8_sendsTurn_109 rfl 0 rfl ?_
      refine v_iast C 2 rfl (by decide) (by decide) (by decide) dX8_sendsTurn_110 (ws' := (mW (vG X) ad (up F 2 (up (up (teF s (up (up (up (F 2) 12 ((F 2 12) + 1)) 13 ((F 2 13) + (F 2 6))) 6 0)) ((18 + (11 * s)) + 9) (((teF s (up (up (up (F 2) 12 ((F 2 12) + 1)) 13 ((F 2 13) + (F 2 6))) 6 0)) ((18 + (11 * s)) + 9)) + 1)) 1 (1 - s))))) rfl ?_
      refine v_aload_n C dX8_sendsTurn_111 rfl 1 rfl ?_
      refine v_get (v := .ref (ad 2)) C inw_8 0 10 rfl (by decide) (List.mem_cons_of_mem _ mw_105) rfl rfl dX8_sendsTurn_112 ?_
      refine v_iconst C dX8_sendsTurn_115 ?_
      refine v_iconst C dX8_sendsTurn_116 ?_
      refine v_iast C 2 rfl (by decide) (by decide) (by decide) dX8_sendsTurn_117 (ws' := (mW (vG X) ad (up F 2 (up (up (up (teF s (up (up (up (F 2) 12 ((F 2 12) + 1)) 13 ((F 2 13) + (F 2 6))) 6 0)) ((18 + (11 * s)) + 9) (((teF s (up (up (up (F 2) 12 ((F 2 12) + 1)) 13 ((F 2 13) + (F 2 6))) 6 0)) ((18 + (11 * s)) + 9)) + 1)) 1 (1 - s)) 2 0)))) rfl ?_
      refine v_aload_n C dX8_sendsTurn_118 rfl 1 rfl ?_
      refine v_iload_n C dX8_sendsTurn_119 rfl 0 rfl ?_
      refine v_bipush C dX8_sendsTurn_120 (by decide +kernel) ?_
      refine v_callV (na := 2) (wy := (Cond.code yX8_of cX8_of 3 (some .int) :: wsL_law)) (wc := (mW (vG X) ad (up F 2 (up (up (up (teF s (up (up (up (F 2) 12 ((F 2 12) + 1)) 13 ((F 2 13) + (F 2 6))) 6 0)) ((18 + (11 * s)) + 9) (((teF s (up (up (up (F 2) 12 ((F 2 12) + 1)) 13 ((F 2 13) + (F 2 6))) 6 0)) ((18 + (11 * s)) + 9)) + 1)) 1 (1 - s)) 2 0)))) (wr := []) C [vI (1 - s), vI 7] [] (c_X8_of _ _ ad (up F 2 (up (up (up (teF s (up (up (up (F 2) 12 ((F 2 12) + 1)) 13 ((F 2 13) + (F 2 6))) 6 0)) ((18 + (11 * s)) + 9) (((teF s (up (up (up (F 2) 12 ((F 2 12) + 1)) 13 ((F 2 13) + (F 2 6))) 6 0)) ((18 + (11 * s)) + 9)) + 1)) 1 (1 - s)) 2 0)) (1 - s) 7 (by omega) (by omega)) rfl (gwV mw_129 mw_126 mw_127 mw_128 mw_5) rfl (by decide +kernel) 0 rfl rfl rfl rfl Sb.w rfl rfl dX8_sendsTurn_122 (fun r w1 hp122_3 => ?_)
      obtain ⟨rfl, rfl⟩ := hp122_3
      show V X 0 0 125 [(3, vI (1 - s)), (0, .ref (ad 0)), (1, vI s), (2, vI z)] [vI ((up (up (up (teF s (up (up (up (F 2) 12 ((F 2 12) + 1)) 13 ((F 2 13) + (F 2 6))) 6 0)) ((18 + (11 * s)) + 9) (((teF s (up (up (up (F 2) 12 ((F 2 12) + 1)) 13 ((F 2 13) + (F 2 6))) 6 0)) ((18 + (11 * s)) + 9)) + 1)) 1 (1 - s)) 2 0) ((18 + (11 * (1 - s))) + 7))] ((mW (vG X) ad (up F 2 (up (up (up (teF s (up (up (up (F 2) 12 ((F 2 12) + 1)) 13 ((F 2 13) + (F 2 6))) 6 0)) ((18 + (11 * s)) + 9) (((teF s (up (up (up (F 2) 12 ((F 2 12) + 1)) 13 ((F 2 13) + (F 2 6))) 6 0)) ((18 + (11 * s)) + 9)) + 1)) 1 (1 - s)) 2 0))))
      rw [up_n (show (((18 + (11 * (1 - s))) + 7) : Int) ≠ 2 by omega), up_n (show (((18 + (11 * (1 - s))) + 7) : Int) ≠ 1 by omega), up_n (show (((18 + (11 * (1 - s))) + 7) : Int) ≠ ((18 + (11 * s)) + 9) by omega)]
      refine v_aload_n C dX8_sendsTurn_125 rfl 1 rfl ?_
      refine v_iload_n C dX8_sendsTurn_126 rfl 0 rfl ?_
      refine v_bipush C dX8_sendsTurn_127 (by decide +kernel) ?_
      refine v_callV (na := 2) (wy := (Cond.code yX8_of cX8_of 3 (some .int) :: wsL_law)) (wc := (mW (vG X) ad (up F 2 (up (up (up (teF s (up (up (up (F 2) 12 ((F 2 12) + 1)) 13 ((F 2 13) + (F 2 6))) 6 0)) ((18 + (11 * s)) + 9) (((teF s (up (up (up (F 2) 12 ((F 2 12) + 1)) 13 ((F 2 13) + (F 2 6))) 6 0)) ((18 + (11 * s)) + 9)) + 1)) 1 (1 - s)) 2 0)))) (wr := []) C [vI (1 - s), vI 8] [vI ((teF s (up (up (up (F 2) 12 ((F 2 12) + 1)) 13 ((F 2 13) + (F 2 6))) 6 0)) ((18 + (11 * (1 - s))) + 7))] (c_X8_of _ _ ad (up F 2 (up (up (up (teF s (up (up (up (F 2) 12 ((F 2 12) + 1)) 13 ((F 2 13) + (F 2 6))) 6 0)) ((18 + (11 * s)) + 9) (((teF s (up (up (up (F 2) 12 ((F 2 12) + 1)) 13 ((F 2 13) + (F 2 6))) 6 0)) ((18 + (11 * s)) + 9)) + 1)) 1 (1 - s)) 2 0)) (1 - s) 8 (by omega) (by omega)) rfl (gwV mw_129 mw_126 mw_127 mw_128 mw_5) rfl (by decide +kernel) 0 rfl rfl rfl rfl Sb.w rfl rfl dX8_sendsTurn_129 (fun r w1 hp129_4 => ?_)
      obtain ⟨rfl, rfl⟩ := hp129_4
      show V X 0 0 132 [(3, vI (1 - s)), (0, .ref (ad 0)), (1, vI s), (2, vI z)] [vI ((up (up (up (teF s (up (up (up (F 2) 12 ((F 2 12) + 1)) 13 ((F 2 13) + (F 2 6))) 6 0)) ((18 + (11 * s)) + 9) (((teF s (up (up (up (F 2) 12 ((F 2 12) + 1)) 13 ((F 2 13) + (F 2 6))) 6 0)) ((18 + (11 * s)) + 9)) + 1)) 1 (1 - s)) 2 0) ((18 + (11 * (1 - s))) + 8)), vI ((teF s (up (up (up (F 2) 12 ((F 2 12) + 1)) 13 ((F 2 13) + (F 2 6))) 6 0)) ((18 + (11 * (1 - s))) + 7))] ((mW (vG X) ad (up F 2 (up (up (up (teF s (up (up (up (F 2) 12 ((F 2 12) + 1)) 13 ((F 2 13) + (F 2 6))) 6 0)) ((18 + (11 * s)) + 9) (((teF s (up (up (up (F 2) 12 ((F 2 12) + 1)) 13 ((F 2 13) + (F 2 6))) 6 0)) ((18 + (11 * s)) + 9)) + 1)) 1 (1 - s)) 2 0))))
      rw [up_n (show (((18 + (11 * (1 - s))) + 8) : Int) ≠ 2 by omega), up_n (show (((18 + (11 * (1 - s))) + 8) : Int) ≠ 1 by omega), up_n (show (((18 + (11 * (1 - s))) + 8) : Int) ≠ ((18 + (11 * s)) + 9) by omega)]
      refine v_isub C dX8_sendsTurn_132 ?_
      refine v_istore C M dX8_sendsTurn_133 (by decide) (L' := [(4, vI (((teF s (up (up (up (F 2) 12 ((F 2 12) + 1)) 13 ((F 2 13) + (F 2 6))) 6 0)) ((18 + (11 * (1 - s))) + 7)) - ((teF s (up (up (up (F 2) 12 ((F 2 12) + 1)) 13 ((F 2 13) + (F 2 6))) 6 0)) ((18 + (11 * (1 - s))) + 8)))), (3, vI (1 - s)), (0, .ref (ad 0)), (1, vI s), (2, vI z)]) rfl ?_
      refine v_aload_n C dX8_sendsTurn_135 rfl 2 rfl ?_
      refine v_iload_n C dX8_sendsTurn_136 rfl 3 rfl ?_
      refine v_iconst C dX8_sendsTurn_137 ?_
      refine v_callV (na := 2) (wy := (Cond.code yX8_of cX8_of 3 (some .int) :: wsL_law)) (wc := (mW (vG X) ad (up F 2 (up (up (up (teF s (up (up (up (F 2) 12 ((F 2 12) + 1)) 13 ((F 2 13) + (F 2 6))) 6 0)) ((18 + (11 * s)) + 9) (((teF s (up (up (up (F 2) 12 ((F 2 12) + 1)) 13 ((F 2 13) + (F 2 6))) 6 0)) ((18 + (11 * s)) + 9)) + 1)) 1 (1 - s)) 2 0)))) (wr := []) C [vI s, vI 4] [] (c_X8_of _ _ ad (up F 2 (up (up (up (teF s (up (up (up (F 2) 12 ((F 2 12) + 1)) 13 ((F 2 13) + (F 2 6))) 6 0)) ((18 + (11 * s)) + 9) (((teF s (up (up (up (F 2) 12 ((F 2 12) + 1)) 13 ((F 2 13) + (F 2 6))) 6 0)) ((18 + (11 * s)) + 9)) + 1)) 1 (1 - s)) 2 0)) s 4 (by omega) (by omega)) rfl (gwV mw_129 mw_126 mw_127 mw_128 mw_5) rfl (by decide +kernel) 0 rfl rfl rfl rfl Sb.w rfl rfl dX8_sendsTurn_138 (fun r w1 hp138_5 => ?_)
      obtain ⟨rfl, rfl⟩ := hp138_5
      show V X 0 0 141 [(4, vI (((teF s (up (up (up (F 2) 12 ((F 2 12) + 1)) 13 ((F 2 13) + (F 2 6))) 6 0)) ((18 + (11 * (1 - s))) + 7)) - ((teF s (up (up (up (F 2) 12 ((F 2 12) + 1)) 13 ((F 2 13) + (F 2 6))) 6 0)) ((18 + (11 * (1 - s))) + 8)))), (3, vI (1 - s)), (0, .ref (ad 0)), (1, vI s), (2, vI z)] [vI ((up (up (up (teF s (up (up (up (F 2) 12 ((F 2 12) + 1)) 13 ((F 2 13) + (F 2 6))) 6 0)) ((18 + (11 * s)) + 9) (((teF s (up (up (up (F 2) 12 ((F 2 12) + 1)) 13 ((F 2 13) + (F 2 6))) 6 0)) ((18 + (11 * s)) + 9)) + 1)) 1 (1 - s)) 2 0) ((18 + (11 * s)) + 4))] ((mW (vG X) ad (up F 2 (up (up (up (teF s (up (up (up (F 2) 12 ((F 2 12) + 1)) 13 ((F 2 13) + (F 2 6))) 6 0)) ((18 + (11 * s)) + 9) (((teF s (up (up (up (F 2) 12 ((F 2 12) + 1)) 13 ((F 2 13) + (F 2 6))) 6 0)) ((18 + (11 * s)) + 9)) + 1)) 1 (1 - s)) 2 0))))
      rw [up_n (show (((18 + (11 * s)) + 4) : Int) ≠ 2 by omega), up_n (show (((18 + (11 * s)) + 4) : Int) ≠ 1 by omega), up_n (show (((18 + (11 * s)) + 4) : Int) ≠ ((18 + (11 * s)) + 9) by omega)]
      refine v_iload C dX8_sendsTurn_141 0 rfl ?_
      refine v_icmp_ge (tgt := 155) C dX8_sendsTurn_143 (by decide) (by have := hB86 ((18 + (11 * s)) + 4); first | assumption | exact ⟨by omega, by omega⟩) (by have := hB86 ((18 + (11 * (1 - s))) + 7); have := hB86 ((18 + (11 * (1 - s))) + 8); first | assumption | exact ⟨by omega, by omega⟩) (fun c143 => ?_) (fun c143 => ?_)
      · skip
        refine v_iload C dX8_sendsTurn_155 0 rfl ?_
        refine v_istore C M dX8_sendsTurn_157 (by decide) (L' := [(5, vI (((teF s (up (up (up (F 2) 12 ((F 2 12) + 1)) 13 ((F 2 13) + (F 2 6))) 6 0)) ((18 + (11 * (1 - s))) + 7)) - ((teF s (up (up (up (F 2) 12 ((F 2 12) + 1)) 13 ((F 2 13) + (F 2 6))) 6 0)) ((18 + (11 * (1 - s))) + 8)))), (4, vI (((teF s (up (up (up (F 2) 12 ((F 2 12) + 1)) 13 ((F 2 13) + (F 2 6))) 6 0)) ((18 + (11 * (1 - s))) + 7)) - ((teF s (up (up (up (F 2) 12 ((F 2 12) + 1)) 13 ((F 2 13) + (F 2 6))) 6 0)) ((18 + (11 * (1 - s))) + 8)))), (3, vI (1 - s)), (0, .ref (ad 0)), (1, vI s), (2, vI z)]) rfl ?_
        refine v_iload C dX8_sendsTurn_159 0 rfl ?_
        refine v_if_gt (tgt := 165) C dX8_sendsTurn_161 (by decide) (by have := hB86 ((18 + (11 * (1 - s))) + 7); have := hB86 ((18 + (11 * (1 - s))) + 8); first | assumption | exact ⟨by omega, by omega⟩) (fun c161 => ?_) (fun c161 => ?_)
        · skip
          refine v_aload_n C dX8_sendsTurn_165 rfl 3 rfl ?_
          refine v_get (v := .ref (ad 2)) C inw_8 0 10 rfl (by decide) (List.mem_cons_of_mem _ mw_105) rfl rfl dX8_sendsTurn_166 ?_
          refine v_iload_n C dX8_sendsTurn_169 rfl 2 rfl ?_
          refine v_bipush C dX8_sendsTurn_170 (by decide +kernel) ?_
          refine v_callS (na := 2) (wy := (Cond.code yX8_at cX8_at 2 (some .int) :: wsL_law)) (wc := []) (wr := (mW (vG X) ad (up F 2 (up (up (up (teF s (up (up (up (F 2) 12 ((F 2 12) + 1)) 13 ((F 2 13) + (F 2 6))) 6 0)) ((18 + (11 * s)) + 9) (((teF s (up (up (up (F 2) 12 ((F 2 12) + 1)) 13 ((F 2 13) + (F 2 6))) 6 0)) ((18 + (11 * s)) + 9)) + 1)) 1 (1 - s)) 2 0)))) C [vI (1 - s), vI 7] [.ref (ad 2)] (c_X8_at _ _ (1 - s) 7 ) rfl (gwS mw_120 mw_118 mw_119 mw_5) (by decide +kernel) rfl rfl Sb.rf rfl rfl dX8_sendsTurn_172 (fun r w1 hp172_6 => ?_)
          obtain ⟨rfl, rfl⟩ := hp172_6
          show V X 0 0 175 [(5, vI (((teF s (up (up (up (F 2) 12 ((F 2 12) + 1)) 13 ((F 2 13) + (F 2 6))) 6 0)) ((18 + (11 * (1 - s))) + 7)) - ((teF s (up (up (up (F 2) 12 ((F 2 12) + 1)) 13 ((F 2 13) + (F 2 6))) 6 0)) ((18 + (11 * (1 - s))) + 8)))), (4, vI (((teF s (up (up (up (F 2) 12 ((F 2 12) + 1)) 13 ((F 2 13) + (F 2 6))) 6 0)) ((18 + (11 * (1 - s))) + 7)) - ((teF s (up (up (up (F 2) 12 ((F 2 12) + 1)) 13 ((F 2 13) + (F 2 6))) 6 0)) ((18 + (11 * (1 - s))) + 8)))), (3, vI (1 - s)), (0, .ref (ad 0)), (1, vI s), (2, vI z)] [vI ((18 + (11 * (1 - s))) + 7), .ref (ad 2)] ((mW (vG X) ad (up F 2 (up (up (up (teF s (up (up (up (F 2) 12 ((F 2 12) + 1)) 13 ((F 2 13) + (F 2 6))) 6 0)) ((18 + (11 * s)) + 9) (((teF s (up (up (up (F 2) 12 ((F 2 12) + 1)) 13 ((F 2 13) + (F 2 6))) 6 0)) ((18 + (11 * s)) + 9)) + 1)) 1 (1 - s)) 2 0))))
          refine v_dup2 C dX8_sendsTurn_175 rfl rfl ?_
          refine v_iald C 2 rfl (by  omega) (by  omega) (by decide) dX8_sendsTurn_176 ?_
          show V X 0 0 177 [(5, vI (((teF s (up (up (up (F 2) 12 ((F 2 12) + 1)) 13 ((F 2 13) + (F 2 6))) 6 0)) ((18 + (11 * (1 - s))) + 7)) - ((teF s (up (up (up (F 2) 12 ((F 2 12) + 1)) 13 ((F 2 13) + (F 2 6))) 6 0)) ((18 + (11 * (1 - s))) + 8)))), (4, vI (((teF s (up (up (up (F 2) 12 ((F 2 12) + 1)) 13 ((F 2 13) + (F 2 6))) 6 0)) ((18 + (11 * (1 - s))) + 7)) - ((teF s (up (up (up (F 2) 12 ((F 2 12) + 1)) 13 ((F 2 13) + (F 2 6))) 6 0)) ((18 + (11 * (1 - s))) + 8)))), (3, vI (1 - s)), (0, .ref (ad 0)), (1, vI s), (2, vI z)] [vI ((up (up (up (teF s (up (up (up (F 2) 12 ((F 2 12) + 1)) 13 ((F 2 13) + (F 2 6))) 6 0)) ((18 + (11 * s)) + 9) (((teF s (up (up (up (F 2) 12 ((F 2 12) + 1)) 13 ((F 2 13) + (F 2 6))) 6 0)) ((18 + (11 * s)) + 9)) + 1)) 1 (1 - s)) 2 0) ((18 + (11 * (1 - s))) + 7)), vI ((18 + (11 * (1 - s))) + 7), .ref (ad 2)] ((mW (vG X) ad (up F 2 (up (up (up (teF s (up (up (up (F 2) 12 ((F 2 12) + 1)) 13 ((F 2 13) + (F 2 6))) 6 0)) ((18 + (11 * s)) + 9) (((teF s (up (up (up (F 2) 12 ((F 2 12) + 1)) 13 ((F 2 13) + (F 2 6))) 6 0)) ((18 + (11 * s)) + 9)) + 1)) 1 (1 - s)) 2 0))))
          rw [up_n (show (((18 + (11 * (1 - s))) + 7) : Int) ≠ 2 by omega), up_n (show (((18 + (11 * (1 - s))) + 7) : Int) ≠ 1 by omega), up_n (show (((18 + (11 * (1 - s))) + 7) : Int) ≠ ((18 + (11 * s)) + 9) by omega)]
          refine v_iload C dX8_sendsTurn_177 0 rfl ?_
          refine v_isub C dX8_sendsTurn_179 ?_
          refine v_iast C 2 rfl (by  omega) (by  omega) (by decide) dX8_sendsTurn_180 (ws' := (mW (vG X) ad (up F 2 (up (up (up (up (teF s (up (up (up (F 2) 12 ((F 2 12) + 1)) 13 ((F 2 13) + (F 2 6))) 6 0)) ((18 + (11 * s)) + 9) (((teF s (up (up (up (F 2) 12 ((F 2 12) + 1)) 13 ((F 2 13) + (F 2 6))) 6 0)) ((18 + (11 * s)) + 9)) + 1)) 1 (1 - s)) 2 0) ((18 + (11 * (1 - s))) + 7) (((teF s (up (up (up (F 2) 12 ((F 2 12) + 1)) 13 ((F 2 13) + (F 2 6))) 6 0)) ((18 + (11 * (1 - s))) + 7)) - (((teF s (up (up (up (F 2) 12 ((F 2 12) + 1)) 13 ((F 2 13) + (F 2 6))) 6 0)) ((18 + (11 * (1 - s))) + 7)) - ((teF s (up (up (up (F 2) 12 ((F 2 12) + 1)) 13 ((F 2 13) + (F 2 6))) 6 0)) ((18 + (11 * (1 - s))) + 8)))))))) rfl ?_
          refine v_aload_n C dX8_sendsTurn_181 rfl 3 rfl ?_
          refine v_get (v := .ref (ad 2)) C inw_8 0 10 rfl (by decide) (List.mem_cons_of_mem _ mw_105) rfl rfl dX8_sendsTurn_182 ?_
          refine v_iload_n C dX8_sendsTurn_185 rfl 2 rfl ?_
          refine v_iconst C dX8_sendsTurn_186 ?_
          refine v_callS (na := 2) (wy := (Cond.code yX8_at cX8_at 2 (some .int) :: wsL_law)) (wc := []) (wr := (mW (vG X) ad (up F 2 (up (up (up (up (teF s (up (up (up (F 2) 12 ((F 2 12) + 1)) 13 ((F 2 13) + (F 2 6))) 6 0)) ((18 + (11 * s)) + 9) (((teF s (up (up (up (F 2) 12 ((F 2 12) + 1)) 13 ((F 2 13) + (F 2 6))) 6 0)) ((18 + (11 * s)) + 9)) + 1)) 1 (1 - s)) 2 0) ((18 + (11 * (1 - s))) + 7) (((teF s (up (up (up (F 2) 12 ((F 2 12) + 1)) 13 ((F 2 13) + (F 2 6))) 6 0)) ((18 + (11 * (1 - s))) + 7)) - (((teF s (up (up (up (F 2) 12 ((F 2 12) + 1)) 13 ((F 2 13) + (F 2 6))) 6 0)) ((18 + (11 * (1 - s))) + 7)) - ((teF s (up (up (up (F 2) 12 ((F 2 12) + 1)) 13 ((F 2 13) + (F 2 6))) 6 0)) ((18 + (11 * (1 - s))) + 8)))))))) C [vI (1 - s), vI 5] [.ref (ad 2)] (c_X8_at _ _ (1 - s) 5 ) rfl (gwS mw_120 mw_118 mw_119 mw_5) (by decide +kernel) rfl rfl Sb.rf rfl rfl dX8_sendsTurn_187 (fun r w1 hp187_7 => ?_)
          obtain ⟨rfl, rfl⟩ := hp187_7
          show V X 0 0 190 [(5, vI (((teF s (up (up (up (F 2) 12 ((F 2 12) + 1)) 13 ((F 2 13) + (F 2 6))) 6 0)) ((18 + (11 * (1 - s))) + 7)) - ((teF s (up (up (up (F 2) 12 ((F 2 12) + 1)) 13 ((F 2 13) + (F 2 6))) 6 0)) ((18 + (11 * (1 - s))) + 8)))), (4, vI (((teF s (up (up (up (F 2) 12 ((F 2 12) + 1)) 13 ((F 2 13) + (F 2 6))) 6 0)) ((18 + (11 * (1 - s))) + 7)) - ((teF s (up (up (up (F 2) 12 ((F 2 12) + 1)) 13 ((F 2 13) + (F 2 6))) 6 0)) ((18 + (11 * (1 - s))) + 8)))), (3, vI (1 - s)), (0, .ref (ad 0)), (1, vI s), (2, vI z)] [vI ((18 + (11 * (1 - s))) + 5), .ref (ad 2)] ((mW (vG X) ad (up F 2 (up (up (up (up (teF s (up (up (up (F 2) 12 ((F 2 12) + 1)) 13 ((F 2 13) + (F 2 6))) 6 0)) ((18 + (11 * s)) + 9) (((teF s (up (up (up (F 2) 12 ((F 2 12) + 1)) 13 ((F 2 13) + (F 2 6))) 6 0)) ((18 + (11 * s)) + 9)) + 1)) 1 (1 - s)) 2 0) ((18 + (11 * (1 - s))) + 7) (((teF s (up (up (up (F 2) 12 ((F 2 12) + 1)) 13 ((F 2 13) + (F 2 6))) 6 0)) ((18 + (11 * (1 - s))) + 7)) - (((teF s (up (up (up (F 2) 12 ((F 2 12) + 1)) 13 ((F 2 13) + (F 2 6))) 6 0)) ((18 + (11 * (1 - s))) + 7)) - ((teF s (up (up (up (F 2) 12 ((F 2 12) + 1)) 13 ((F 2 13) + (F 2 6))) 6 0)) ((18 + (11 * (1 - s))) + 8))))))))
          refine v_dup2 C dX8_sendsTurn_190 rfl rfl ?_
          refine v_iald C 2 rfl (by  omega) (by  omega) (by decide) dX8_sendsTurn_191 ?_
          show V X 0 0 192 [(5, vI (((teF s (up (up (up (F 2) 12 ((F 2 12) + 1)) 13 ((F 2 13) + (F 2 6))) 6 0)) ((18 + (11 * (1 - s))) + 7)) - ((teF s (up (up (up (F 2) 12 ((F 2 12) + 1)) 13 ((F 2 13) + (F 2 6))) 6 0)) ((18 + (11 * (1 - s))) + 8)))), (4, vI (((teF s (up (up (up (F 2) 12 ((F 2 12) + 1)) 13 ((F 2 13) + (F 2 6))) 6 0)) ((18 + (11 * (1 - s))) + 7)) - ((teF s (up (up (up (F 2) 12 ((F 2 12) + 1)) 13 ((F 2 13) + (F 2 6))) 6 0)) ((18 + (11 * (1 - s))) + 8)))), (3, vI (1 - s)), (0, .ref (ad 0)), (1, vI s), (2, vI z)] [vI ((up (up (up (up (teF s (up (up (up (F 2) 12 ((F 2 12) + 1)) 13 ((F 2 13) + (F 2 6))) 6 0)) ((18 + (11 * s)) + 9) (((teF s (up (up (up (F 2) 12 ((F 2 12) + 1)) 13 ((F 2 13) + (F 2 6))) 6 0)) ((18 + (11 * s)) + 9)) + 1)) 1 (1 - s)) 2 0) ((18 + (11 * (1 - s))) + 7) (((teF s (up (up (up (F 2) 12 ((F 2 12) + 1)) 13 ((F 2 13) + (F 2 6))) 6 0)) ((18 + (11 * (1 - s))) + 7)) - (((teF s (up (up (up (F 2) 12 ((F 2 12) + 1)) 13 ((F 2 13) + (F 2 6))) 6 0)) ((18 + (11 * (1 - s))) + 7)) - ((teF s (up (up (up (F 2) 12 ((F 2 12) + 1)) 13 ((F 2 13) + (F 2 6))) 6 0)) ((18 + (11 * (1 - s))) + 8))))) ((18 + (11 * (1 - s))) + 5)), vI ((18 + (11 * (1 - s))) + 5), .ref (ad 2)] ((mW (vG X) ad (up F 2 (up (up (up (up (teF s (up (up (up (F 2) 12 ((F 2 12) + 1)) 13 ((F 2 13) + (F 2 6))) 6 0)) ((18 + (11 * s)) + 9) (((teF s (up (up (up (F 2) 12 ((F 2 12) + 1)) 13 ((F 2 13) + (F 2 6))) 6 0)) ((18 + (11 * s)) + 9)) + 1)) 1 (1 - s)) 2 0) ((18 + (11 * (1 - s))) + 7) (((teF s (up (up (up (F 2) 12 ((F 2 12) + 1)) 13 ((F 2 13) + (F 2 6))) 6 0)) ((18 + (11 * (1 - s))) + 7)) - (((teF s (up (up (up (F 2) 12 ((F 2 12) + 1)) 13 ((F 2 13) + (F 2 6))) 6 0)) ((18 + (11 * (1 - s))) + 7)) - ((teF s (up (up (up (F 2) 12 ((F 2 12) + 1)) 13 ((F 2 13) + (F 2 6))) 6 0)) ((18 + (11 * (1 - s))) + 8))))))))
          rw [up_n (show (((18 + (11 * (1 - s))) + 5) : Int) ≠ ((18 + (11 * (1 - s))) + 7) by omega), up_n (show (((18 + (11 * (1 - s))) + 5) : Int) ≠ 2 by omega), up_n (show (((18 + (11 * (1 - s))) + 5) : Int) ≠ 1 by omega), up_n (show (((18 + (11 * (1 - s))) + 5) : Int) ≠ ((18 + (11 * s)) + 9) by omega)]
          refine v_iload C dX8_sendsTurn_192 0 rfl ?_
          refine v_iadd C dX8_sendsTurn_194 ?_
          refine v_iast C 2 rfl (by  omega) (by  omega) (by decide) dX8_sendsTurn_195 (ws' := (mW (vG X) ad (up F 2 (up (up (up (up (up (teF s (up (up (up (F 2) 12 ((F 2 12) + 1)) 13 ((F 2 13) + (F 2 6))) 6 0)) ((18 + (11 * s)) + 9) (((teF s (up (up (up (F 2) 12 ((F 2 12) + 1)) 13 ((F 2 13) + (F 2 6))) 6 0)) ((18 + (11 * s)) + 9)) + 1)) 1 (1 - s)) 2 0) ((18 + (11 * (1 - s))) + 7) (((teF s (up (up (up (F 2) 12 ((F 2 12) + 1)) 13 ((F 2 13) + (F 2 6))) 6 0)) ((18 + (11 * (1 - s))) + 7)) - (((teF s (up (up (up (F 2) 12 ((F 2 12) + 1)) 13 ((F 2 13) + (F 2 6))) 6 0)) ((18 + (11 * (1 - s))) + 7)) - ((teF s (up (up (up (F 2) 12 ((F 2 12) + 1)) 13 ((F 2 13) + (F 2 6))) 6 0)) ((18 + (11 * (1 - s))) + 8))))) ((18 + (11 * (1 - s))) + 5) (((teF s (up (up (up (F 2) 12 ((F 2 12) + 1)) 13 ((F 2 13) + (F 2 6))) 6 0)) ((18 + (11 * (1 - s))) + 5)) + (((teF s (up (up (up (F 2) 12 ((F 2 12) + 1)) 13 ((F 2 13) + (F 2 6))) 6 0)) ((18 + (11 * (1 - s))) + 7)) - ((teF s (up (up (up (F 2) 12 ((F 2 12) + 1)) 13 ((F 2 13) + (F 2 6))) 6 0)) ((18 + (11 * (1 - s))) + 8)))))))) rfl ?_
          exact v_vret C E rfl dX8_sendsTurn_196 (by decide) (by decide) (⟨rfl, by rw [show (stF s z (F 2)) = (up (up (up (up (up (teF s (up (up (up (F 2) 12 ((F 2 12) + 1)) 13 ((F 2 13) + (F 2 6))) 6 0)) ((18 + (11 * s)) + 9) (((teF s (up (up (up (F 2) 12 ((F 2 12) + 1)) 13 ((F 2 13) + (F 2 6))) 6 0)) ((18 + (11 * s)) + 9)) + 1)) 1 (1 - s)) 2 0) ((18 + (11 * (1 - s))) + 7) (((teF s (up (up (up (F 2) 12 ((F 2 12) + 1)) 13 ((F 2 13) + (F 2 6))) 6 0)) ((18 + (11 * (1 - s))) + 7)) - (((teF s (up (up (up (F 2) 12 ((F 2 12) + 1)) 13 ((F 2 13) + (F 2 6))) 6 0)) ((18 + (11 * (1 - s))) + 7)) - ((teF s (up (up (up (F 2) 12 ((F 2 12) + 1)) 13 ((F 2 13) + (F 2 6))) 6 0)) ((18 + (11 * (1 - s))) + 8))))) ((18 + (11 * (1 - s))) + 5) (((teF s (up (up (up (F 2) 12 ((F 2 12) + 1)) 13 ((F 2 13) + (F 2 6))) 6 0)) ((18 + (11 * (1 - s))) + 5)) + (((teF s (up (up (up (F 2) 12 ((F 2 12) + 1)) 13 ((F 2 13) + (F 2 6))) 6 0)) ((18 + (11 * (1 - s))) + 7)) - ((teF s (up (up (up (F 2) 12 ((F 2 12) + 1)) 13 ((F 2 13) + (F 2 6))) 6 0)) ((18 + (11 * (1 - s))) + 8))))) from ((if_pos c39).trans ((if_pos c49).trans ((if_pos c143).trans (if_pos c161))))]⟩)
        · skip
          exact v_vret C E rfl dX8_sendsTurn_164 (by decide) (by decide) (⟨rfl, by rw [show (stF s z (F 2)) = (up (up (up (teF s (up (up (up (F 2) 12 ((F 2 12) + 1)) 13 ((F 2 13) + (F 2 6))) 6 0)) ((18 + (11 * s)) + 9) (((teF s (up (up (up (F 2) 12 ((F 2 12) + 1)) 13 ((F 2 13) + (F 2 6))) 6 0)) ((18 + (11 * s)) + 9)) + 1)) 1 (1 - s)) 2 0) from ((if_pos c39).trans ((if_pos c49).trans ((if_pos c143).trans (if_neg c161))))]⟩)
      · skip
        refine v_aload_n C dX8_sendsTurn_146 rfl 2 rfl ?_
        refine v_iload_n C dX8_sendsTurn_147 rfl 3 rfl ?_
        refine v_iconst C dX8_sendsTurn_148 ?_
        refine v_callV (na := 2) (wy := (Cond.code yX8_of cX8_of 3 (some .int) :: wsL_law)) (wc := (mW (vG X) ad (up F 2 (up (up (up (teF s (up (up (up (F 2) 12 ((F 2 12) + 1)) 13 ((F 2 13) + (F 2 6))) 6 0)) ((18 + (11 * s)) + 9) (((teF s (up (up (up (F 2) 12 ((F 2 12) + 1)) 13 ((F 2 13) + (F 2 6))) 6 0)) ((18 + (11 * s)) + 9)) + 1)) 1 (1 - s)) 2 0)))) (wr := []) C [vI s, vI 4] [] (c_X8_of _ _ ad (up F 2 (up (up (up (teF s (up (up (up (F 2) 12 ((F 2 12) + 1)) 13 ((F 2 13) + (F 2 6))) 6 0)) ((18 + (11 * s)) + 9) (((teF s (up (up (up (F 2) 12 ((F 2 12) + 1)) 13 ((F 2 13) + (F 2 6))) 6 0)) ((18 + (11 * s)) + 9)) + 1)) 1 (1 - s)) 2 0)) s 4 (by omega) (by omega)) rfl (gwV mw_129 mw_126 mw_127 mw_128 mw_5) rfl (by decide +kernel) 0 rfl rfl rfl rfl Sb.w rfl rfl dX8_sendsTurn_149 (fun r w1 hp149_8 => ?_)
        obtain ⟨rfl, rfl⟩ := hp149_8
        show V X 0 0 152 [(4, vI (((teF s (up (up (up (F 2) 12 ((F 2 12) + 1)) 13 ((F 2 13) + (F 2 6))) 6 0)) ((18 + (11 * (1 - s))) + 7)) - ((teF s (up (up (up (F 2) 12 ((F 2 12) + 1)) 13 ((F 2 13) + (F 2 6))) 6 0)) ((18 + (11 * (1 - s))) + 8)))), (3, vI (1 - s)), (0, .ref (ad 0)), (1, vI s), (2, vI z)] [vI ((up (up (up (teF s (up (up (up (F 2) 12 ((F 2 12) + 1)) 13 ((F 2 13) + (F 2 6))) 6 0)) ((18 + (11 * s)) + 9) (((teF s (up (up (up (F 2) 12 ((F 2 12) + 1)) 13 ((F 2 13) + (F 2 6))) 6 0)) ((18 + (11 * s)) + 9)) + 1)) 1 (1 - s)) 2 0) ((18 + (11 * s)) + 4))] ((mW (vG X) ad (up F 2 (up (up (up (teF s (up (up (up (F 2) 12 ((F 2 12) + 1)) 13 ((F 2 13) + (F 2 6))) 6 0)) ((18 + (11 * s)) + 9) (((teF s (up (up (up (F 2) 12 ((F 2 12) + 1)) 13 ((F 2 13) + (F 2 6))) 6 0)) ((18 + (11 * s)) + 9)) + 1)) 1 (1 - s)) 2 0))))
        rw [up_n (show (((18 + (11 * s)) + 4) : Int) ≠ 2 by omega), up_n (show (((18 + (11 * s)) + 4) : Int) ≠ 1 by omega), up_n (show (((18 + (11 * s)) + 4) : Int) ≠ ((18 + (11 * s)) + 9) by omega)]
        refine v_goto (tgt := 157) C dX8_sendsTurn_152 (by decide) ?_
        refine v_istore C M dX8_sendsTurn_157 (by decide) (L' := [(5, vI ((teF s (up (up (up (F 2) 12 ((F 2 12) + 1)) 13 ((F 2 13) + (F 2 6))) 6 0)) ((18 + (11 * s)) + 4))), (4, vI (((teF s (up (up (up (F 2) 12 ((F 2 12) + 1)) 13 ((F 2 13) + (F 2 6))) 6 0)) ((18 + (11 * (1 - s))) + 7)) - ((teF s (up (up (up (F 2) 12 ((F 2 12) + 1)) 13 ((F 2 13) + (F 2 6))) 6 0)) ((18 + (11 * (1 - s))) + 8)))), (3, vI (1 - s)), (0, .ref (ad 0)), (1, vI s), (2, vI z)]) rfl ?_
        refine v_iload C dX8_sendsTurn_159 0 rfl ?_
        refine v_if_gt (tgt := 165) C dX8_sendsTurn_161 (by decide) (by have := hB86 ((18 + (11 * s)) + 4); first | assumption | exact ⟨by omega, by omega⟩) (fun c161 => ?_) (fun c161 => ?_)
        · skip
          refine v_aload_n C dX8_sendsTurn_165 rfl 3 rfl ?_
          refine v_get (v := .ref (ad 2)) C inw_8 0 10 rfl (by decide) (List.mem_cons_of_mem _ mw_105) rfl rfl dX8_sendsTurn_166 ?_
          refine v_iload_n C dX8_sendsTurn_169 rfl 2 rfl ?_
          refine v_bipush C dX8_sendsTurn_170 (by decide +kernel) ?_
          refine v_callS (na := 2) (wy := (Cond.code yX8_at cX8_at 2 (some .int) :: wsL_law)) (wc := []) (wr := (mW (vG X) ad (up F 2 (up (up (up (teF s (up (up (up (F 2) 12 ((F 2 12) + 1)) 13 ((F 2 13) + (F 2 6))) 6 0)) ((18 + (11 * s)) + 9) (((teF s (up (up (up (F 2) 12 ((F 2 12) + 1)) 13 ((F 2 13) + (F 2 6))) 6 0)) ((18 + (11 * s)) + 9)) + 1)) 1 (1 - s)) 2 0)))) C [vI (1 - s), vI 7] [.ref (ad 2)] (c_X8_at _ _ (1 - s) 7 ) rfl (gwS mw_120 mw_118 mw_119 mw_5) (by decide +kernel) rfl rfl Sb.rf rfl rfl dX8_sendsTurn_172 (fun r w1 hp172_9 => ?_)
          obtain ⟨rfl, rfl⟩ := hp172_9
          show V X 0 0 175 [(5, vI ((teF s (up (up (up (F 2) 12 ((F 2 12) + 1)) 13 ((F 2 13) + (F 2 6))) 6 0)) ((18 + (11 * s)) + 4))), (4, vI (((teF s (up (up (up (F 2) 12 ((F 2 12) + 1)) 13 ((F 2 13) + (F 2 6))) 6 0)) ((18 + (11 * (1 - s))) + 7)) - ((teF s (up (up (up (F 2) 12 ((F 2 12) + 1)) 13 ((F 2 13) + (F 2 6))) 6 0)) ((18 + (11 * (1 - s))) + 8)))), (3, vI (1 - s)), (0, .ref (ad 0)), (1, vI s), (2, vI z)] [vI ((18 + (11 * (1 - s))) + 7), .ref (ad 2)] ((mW (vG X) ad (up F 2 (up (up (up (teF s (up (up (up (F 2) 12 ((F 2 12) + 1)) 13 ((F 2 13) + (F 2 6))) 6 0)) ((18 + (11 * s)) + 9) (((teF s (up (up (up (F 2) 12 ((F 2 12) + 1)) 13 ((F 2 13) + (F 2 6))) 6 0)) ((18 + (11 * s)) + 9)) + 1)) 1 (1 - s)) 2 0))))
          refine v_dup2 C dX8_sendsTurn_175 rfl rfl ?_
          refine v_iald C 2 rfl (by  omega) (by  omega) (by decide) dX8_sendsTurn_176 ?_
          show V X 0 0 177 [(5, vI ((teF s (up (up (up (F 2) 12 ((F 2 12) + 1)) 13 ((F 2 13) + (F 2 6))) 6 0)) ((18 + (11 * s)) + 4))), (4, vI (((teF s (up (up (up (F 2) 12 ((F 2 12) + 1)) 13 ((F 2 13) + (F 2 6))) 6 0)) ((18 + (11 * (1 - s))) + 7)) - ((teF s (up (up (up (F 2) 12 ((F 2 12) + 1)) 13 ((F 2 13) + (F 2 6))) 6 0)) ((18 + (11 * (1 - s))) + 8)))), (3, vI (1 - s)), (0, .ref (ad 0)), (1, vI s), (2, vI z)] [vI ((up (up (up (teF s (up (up (up (F 2) 12 ((F 2 12) + 1)) 13 ((F 2 13) + (F 2 6))) 6 0)) ((18 + (11 * s)) + 9) (((teF s (up (up (up (F 2) 12 ((F 2 12) + 1)) 13 ((F 2 13) + (F 2 6))) 6 0)) ((18 + (11 * s)) + 9)) + 1)) 1 (1 - s)) 2 0) ((18 + (11 * (1 - s))) + 7)), vI ((18 + (11 * (1 - s))) + 7), .ref (ad 2)] ((mW (vG X) ad (up F 2 (up (up (up (teF s (up (up (up (F 2) 12 ((F 2 12) + 1)) 13 ((F 2 13) + (F 2 6))) 6 0)) ((18 + (11 * s)) + 9) (((teF s (up (up (up (F 2) 12 ((F 2 12) + 1)) 13 ((F 2 13) + (F 2 6))) 6 0)) ((18 + (11 * s)) + 9)) + 1)) 1 (1 - s)) 2 0))))
          rw [up_n (show (((18 + (11 * (1 - s))) + 7) : Int) ≠ 2 by omega), up_n (show (((18 + (11 * (1 - s))) + 7) : Int) ≠ 1 by omega), up_n (show (((18 + (11 * (1 - s))) + 7) : Int) ≠ ((18 + (11 * s)) + 9) by omega)]
          refine v_iload C dX8_sendsTurn_177 0 rfl ?_
          refine v_isub C dX8_sendsTurn_179 ?_
          refine v_iast C 2 rfl (by  omega) (by  omega) (by decide) dX8_sendsTurn_180 (ws' := (mW (vG X) ad (up F 2 (up (up (up (up (teF s (up (up (up (F 2) 12 ((F 2 12) + 1)) 13 ((F 2 13) + (F 2 6))) 6 0)) ((18 + (11 * s)) + 9) (((teF s (up (up (up (F 2) 12 ((F 2 12) + 1)) 13 ((F 2 13) + (F 2 6))) 6 0)) ((18 + (11 * s)) + 9)) + 1)) 1 (1 - s)) 2 0) ((18 + (11 * (1 - s))) + 7) (((teF s (up (up (up (F 2) 12 ((F 2 12) + 1)) 13 ((F 2 13) + (F 2 6))) 6 0)) ((18 + (11 * (1 - s))) + 7)) - ((teF s (up (up (up (F 2) 12 ((F 2 12) + 1)) 13 ((F 2 13) + (F 2 6))) 6 0)) ((18 + (11 * s)) + 4))))))) rfl ?_
          refine v_aload_n C dX8_sendsTurn_181 rfl 3 rfl ?_
          refine v_get (v := .ref (ad 2)) C inw_8 0 10 rfl (by decide) (List.mem_cons_of_mem _ mw_105) rfl rfl dX8_sendsTurn_182 ?_
          refine v_iload_n C dX8_sendsTurn_185 rfl 2 rfl ?_
          refine v_iconst C dX8_sendsTurn_186 ?_
          refine v_callS (na := 2) (wy := (Cond.code yX8_at cX8_at 2 (some .int) :: wsL_law)) (wc := []) (wr := (mW (vG X) ad (up F 2 (up (up (up (up (teF s (up (up (up (F 2) 12 ((F 2 12) + 1)) 13 ((F 2 13) + (F 2 6))) 6 0)) ((18 + (11 * s)) + 9) (((teF s (up (up (up (F 2) 12 ((F 2 12) + 1)) 13 ((F 2 13) + (F 2 6))) 6 0)) ((18 + (11 * s)) + 9)) + 1)) 1 (1 - s)) 2 0) ((18 + (11 * (1 - s))) + 7) (((teF s (up (up (up (F 2) 12 ((F 2 12) + 1)) 13 ((F 2 13) + (F 2 6))) 6 0)) ((18 + (11 * (1 - s))) + 7)) - ((teF s (up (up (up (F 2) 12 ((F 2 12) + 1)) 13 ((F 2 13) + (F 2 6))) 6 0)) ((18 + (11 * s)) + 4))))))) C [vI (1 - s), vI 5] [.ref (ad 2)] (c_X8_at _ _ (1 - s) 5 ) rfl (gwS mw_120 mw_118 mw_119 mw_5) (by decide +kernel) rfl rfl Sb.rf rfl rfl dX8_sendsTurn_187 (fun r w1 hp187_10 => ?_)
          obtain ⟨rfl, rfl⟩ := hp187_10
          show V X 0 0 190 [(5, vI ((teF s (up (up (up (F 2) 12 ((F 2 12) + 1)) 13 ((F 2 13) + (F 2 6))) 6 0)) ((18 + (11 * s)) + 4))), (4, vI (((teF s (up (up (up (F 2) 12 ((F 2 12) + 1)) 13 ((F 2 13) + (F 2 6))) 6 0)) ((18 + (11 * (1 - s))) + 7)) - ((teF s (up (up (up (F 2) 12 ((F 2 12) + 1)) 13 ((F 2 13) + (F 2 6))) 6 0)) ((18 + (11 * (1 - s))) + 8)))), (3, vI (1 - s)), (0, .ref (ad 0)), (1, vI s), (2, vI z)] [vI ((18 + (11 * (1 - s))) + 5), .ref (ad 2)] ((mW (vG X) ad (up F 2 (up (up (up (up (teF s (up (up (up (F 2) 12 ((F 2 12) + 1)) 13 ((F 2 13) + (F 2 6))) 6 0)) ((18 + (11 * s)) + 9) (((teF s (up (up (up (F 2) 12 ((F 2 12) + 1)) 13 ((F 2 13) + (F 2 6))) 6 0)) ((18 + (11 * s)) + 9)) + 1)) 1 (1 - s)) 2 0) ((18 + (11 * (1 - s))) + 7) (((teF s (up (up (up (F 2) 12 ((F 2 12) + 1)) 13 ((F 2 13) + (F 2 6))) 6 0)) ((18 + (11 * (1 - s))) + 7)) - ((teF s (up (up (up (F 2) 12 ((F 2 12) + 1)) 13 ((F 2 13) + (F 2 6))) 6 0)) ((18 + (11 * s)) + 4)))))))
          refine v_dup2 C dX8_sendsTurn_190 rfl rfl ?_
          refine v_iald C 2 rfl (by  omega) (by  omega) (by decide) dX8_sendsTurn_191 ?_
          show V X 0 0 192 [(5, vI ((teF s (up (up (up (F 2) 12 ((F 2 12) + 1)) 13 ((F 2 13) + (F 2 6))) 6 0)) ((18 + (11 * s)) + 4))), (4, vI (((teF s (up (up (up (F 2) 12 ((F 2 12) + 1)) 13 ((F 2 13) + (F 2 6))) 6 0)) ((18 + (11 * (1 - s))) + 7)) - ((teF s (up (up (up (F 2) 12 ((F 2 12) + 1)) 13 ((F 2 13) + (F 2 6))) 6 0)) ((18 + (11 * (1 - s))) + 8)))), (3, vI (1 - s)), (0, .ref (ad 0)), (1, vI s), (2, vI z)] [vI ((up (up (up (up (teF s (up (up (up (F 2) 12 ((F 2 12) + 1)) 13 ((F 2 13) + (F 2 6))) 6 0)) ((18 + (11 * s)) + 9) (((teF s (up (up (up (F 2) 12 ((F 2 12) + 1)) 13 ((F 2 13) + (F 2 6))) 6 0)) ((18 + (11 * s)) + 9)) + 1)) 1 (1 - s)) 2 0) ((18 + (11 * (1 - s))) + 7) (((teF s (up (up (up (F 2) 12 ((F 2 12) + 1)) 13 ((F 2 13) + (F 2 6))) 6 0)) ((18 + (11 * (1 - s))) + 7)) - ((teF s (up (up (up (F 2) 12 ((F 2 12) + 1)) 13 ((F 2 13) + (F 2 6))) 6 0)) ((18 + (11 * s)) + 4)))) ((18 + (11 * (1 - s))) + 5)), vI ((18 + (11 * (1 - s))) + 5), .ref (ad 2)] ((mW (vG X) ad (up F 2 (up (up (up (up (teF s (up (up (up (F 2) 12 ((F 2 12) + 1)) 13 ((F 2 13) + (F 2 6))) 6 0)) ((18 + (11 * s)) + 9) (((teF s (up (up (up (F 2) 12 ((F 2 12) + 1)) 13 ((F 2 13) + (F 2 6))) 6 0)) ((18 + (11 * s)) + 9)) + 1)) 1 (1 - s)) 2 0) ((18 + (11 * (1 - s))) + 7) (((teF s (up (up (up (F 2) 12 ((F 2 12) + 1)) 13 ((F 2 13) + (F 2 6))) 6 0)) ((18 + (11 * (1 - s))) + 7)) - ((teF s (up (up (up (F 2) 12 ((F 2 12) + 1)) 13 ((F 2 13) + (F 2 6))) 6 0)) ((18 + (11 * s)) + 4)))))))
          rw [up_n (show (((18 + (11 * (1 - s))) + 5) : Int) ≠ ((18 + (11 * (1 - s))) + 7) by omega), up_n (show (((18 + (11 * (1 - s))) + 5) : Int) ≠ 2 by omega), up_n (show (((18 + (11 * (1 - s))) + 5) : Int) ≠ 1 by omega), up_n (show (((18 + (11 * (1 - s))) + 5) : Int) ≠ ((18 + (11 * s)) + 9) by omega)]
          refine v_iload C dX8_sendsTurn_192 0 rfl ?_
          refine v_iadd C dX8_sendsTurn_194 ?_
          refine v_iast C 2 rfl (by  omega) (by  omega) (by decide) dX8_sendsTurn_195 (ws' := (mW (vG X) ad (up F 2 (up (up (up (up (up (teF s (up (up (up (F 2) 12 ((F 2 12) + 1)) 13 ((F 2 13) + (F 2 6))) 6 0)) ((18 + (11 * s)) + 9) (((teF s (up (up (up (F 2) 12 ((F 2 12) + 1)) 13 ((F 2 13) + (F 2 6))) 6 0)) ((18 + (11 * s)) + 9)) + 1)) 1 (1 - s)) 2 0) ((18 + (11 * (1 - s))) + 7) (((teF s (up (up (up (F 2) 12 ((F 2 12) + 1)) 13 ((F 2 13) + (F 2 6))) 6 0)) ((18 + (11 * (1 - s))) + 7)) - ((teF s (up (up (up (F 2) 12 ((F 2 12) + 1)) 13 ((F 2 13) + (F 2 6))) 6 0)) ((18 + (11 * s)) + 4)))) ((18 + (11 * (1 - s))) + 5) (((teF s (up (up (up (F 2) 12 ((F 2 12) + 1)) 13 ((F 2 13) + (F 2 6))) 6 0)) ((18 + (11 * (1 - s))) + 5)) + ((teF s (up (up (up (F 2) 12 ((F 2 12) + 1)) 13 ((F 2 13) + (F 2 6))) 6 0)) ((18 + (11 * s)) + 4))))))) rfl ?_
          exact v_vret C E rfl dX8_sendsTurn_196 (by decide) (by decide) (⟨rfl, by rw [show (stF s z (F 2)) = (up (up (up (up (up (teF s (up (up (up (F 2) 12 ((F 2 12) + 1)) 13 ((F 2 13) + (F 2 6))) 6 0)) ((18 + (11 * s)) + 9) (((teF s (up (up (up (F 2) 12 ((F 2 12) + 1)) 13 ((F 2 13) + (F 2 6))) 6 0)) ((18 + (11 * s)) + 9)) + 1)) 1 (1 - s)) 2 0) ((18 + (11 * (1 - s))) + 7) (((teF s (up (up (up (F 2) 12 ((F 2 12) + 1)) 13 ((F 2 13) + (F 2 6))) 6 0)) ((18 + (11 * (1 - s))) + 7)) - ((teF s (up (up (up (F 2) 12 ((F 2 12) + 1)) 13 ((F 2 13) + (F 2 6))) 6 0)) ((18 + (11 * s)) + 4)))) ((18 + (11 * (1 - s))) + 5) (((teF s (up (up (up (F 2) 12 ((F 2 12) + 1)) 13 ((F 2 13) + (F 2 6))) 6 0)) ((18 + (11 * (1 - s))) + 5)) + ((teF s (up (up (up (F 2) 12 ((F 2 12) + 1)) 13 ((F 2 13) + (F 2 6))) 6 0)) ((18 + (11 * s)) + 4)))) from ((if_pos c39).trans ((if_pos c49).trans ((if_neg c143).trans (if_pos c161))))]⟩)
        · skip
          exact v_vret C E rfl dX8_sendsTurn_164 (by decide) (by decide) (⟨rfl, by rw [show (stF s z (F 2)) = (up (up (up (teF s (up (up (up (F 2) 12 ((F 2 12) + 1)) 13 ((F 2 13) + (F 2 6))) 6 0)) ((18 + (11 * s)) + 9) (((teF s (up (up (up (F 2) 12 ((F 2 12) + 1)) 13 ((F 2 13) + (F 2 6))) 6 0)) ((18 + (11 * s)) + 9)) + 1)) 1 (1 - s)) 2 0) from ((if_pos c39).trans ((if_pos c49).trans ((if_neg c143).trans (if_neg c161))))]⟩)
    · skip
      refine v_aload_n C dX8_sendsTurn_52 rfl 1 rfl ?_
      refine v_get (v := .ref (ad 2)) C inw_8 0 10 rfl (by decide) (List.mem_cons_of_mem _ mw_105) rfl rfl dX8_sendsTurn_53 ?_
      refine v_iconst C dX8_sendsTurn_56 ?_
      refine v_dup2 C dX8_sendsTurn_57 rfl rfl ?_
      refine v_iald C 2 rfl (by decide) (by decide) (by decide) dX8_sendsTurn_58 ?_
      show V X 0 0 59 [(3, vI (1 - s)), (0, .ref (ad 0)), (1, vI s), (2, vI z)] [vI ((up (up (up (F 2) 12 ((F 2 12) + 1)) 13 ((F 2 13) + (F 2 6))) 6 0) 0), vI 0, .ref (ad 2)] ((mW (vG X) ad (up F 2 (up (up (up (F 2) 12 ((F 2 12) + 1)) 13 ((F 2 13) + (F 2 6))) 6 0))))
      rw [up_n (show (0 : Int) ≠ 6 by decide), up_n (show (0 : Int) ≠ 13 by decide), up_n (show (0 : Int) ≠ 12 by decide)]
      refine v_aload_n C dX8_sendsTurn_59 rfl 1 rfl ?_
      refine v_get (v := .ref (ad 2)) C inw_8 0 10 rfl (by decide) (List.mem_cons_of_mem _ mw_105) rfl rfl dX8_sendsTurn_60 ?_
      refine v_iconst C dX8_sendsTurn_63 ?_
      refine v_iald C 2 rfl (by decide) (by decide) (by decide) dX8_sendsTurn_64 ?_
      show V X 0 0 65 [(3, vI (1 - s)), (0, .ref (ad 0)), (1, vI s), (2, vI z)] [vI ((up (up (up (F 2) 12 ((F 2 12) + 1)) 13 ((F 2 13) + (F 2 6))) 6 0) 5), vI (F 2 0), vI 0, .ref (ad 2)] ((mW (vG X) ad (up F 2 (up (up (up (F 2) 12 ((F 2 12) + 1)) 13 ((F 2 13) + (F 2 6))) 6 0))))
      rw [up_n (show (5 : Int) ≠ 6 by decide), up_n (show (5 : Int) ≠ 13 by decide), up_n (show (5 : Int) ≠ 12 by decide)]
      refine v_iadd C dX8_sendsTurn_65 ?_
      refine v_iast C 2 rfl (by decide) (by decide) (by decide) dX8_sendsTurn_66 (ws' := (mW (vG X) ad (up F 2 (up (up (up (up (F 2) 12 ((F 2 12) + 1)) 13 ((F 2 13) + (F 2 6))) 6 0) 0 ((F 2 0) + (F 2 5)))))) rfl ?_
      refine v_aload_n C dX8_sendsTurn_67 rfl 1 rfl ?_
      refine v_get (v := .ref (ad 2)) C inw_8 0 10 rfl (by decide) (List.mem_cons_of_mem _ mw_105) rfl rfl dX8_sendsTurn_68 ?_
      refine v_bipush C dX8_sendsTurn_71 (by decide +kernel) ?_
      refine v_dup2 C dX8_sendsTurn_73 rfl rfl ?_
      refine v_iald C 2 rfl (by decide) (by decide) (by decide) dX8_sendsTurn_74 ?_
      show V X 0 0 75 [(3, vI (1 - s)), (0, .ref (ad 0)), (1, vI s), (2, vI z)] [vI ((up (up (up (up (F 2) 12 ((F 2 12) + 1)) 13 ((F 2 13) + (F 2 6))) 6 0) 0 ((F 2 0) + (F 2 5))) 16), vI 16, .ref (ad 2)] ((mW (vG X) ad (up F 2 (up (up (up (up (F 2) 12 ((F 2 12) + 1)) 13 ((F 2 13) + (F 2 6))) 6 0) 0 ((F 2 0) + (F 2 5))))))
      rw [up_n (show (16 : Int) ≠ 0 by decide), up_n (show (16 : Int) ≠ 6 by decide), up_n (show (16 : Int) ≠ 13 by decide), up_n (show (16 : Int) ≠ 12 by decide)]
      refine v_aload_n C dX8_sendsTurn_75 rfl 1 rfl ?_
      refine v_get (v := .ref (ad 2)) C inw_8 0 10 rfl (by decide) (List.mem_cons_of_mem _ mw_105) rfl rfl dX8_sendsTurn_76 ?_
      refine v_iconst C dX8_sendsTurn_79 ?_
      refine v_iald C 2 rfl (by decide) (by decide) (by decide) dX8_sendsTurn_80 ?_
      show V X 0 0 81 [(3, vI (1 - s)), (0, .ref (ad 0)), (1, vI s), (2, vI z)] [vI ((up (up (up (up (F 2) 12 ((F 2 12) + 1)) 13 ((F 2 13) + (F 2 6))) 6 0) 0 ((F 2 0) + (F 2 5))) 5), vI (F 2 16), vI 16, .ref (ad 2)] ((mW (vG X) ad (up F 2 (up (up (up (up (F 2) 12 ((F 2 12) + 1)) 13 ((F 2 13) + (F 2 6))) 6 0) 0 ((F 2 0) + (F 2 5))))))
      rw [up_n (show (5 : Int) ≠ 0 by decide), up_n (show (5 : Int) ≠ 6 by decide), up_n (show (5 : Int) ≠ 13 by decide), up_n (show (5 : Int) ≠ 12 by decide)]
      refine v_iadd C dX8_sendsTurn_81 ?_
      refine v_iast C 2 rfl (by decide) (by decide) (by decide) dX8_sendsTurn_82 (ws' := (mW (vG X) ad (up F 2 (up (up (up (up (up (F 2) 12 ((F 2 12) + 1)) 13 ((F 2 13) + (F 2 6))) 6 0) 0 ((F 2 0) + (F 2 5))) 16 ((F 2 16) + (F 2 5)))))) rfl ?_
      exact v_vret C E rfl dX8_sendsTurn_83 (by decide) (by decide) (⟨rfl, by rw [show (stF s z (F 2)) = (up (up (up (up (up (F 2) 12 ((F 2 12) + 1)) 13 ((F 2 13) + (F 2 6))) 6 0) 0 ((F 2 0) + (F 2 5))) 16 ((F 2 16) + (F 2 5))) from ((if_pos c39).trans (if_neg c49))]⟩)
  · skip
    refine v_iconst C dX8_sendsTurn_42 ?_
    refine v_goto (tgt := 47) C dX8_sendsTurn_43 (by decide) ?_
    refine v_iast C 2 rfl (by decide) (by decide) (by decide) dX8_sendsTurn_47 (ws' := (mW (vG X) ad (up F 2 (up (up (up (F 2) 12 ((F 2 12) + 1)) 13 ((F 2 13) + (F 2 6))) 6 1)))) rfl ?_
    refine v_iload_n C dX8_sendsTurn_48 rfl 3 rfl ?_
    refine v_if_eq (tgt := 84) C dX8_sendsTurn_49 (by decide) (by  first | assumption | exact ⟨by omega, by omega⟩) (fun c49 => ?_) (fun c49 => ?_)
    · skip
      refine v_aload_n C dX8_sendsTurn_84 rfl 1 rfl ?_
      refine v_iload_n C dX8_sendsTurn_85 rfl 2 rfl ?_
      refine v_callV (na := 1) (wy := (Cond.code yX8_tells cX8_tells 4 none :: wsL_law)) (wc := (mW (vG X) ad (up F 2 (up (up (up (F 2) 12 ((F 2 12) + 1)) 13 ((F 2 13) + (F 2 6))) 6 1)))) (wr := []) C [vI s] [] (c_X8_tells _ _ ad (up F 2 (up (up (up (F 2) 12 ((F 2 12) + 1)) 13 ((F 2 13) + (F 2 6))) 6 1)) s (by omega) (sB_up (sB_up (sB_up (sB_mono (by decide) hB) (by have := hB 12; exact ⟨by omega, by omega⟩)) (by have := hB 13; have := hB 6; exact ⟨by omega, by omega⟩)) (by decide))) rfl (gwV mw_666 mw_663 mw_664 mw_665 mw_5) rfl (by decide +kernel) 0 rfl rfl rfl rfl Sb.w rfl rfl dX8_sendsTurn_86 (fun r w1 hp86_11 => ?_)
      obtain ⟨rfl, rfl⟩ := hp86_11
      show V X 0 0 89 [(3, vI (1 - s)), (0, .ref (ad 0)), (1, vI s), (2, vI z)] [] ((mW (vG X) ad (up F 2 (teF s (up (up (up (F 2) 12 ((F 2 12) + 1)) 13 ((F 2 13) + (F 2 6))) 6 1)))))
      have hB86 : sB 16000000 (teF s (up (up (up (F 2) 12 ((F 2 12) + 1)) 13 ((F 2 13) + (F 2 6))) 6 1)) := teF_B (by omega) (sB_up (sB_up (sB_up (sB_mono (by decide) hB) (by have := hB 12; exact ⟨by omega, by omega⟩)) (by have := hB 13; have := hB 6; exact ⟨by omega, by omega⟩)) (by decide))
      refine v_aload_n C dX8_sendsTurn_89 rfl 1 rfl ?_
      refine v_get (v := .ref (ad 2)) C inw_8 0 10 rfl (by decide) (List.mem_cons_of_mem _ mw_105) rfl rfl dX8_sendsTurn_90 ?_
      refine v_iload_n C dX8_sendsTurn_93 rfl 2 rfl ?_
      refine v_bipush C dX8_sendsTurn_94 (by decide +kernel) ?_
      refine v_callS (na := 2) (wy := (Cond.code yX8_at cX8_at 2 (some .int) :: wsL_law)) (wc := []) (wr := (mW (vG X) ad (up F 2 (teF s (up (up (up (F 2) 12 ((F 2 12) + 1)) 13 ((F 2 13) + (F 2 6))) 6 1))))) C [vI s, vI 9] [.ref (ad 2)] (c_X8_at _ _ s 9 ) rfl (gwS mw_120 mw_118 mw_119 mw_5) (by decide +kernel) rfl rfl Sb.rf rfl rfl dX8_sendsTurn_96 (fun r w1 hp96_12 => ?_)
      obtain ⟨rfl, rfl⟩ := hp96_12
      show V X 0 0 99 [(3, vI (1 - s)), (0, .ref (ad 0)), (1, vI s), (2, vI z)] [vI ((18 + (11 * s)) + 9), .ref (ad 2)] ((mW (vG X) ad (up F 2 (teF s (up (up (up (F 2) 12 ((F 2 12) + 1)) 13 ((F 2 13) + (F 2 6))) 6 1)))))
      refine v_dup2 C dX8_sendsTurn_99 rfl rfl ?_
      refine v_iald C 2 rfl (by  omega) (by  omega) (by decide) dX8_sendsTurn_100 ?_
      show V X 0 0 101 [(3, vI (1 - s)), (0, .ref (ad 0)), (1, vI s), (2, vI z)] [vI ((teF s (up (up (up (F 2) 12 ((F 2 12) + 1)) 13 ((F 2 13) + (F 2 6))) 6 1)) ((18 + (11 * s)) + 9)), vI ((18 + (11 * s)) + 9), .ref (ad 2)] ((mW (vG X) ad (up F 2 (teF s (up (up (up (F 2) 12 ((F 2 12) + 1)) 13 ((F 2 13) + (F 2 6))) 6 1)))))
      refine v_iconst C dX8_sendsTurn_101 ?_
      refine v_iadd C dX8_sendsTurn_102 ?_
      refine v_iast C 2 rfl (by  omega) (by  omega) (by decide) dX8_sendsTurn_103 (ws' := (mW (vG X) ad (up F 2 (up (teF s (up (up (up (F 2) 12 ((F 2 12) + 1)) 13 ((F 2 13) + (F 2 6))) 6 1)) ((18 + (11 * s)) + 9) (((teF s (up (up (up (F 2) 12 ((F 2 12) + 1)) 13 ((F 2 13) + (F 2 6))) 6 1)) ((18 + (11 * s)) + 9)) + 1))))) rfl ?_
      refine v_aload_n C dX8_sendsTurn_104 rfl 1 rfl ?_
      refine v_get (v := .ref (ad 2)) C inw_8 0 10 rfl (by decide) (List.mem_cons_of_mem _ mw_105) rfl rfl dX8_sendsTurn_105 ?_
      refine v_iconst C dX8_sendsTurn_108 ?_
      refine v_iload_n C dX8_sendsTurn_109 rfl 0 rfl ?_
      refine v_iast C 2 rfl (by decide) (by decide) (by decide) dX8_sendsTurn_110 (ws' := (mW (vG X) ad (up F 2 (up (up (teF s (up (up (up (F 2) 12 ((F 2 12) + 1)) 13 ((F 2 13) + (F 2 6))) 6 1)) ((18 + (11 * s)) + 9) (((teF s (up (up (up (F 2) 12 ((F 2 12) + 1)) 13 ((F 2 13) + (F 2 6))) 6 1)) ((18 + (11 * s)) + 9)) + 1)) 1 (1 - s))))) rfl ?_
      refine v_aload_n C dX8_sendsTurn_111 rfl 1 rfl ?_
      refine v_get (v := .ref (ad 2)) C inw_8 0 10 rfl (by decide) (List.mem_cons_of_mem _ mw_105) rfl rfl dX8_sendsTurn_112 ?_
      refine v_iconst C dX8_sendsTurn_115 ?_
      refine v_iconst C dX8_sendsTurn_116 ?_
      refine v_iast C 2 rfl (by decide) (by decide) (by decide) dX8_sendsTurn_117 (ws' := (mW (vG X) ad (up F 2 (up (up (up (teF s (up (up (up (F 2) 12 ((F 2 12) + 1)) 13 ((F 2 13) + (F 2 6))) 6 1)) ((18 + (11 * s)) + 9) (((teF s (up (up (up (F 2) 12 ((F 2 12) + 1)) 13 ((F 2 13) + (F 2 6))) 6 1)) ((18 + (11 * s)) + 9)) + 1)) 1 (1 - s)) 2 0)))) rfl ?_
      refine v_aload_n C dX8_sendsTurn_118 rfl 1 rfl ?_
      refine v_iload_n C dX8_sendsTurn_119 rfl 0 rfl ?_
      refine v_bipush C dX8_sendsTurn_120 (by decide +kernel) ?_
      refine v_callV (na := 2) (wy := (Cond.code yX8_of cX8_of 3 (some .int) :: wsL_law)) (wc := (mW (vG X) ad (up F 2 (up (up (up (teF s (up (up (up (F 2) 12 ((F 2 12) + 1)) 13 ((F 2 13) + (F 2 6))) 6 1)) ((18 + (11 * s)) + 9) (((teF s (up (up (up (F 2) 12 ((F 2 12) + 1)) 13 ((F 2 13) + (F 2 6))) 6 1)) ((18 + (11 * s)) + 9)) + 1)) 1 (1 - s)) 2 0)))) (wr := []) C [vI (1 - s), vI 7] [] (c_X8_of _ _ ad (up F 2 (up (up (up (teF s (up (up (up (F 2) 12 ((F 2 12) + 1)) 13 ((F 2 13) + (F 2 6))) 6 1)) ((18 + (11 * s)) + 9) (((teF s (up (up (up (F 2) 12 ((F 2 12) + 1)) 13 ((F 2 13) + (F 2 6))) 6 1)) ((18 + (11 * s)) + 9)) + 1)) 1 (1 - s)) 2 0)) (1 - s) 7 (by omega) (by omega)) rfl (gwV mw_129 mw_126 mw_127 mw_128 mw_5) rfl (by decide +kernel) 0 rfl rfl rfl rfl Sb.w rfl rfl dX8_sendsTurn_122 (fun r w1 hp122_13 => ?_)
      obtain ⟨rfl, rfl⟩ := hp122_13
      show V X 0 0 125 [(3, vI (1 - s)), (0, .ref (ad 0)), (1, vI s), (2, vI z)] [vI ((up (up (up (teF s (up (up (up (F 2) 12 ((F 2 12) + 1)) 13 ((F 2 13) + (F 2 6))) 6 1)) ((18 + (11 * s)) + 9) (((teF s (up (up (up (F 2) 12 ((F 2 12) + 1)) 13 ((F 2 13) + (F 2 6))) 6 1)) ((18 + (11 * s)) + 9)) + 1)) 1 (1 - s)) 2 0) ((18 + (11 * (1 - s))) + 7))] ((mW (vG X) ad (up F 2 (up (up (up (teF s (up (up (up (F 2) 12 ((F 2 12) + 1)) 13 ((F 2 13) + (F 2 6))) 6 1)) ((18 + (11 * s)) + 9) (((teF s (up (up (up (F 2) 12 ((F 2 12) + 1)) 13 ((F 2 13) + (F 2 6))) 6 1)) ((18 + (11 * s)) + 9)) + 1)) 1 (1 - s)) 2 0))))
      rw [up_n (show (((18 + (11 * (1 - s))) + 7) : Int) ≠ 2 by omega), up_n (show (((18 + (11 * (1 - s))) + 7) : Int) ≠ 1 by omega), up_n (show (((18 + (11 * (1 - s))) + 7) : Int) ≠ ((18 + (11 * s)) + 9) by omega)]
      refine v_aload_n C dX8_sendsTurn_125 rfl 1 rfl ?_
      refine v_iload_n C dX8_sendsTurn_126 rfl 0 rfl ?_
      refine v_bipush C dX8_sendsTurn_127 (by decide +kernel) ?_
      refine v_callV (na := 2) (wy := (Cond.code yX8_of cX8_of 3 (some .int) :: wsL_law)) (wc := (mW (vG X) ad (up F 2 (up (up (up (teF s (up (up (up (F 2) 12 ((F 2 12) + 1)) 13 ((F 2 13) + (F 2 6))) 6 1)) ((18 + (11 * s)) + 9) (((teF s (up (up (up (F 2) 12 ((F 2 12) + 1)) 13 ((F 2 13) + (F 2 6))) 6 1)) ((18 + (11 * s)) + 9)) + 1)) 1 (1 - s)) 2 0)))) (wr := []) C [vI (1 - s), vI 8] [vI ((teF s (up (up (up (F 2) 12 ((F 2 12) + 1)) 13 ((F 2 13) + (F 2 6))) 6 1)) ((18 + (11 * (1 - s))) + 7))] (c_X8_of _ _ ad (up F 2 (up (up (up (teF s (up (up (up (F 2) 12 ((F 2 12) + 1)) 13 ((F 2 13) + (F 2 6))) 6 1)) ((18 + (11 * s)) + 9) (((teF s (up (up (up (F 2) 12 ((F 2 12) + 1)) 13 ((F 2 13) + (F 2 6))) 6 1)) ((18 + (11 * s)) + 9)) + 1)) 1 (1 - s)) 2 0)) (1 - s) 8 (by omega) (by omega)) rfl (gwV mw_129 mw_126 mw_127 mw_128 mw_5) rfl (by decide +kernel) 0 rfl rfl rfl rfl Sb.w rfl rfl dX8_sendsTurn_129 (fun r w1 hp129_14 => ?_)
      obtain ⟨rfl, rfl⟩ := hp129_14
      show V X 0 0 132 [(3, vI (1 - s)), (0, .ref (ad 0)), (1, vI s), (2, vI z)] [vI ((up (up (up (teF s (up (up (up (F 2) 12 ((F 2 12) + 1)) 13 ((F 2 13) + (F 2 6))) 6 1)) ((18 + (11 * s)) + 9) (((teF s (up (up (up (F 2) 12 ((F 2 12) + 1)) 13 ((F 2 13) + (F 2 6))) 6 1)) ((18 + (11 * s)) + 9)) + 1)) 1 (1 - s)) 2 0) ((18 + (11 * (1 - s))) + 8)), vI ((teF s (up (up (up (F 2) 12 ((F 2 12) + 1)) 13 ((F 2 13) + (F 2 6))) 6 1)) ((18 + (11 * (1 - s))) + 7))] ((mW (vG X) ad (up F 2 (up (up (up (teF s (up (up (up (F 2) 12 ((F 2 12) + 1)) 13 ((F 2 13) + (F 2 6))) 6 1)) ((18 + (11 * s)) + 9) (((teF s (up (up (up (F 2) 12 ((F 2 12) + 1)) 13 ((F 2 13) + (F 2 6))) 6 1)) ((18 + (11 * s)) + 9)) + 1)) 1 (1 - s)) 2 0))))
      rw [up_n (show (((18 + (11 * (1 - s))) + 8) : Int) ≠ 2 by omega), up_n (show (((18 + (11 * (1 - s))) + 8) : Int) ≠ 1 by omega), up_n (show (((18 + (11 * (1 - s))) + 8) : Int) ≠ ((18 + (11 * s)) + 9) by omega)]
      refine v_isub C dX8_sendsTurn_132 ?_
      refine v_istore C M dX8_sendsTurn_133 (by decide) (L' := [(4, vI (((teF s (up (up (up (F 2) 12 ((F 2 12) + 1)) 13 ((F 2 13) + (F 2 6))) 6 1)) ((18 + (11 * (1 - s))) + 7)) - ((teF s (up (up (up (F 2) 12 ((F 2 12) + 1)) 13 ((F 2 13) + (F 2 6))) 6 1)) ((18 + (11 * (1 - s))) + 8)))), (3, vI (1 - s)), (0, .ref (ad 0)), (1, vI s), (2, vI z)]) rfl ?_
      refine v_aload_n C dX8_sendsTurn_135 rfl 2 rfl ?_
      refine v_iload_n C dX8_sendsTurn_136 rfl 3 rfl ?_
      refine v_iconst C dX8_sendsTurn_137 ?_
      refine v_callV (na := 2) (wy := (Cond.code yX8_of cX8_of 3 (some .int) :: wsL_law)) (wc := (mW (vG X) ad (up F 2 (up (up (up (teF s (up (up (up (F 2) 12 ((F 2 12) + 1)) 13 ((F 2 13) + (F 2 6))) 6 1)) ((18 + (11 * s)) + 9) (((teF s (up (up (up (F 2) 12 ((F 2 12) + 1)) 13 ((F 2 13) + (F 2 6))) 6 1)) ((18 + (11 * s)) + 9)) + 1)) 1 (1 - s)) 2 0)))) (wr := []) C [vI s, vI 4] [] (c_X8_of _ _ ad (up F 2 (up (up (up (teF s (up (up (up (F 2) 12 ((F 2 12) + 1)) 13 ((F 2 13) + (F 2 6))) 6 1)) ((18 + (11 * s)) + 9) (((teF s (up (up (up (F 2) 12 ((F 2 12) + 1)) 13 ((F 2 13) + (F 2 6))) 6 1)) ((18 + (11 * s)) + 9)) + 1)) 1 (1 - s)) 2 0)) s 4 (by omega) (by omega)) rfl (gwV mw_129 mw_126 mw_127 mw_128 mw_5) rfl (by decide +kernel) 0 rfl rfl rfl rfl Sb.w rfl rfl dX8_sendsTurn_138 (fun r w1 hp138_15 => ?_)
      obtain ⟨rfl, rfl⟩ := hp138_15
      show V X 0 0 141 [(4, vI (((teF s (up (up (up (F 2) 12 ((F 2 12) + 1)) 13 ((F 2 13) + (F 2 6))) 6 1)) ((18 + (11 * (1 - s))) + 7)) - ((teF s (up (up (up (F 2) 12 ((F 2 12) + 1)) 13 ((F 2 13) + (F 2 6))) 6 1)) ((18 + (11 * (1 - s))) + 8)))), (3, vI (1 - s)), (0, .ref (ad 0)), (1, vI s), (2, vI z)] [vI ((up (up (up (teF s (up (up (up (F 2) 12 ((F 2 12) + 1)) 13 ((F 2 13) + (F 2 6))) 6 1)) ((18 + (11 * s)) + 9) (((teF s (up (up (up (F 2) 12 ((F 2 12) + 1)) 13 ((F 2 13) + (F 2 6))) 6 1)) ((18 + (11 * s)) + 9)) + 1)) 1 (1 - s)) 2 0) ((18 + (11 * s)) + 4))] ((mW (vG X) ad (up F 2 (up (up (up (teF s (up (up (up (F 2) 12 ((F 2 12) + 1)) 13 ((F 2 13) + (F 2 6))) 6 1)) ((18 + (11 * s)) + 9) (((teF s (up (up (up (F 2) 12 ((F 2 12) + 1)) 13 ((F 2 13) + (F 2 6))) 6 1)) ((18 + (11 * s)) + 9)) + 1)) 1 (1 - s)) 2 0))))
      rw [up_n (show (((18 + (11 * s)) + 4) : Int) ≠ 2 by omega), up_n (show (((18 + (11 * s)) + 4) : Int) ≠ 1 by omega), up_n (show (((18 + (11 * s)) + 4) : Int) ≠ ((18 + (11 * s)) + 9) by omega)]
      refine v_iload C dX8_sendsTurn_141 0 rfl ?_
      refine v_icmp_ge (tgt := 155) C dX8_sendsTurn_143 (by decide) (by have := hB86 ((18 + (11 * s)) + 4); first | assumption | exact ⟨by omega, by omega⟩) (by have := hB86 ((18 + (11 * (1 - s))) + 7); have := hB86 ((18 + (11 * (1 - s))) + 8); first | assumption | exact ⟨by omega, by omega⟩) (fun c143 => ?_) (fun c143 => ?_)
      · skip
        refine v_iload C dX8_sendsTurn_155 0 rfl ?_
        refine v_istore C M dX8_sendsTurn_157 (by decide) (L' := [(5, vI (((teF s (up (up (up (F 2) 12 ((F 2 12) + 1)) 13 ((F 2 13) + (F 2 6))) 6 1)) ((18 + (11 * (1 - s))) + 7)) - ((teF s (up (up (up (F 2) 12 ((F 2 12) + 1)) 13 ((F 2 13) + (F 2 6))) 6 1)) ((18 + (11 * (1 - s))) + 8)))), (4, vI (((teF s (up (up (up (F 2) 12 ((F 2 12) + 1)) 13 ((F 2 13) + (F 2 6))) 6 1)) ((18 + (11 * (1 - s))) + 7)) - ((teF s (up (up (up (F 2) 12 ((F 2 12) + 1)) 13 ((F 2 13) + (F 2 6))) 6 1)) ((18 + (11 * (1 - s))) + 8)))), (3, vI (1 - s)), (0, .ref (ad 0)), (1, vI s), (2, vI z)]) rfl ?_
        refine v_iload C dX8_sendsTurn_159 0 rfl ?_
        refine v_if_gt (tgt := 165) C dX8_sendsTurn_161 (by decide) (by have := hB86 ((18 + (11 * (1 - s))) + 7); have := hB86 ((18 + (11 * (1 - s))) + 8); first | assumption | exact ⟨by omega, by omega⟩) (fun c161 => ?_) (fun c161 => ?_)
        · skip
          refine v_aload_n C dX8_sendsTurn_165 rfl 3 rfl ?_
          refine v_get (v := .ref (ad 2)) C inw_8 0 10 rfl (by decide) (List.mem_cons_of_mem _ mw_105) rfl rfl dX8_sendsTurn_166 ?_
          refine v_iload_n C dX8_sendsTurn_169 rfl 2 rfl ?_
          refine v_bipush C dX8_sendsTurn_170 (by decide +kernel) ?_
          refine v_callS (na := 2) (wy := (Cond.code yX8_at cX8_at 2 (some .int) :: wsL_law)) (wc := []) (wr := (mW (vG X) ad (up F 2 (up (up (up (teF s (up (up (up (F 2) 12 ((F 2 12) + 1)) 13 ((F 2 13) + (F 2 6))) 6 1)) ((18 + (11 * s)) + 9) (((teF s (up (up (up (F 2) 12 ((F 2 12) + 1)) 13 ((F 2 13) + (F 2 6))) 6 1)) ((18 + (11 * s)) + 9)) + 1)) 1 (1 - s)) 2 0)))) C [vI (1 - s), vI 7] [.ref (ad 2)] (c_X8_at _ _ (1 - s) 7 ) rfl (gwS mw_120 mw_118 mw_119 mw_5) (by decide +kernel) rfl rfl Sb.rf rfl rfl dX8_sendsTurn_172 (fun r w1 hp172_16 => ?_)
          obtain ⟨rfl, rfl⟩ := hp172_16
          show V X 0 0 175 [(5, vI (((teF s (up (up (up (F 2) 12 ((F 2 12) + 1)) 13 ((F 2 13) + (F 2 6))) 6 1)) ((18 + (11 * (1 - s))) + 7)) - ((teF s (up (up (up (F 2) 12 ((F 2 12) + 1)) 13 ((F 2 13) + (F 2 6))) 6 1)) ((18 + (11 * (1 - s))) + 8)))), (4, vI (((teF s (up (up (up (F 2) 12 ((F 2 12) + 1)) 13 ((F 2 13) + (F 2 6))) 6 1)) ((18 + (11 * (1 - s))) + 7)) - ((teF s (up (up (up (F 2) 12 ((F 2 12) + 1)) 13 ((F 2 13) + (F 2 6))) 6 1)) ((18 + (11 * (1 - s))) + 8)))), (3, vI (1 - s)), (0, .ref (ad 0)), (1, vI s), (2, vI z)] [vI ((18 + (11 * (1 - s))) + 7), .ref (ad 2)] ((mW (vG X) ad (up F 2 (up (up (up (teF s (up (up (up (F 2) 12 ((F 2 12) + 1)) 13 ((F 2 13) + (F 2 6))) 6 1)) ((18 + (11 * s)) + 9) (((teF s (up (up (up (F 2) 12 ((F 2 12) + 1)) 13 ((F 2 13) + (F 2 6))) 6 1)) ((18 + (11 * s)) + 9)) + 1)) 1 (1 - s)) 2 0))))
          refine v_dup2 C dX8_sendsTurn_175 rfl rfl ?_
          refine v_iald C 2 rfl (by  omega) (by  omega) (by decide) dX8_sendsTurn_176 ?_
          show V X 0 0 177 [(5, vI (((teF s (up (up (up (F 2) 12 ((F 2 12) + 1)) 13 ((F 2 13) + (F 2 6))) 6 1)) ((18 + (11 * (1 - s))) + 7)) - ((teF s (up (up (up (F 2) 12 ((F 2 12) + 1)) 13 ((F 2 13) + (F 2 6))) 6 1)) ((18 + (11 * (1 - s))) + 8)))), (4, vI (((teF s (up (up (up (F 2) 12 ((F 2 12) + 1)) 13 ((F 2 13) + (F 2 6))) 6 1)) ((18 + (11 * (1 - s))) + 7)) - ((teF s (up (up (up (F 2) 12 ((F 2 12) + 1)) 13 ((F 2 13) + (F 2 6))) 6 1)) ((18 + (11 * (1 - s))) + 8)))), (3, vI (1 - s)), (0, .ref (ad 0)), (1, vI s), (2, vI z)] [vI ((up (up (up (teF s (up (up (up (F 2) 12 ((F 2 12) + 1)) 13 ((F 2 13) + (F 2 6))) 6 1)) ((18 + (11 * s)) + 9) (((teF s (up (up (up (F 2) 12 ((F 2 12) + 1)) 13 ((F 2 13) + (F 2 6))) 6 1)) ((18 + (11 * s)) + 9)) + 1)) 1 (1 - s)) 2 0) ((18 + (11 * (1 - s))) + 7)), vI ((18 + (11 * (1 - s))) + 7), .ref (ad 2)] ((mW (vG X) ad (up F 2 (up (up (up (teF s (up (up (up (F 2) 12 ((F 2 12) + 1)) 13 ((F 2 13) + (F 2 6))) 6 1)) ((18 + (11 * s)) + 9) (((teF s (up (up (up (F 2) 12 ((F 2 12) + 1)) 13 ((F 2 13) + (F 2 6))) 6 1)) ((18 + (11 * s)) + 9)) + 1)) 1 (1 - s)) 2 0))))
          rw [up_n (show (((18 + (11 * (1 - s))) + 7) : Int) ≠ 2 by omega), up_n (show (((18 + (11 * (1 - s))) + 7) : Int) ≠ 1 by omega), up_n (show (((18 + (11 * (1 - s))) + 7) : Int) ≠ ((18 + (11 * s)) + 9) by omega)]
          refine v_iload C dX8_sendsTurn_177 0 rfl ?_
          refine v_isub C dX8_sendsTurn_179 ?_
          refine v_iast C 2 rfl (by  omega) (by  omega) (by decide) dX8_sendsTurn_180 (ws' := (mW (vG X) ad (up F 2 (up (up (up (up (teF s (up (up (up (F 2) 12 ((F 2 12) + 1)) 13 ((F 2 13) + (F 2 6))) 6 1)) ((18 + (11 * s)) + 9) (((teF s (up (up (up (F 2) 12 ((F 2 12) + 1)) 13 ((F 2 13) + (F 2 6))) 6 1)) ((18 + (11 * s)) + 9)) + 1)) 1 (1 - s)) 2 0) ((18 + (11 * (1 - s))) + 7) (((teF s (up (up (up (F 2) 12 ((F 2 12) + 1)) 13 ((F 2 13) + (F 2 6))) 6 1)) ((18 + (11 * (1 - s))) + 7)) - (((teF s (up (up (up (F 2) 12 ((F 2 12) + 1)) 13 ((F 2 13) + (F 2 6))) 6 1)) ((18 + (11 * (1 - s))) + 7)) - ((teF s (up (up (up (F 2) 12 ((F 2 12) + 1)) 13 ((F 2 13) + (F 2 6))) 6 1)) ((18 + (11 * (1 - s))) + 8)))))))) rfl ?_
          refine v_aload_n C dX8_sendsTurn_181 rfl 3 rfl ?_
          refine v_get (v := .ref (ad 2)) C inw_8 0 10 rfl (by decide) (List.mem_cons_of_mem _ mw_105) rfl rfl dX8_sendsTurn_182 ?_
          refine v_iload_n C dX8_sendsTurn_185 rfl 2 rfl ?_
          refine v_iconst C dX8_sendsTurn_186 ?_
          refine v_callS (na := 2) (wy := (Cond.code yX8_at cX8_at 2 (some .int) :: wsL_law)) (wc := []) (wr := (mW (vG X) ad (up F 2 (up (up (up (up (teF s (up (up (up (F 2) 12 ((F 2 12) + 1)) 13 ((F 2 13) + (F 2 6))) 6 1)) ((18 + (11 * s)) + 9) (((teF s (up (up (up (F 2) 12 ((F 2 12) + 1)) 13 ((F 2 13) + (F 2 6))) 6 1)) ((18 + (11 * s)) + 9)) + 1)) 1 (1 - s)) 2 0) ((18 + (11 * (1 - s))) + 7) (((teF s (up (up (up (F 2) 12 ((F 2 12) + 1)) 13 ((F 2 13) + (F 2 6))) 6 1)) ((18 + (11 * (1 - s))) + 7)) - (((teF s (up (up (up (F 2) 12 ((F 2 12) + 1)) 13 ((F 2 13) + (F 2 6))) 6 1)) ((18 + (11 * (1 - s))) + 7)) - ((teF s (up (up (up (F 2) 12 ((F 2 12) + 1)) 13 ((F 2 13) + (F 2 6))) 6 1)) ((18 + (11 * (1 - s))) + 8)))))))) C [vI (1 - s), vI 5] [.ref (ad 2)] (c_X8_at _ _ (1 - s) 5 ) rfl (gwS mw_120 mw_118 mw_119 mw_5) (by decide +kernel) rfl rfl Sb.rf rfl rfl dX8_sendsTurn_187 (fun r w1 hp187_17 => ?_)
          obtain ⟨rfl, rfl⟩ := hp187_17
          show V X 0 0 190 [(5, vI (((teF s (up (up (up (F 2) 12 ((F 2 12) + 1)) 13 ((F 2 13) + (F 2 6))) 6 1)) ((18 + (11 * (1 - s))) + 7)) - ((teF s (up (up (up (F 2) 12 ((F 2 12) + 1)) 13 ((F 2 13) + (F 2 6))) 6 1)) ((18 + (11 * (1 - s))) + 8)))), (4, vI (((teF s (up (up (up (F 2) 12 ((F 2 12) + 1)) 13 ((F 2 13) + (F 2 6))) 6 1)) ((18 + (11 * (1 - s))) + 7)) - ((teF s (up (up (up (F 2) 12 ((F 2 12) + 1)) 13 ((F 2 13) + (F 2 6))) 6 1)) ((18 + (11 * (1 - s))) + 8)))), (3, vI (1 - s)), (0, .ref (ad 0)), (1, vI s), (2, vI z)] [vI ((18 + (11 * (1 - s))) + 5), .ref (ad 2)] ((mW (vG X) ad (up F 2 (up (up (up (up (teF s (up (up (up (F 2) 12 ((F 2 12) + 1)) 13 ((F 2 13) + (F 2 6))) 6 1)) ((18 + (11 * s)) + 9) (((teF s (up (up (up (F 2) 12 ((F 2 12) + 1)) 13 ((F 2 13) + (F 2 6))) 6 1)) ((18 + (11 * s)) + 9)) + 1)) 1 (1 - s)) 2 0) ((18 + (11 * (1 - s))) + 7) (((teF s (up (up (up (F 2) 12 ((F 2 12) + 1)) 13 ((F 2 13) + (F 2 6))) 6 1)) ((18 + (11 * (1 - s))) + 7)) - (((teF s (up (up (up (F 2) 12 ((F 2 12) + 1)) 13 ((F 2 13) + (F 2 6))) 6 1)) ((18 + (11 * (1 - s))) + 7)) - ((teF s (up (up (up (F 2) 12 ((F 2 12) + 1)) 13 ((F 2 13) + (F 2 6))) 6 1)) ((18 + (11 * (1 - s))) + 8))))))))
          refine v_dup2 C dX8_sendsTurn_190 rfl rfl ?_
          refine v_iald C 2 rfl (by  omega) (by  omega) (by decide) dX8_sendsTurn_191 ?_
          show V X 0 0 192 [(5, vI (((teF s (up (up (up (F 2) 12 ((F 2 12) + 1)) 13 ((F 2 13) + (F 2 6))) 6 1)) ((18 + (11 * (1 - s))) + 7)) - ((teF s (up (up (up (F 2) 12 ((F 2 12) + 1)) 13 ((F 2 13) + (F 2 6))) 6 1)) ((18 + (11 * (1 - s))) + 8)))), (4, vI (((teF s (up (up (up (F 2) 12 ((F 2 12) + 1)) 13 ((F 2 13) + (F 2 6))) 6 1)) ((18 + (11 * (1 - s))) + 7)) - ((teF s (up (up (up (F 2) 12 ((F 2 12) + 1)) 13 ((F 2 13) + (F 2 6))) 6 1)) ((18 + (11 * (1 - s))) + 8)))), (3, vI (1 - s)), (0, .ref (ad 0)), (1, vI s), (2, vI z)] [vI ((up (up (up (up (teF s (up (up (up (F 2) 12 ((F 2 12) + 1)) 13 ((F 2 13) + (F 2 6))) 6 1)) ((18 + (11 * s)) + 9) (((teF s (up (up (up (F 2) 12 ((F 2 12) + 1)) 13 ((F 2 13) + (F 2 6))) 6 1)) ((18 + (11 * s)) + 9)) + 1)) 1 (1 - s)) 2 0) ((18 + (11 * (1 - s))) + 7) (((teF s (up (up (up (F 2) 12 ((F 2 12) + 1)) 13 ((F 2 13) + (F 2 6))) 6 1)) ((18 + (11 * (1 - s))) + 7)) - (((teF s (up (up (up (F 2) 12 ((F 2 12) + 1)) 13 ((F 2 13) + (F 2 6))) 6 1)) ((18 + (11 * (1 - s))) + 7)) - ((teF s (up (up (up (F 2) 12 ((F 2 12) + 1)) 13 ((F 2 13) + (F 2 6))) 6 1)) ((18 + (11 * (1 - s))) + 8))))) ((18 + (11 * (1 - s))) + 5)), vI ((18 + (11 * (1 - s))) + 5), .ref (ad 2)] ((mW (vG X) ad (up F 2 (up (up (up (up (teF s (up (up (up (F 2) 12 ((F 2 12) + 1)) 13 ((F 2 13) + (F 2 6))) 6 1)) ((18 + (11 * s)) + 9) (((teF s (up (up (up (F 2) 12 ((F 2 12) + 1)) 13 ((F 2 13) + (F 2 6))) 6 1)) ((18 + (11 * s)) + 9)) + 1)) 1 (1 - s)) 2 0) ((18 + (11 * (1 - s))) + 7) (((teF s (up (up (up (F 2) 12 ((F 2 12) + 1)) 13 ((F 2 13) + (F 2 6))) 6 1)) ((18 + (11 * (1 - s))) + 7)) - (((teF s (up (up (up (F 2) 12 ((F 2 12) + 1)) 13 ((F 2 13) + (F 2 6))) 6 1)) ((18 + (11 * (1 - s))) + 7)) - ((teF s (up (up (up (F 2) 12 ((F 2 12) + 1)) 13 ((F 2 13) + (F 2 6))) 6 1)) ((18 + (11 * (1 - s))) + 8))))))))
          rw [up_n (show (((18 + (11 * (1 - s))) + 5) : Int) ≠ ((18 + (11 * (1 - s))) + 7) by omega), up_n (show (((18 + (11 * (1 - s))) + 5) : Int) ≠ 2 by omega), up_n (show (((18 + (11 * (1 - s))) + 5) : Int) ≠ 1 by omega), up_n (show (((18 + (11 * (1 - s))) + 5) : Int) ≠ ((18 + (11 * s)) + 9) by omega)]
          refine v_iload C dX8_sendsTurn_192 0 rfl ?_
          refine v_iadd C dX8_sendsTurn_194 ?_
          refine v_iast C 2 rfl (by  omega) (by  omega) (by decide) dX8_sendsTurn_195 (ws' := (mW (vG X) ad (up F 2 (up (up (up (up (up (teF s (up (up (up (F 2) 12 ((F 2 12) + 1)) 13 ((F 2 13) + (F 2 6))) 6 1)) ((18 + (11 * s)) + 9) (((teF s (up (up (up (F 2) 12 ((F 2 12) + 1)) 13 ((F 2 13) + (F 2 6))) 6 1)) ((18 + (11 * s)) + 9)) + 1)) 1 (1 - s)) 2 0) ((18 + (11 * (1 - s))) + 7) (((teF s (up (up (up (F 2) 12 ((F 2 12) + 1)) 13 ((F 2 13) + (F 2 6))) 6 1)) ((18 + (11 * (1 - s))) + 7)) - (((teF s (up (up (up (F 2) 12 ((F 2 12) + 1)) 13 ((F 2 13) + (F 2 6))) 6 1)) ((18 + (11 * (1 - s))) + 7)) - ((teF s (up (up (up (F 2) 12 ((F 2 12) + 1)) 13 ((F 2 13) + (F 2 6))) 6 1)) ((18 + (11 * (1 - s))) + 8))))) ((18 + (11 * (1 - s))) + 5) (((teF s (up (up (up (F 2) 12 ((F 2 12) + 1)) 13 ((F 2 13) + (F 2 6))) 6 1)) ((18 + (11 * (1 - s))) + 5)) + (((teF s (up (up (up (F 2) 12 ((F 2 12) + 1)) 13 ((F 2 13) + (F 2 6))) 6 1)) ((18 + (11 * (1 - s))) + 7)) - ((teF s (up (up (up (F 2) 12 ((F 2 12) + 1)) 13 ((F 2 13) + (F 2 6))) 6 1)) ((18 + (11 * (1 - s))) + 8)))))))) rfl ?_
          exact v_vret C E rfl dX8_sendsTurn_196 (by decide) (by decide) (⟨rfl, by rw [show (stF s z (F 2)) = (up (up (up (up (up (teF s (up (up (up (F 2) 12 ((F 2 12) + 1)) 13 ((F 2 13) + (F 2 6))) 6 1)) ((18 + (11 * s)) + 9) (((teF s (up (up (up (F 2) 12 ((F 2 12) + 1)) 13 ((F 2 13) + (F 2 6))) 6 1)) ((18 + (11 * s)) + 9)) + 1)) 1 (1 - s)) 2 0) ((18 + (11 * (1 - s))) + 7) (((teF s (up (up (up (F 2) 12 ((F 2 12) + 1)) 13 ((F 2 13) + (F 2 6))) 6 1)) ((18 + (11 * (1 - s))) + 7)) - (((teF s (up (up (up (F 2) 12 ((F 2 12) + 1)) 13 ((F 2 13) + (F 2 6))) 6 1)) ((18 + (11 * (1 - s))) + 7)) - ((teF s (up (up (up (F 2) 12 ((F 2 12) + 1)) 13 ((F 2 13) + (F 2 6))) 6 1)) ((18 + (11 * (1 - s))) + 8))))) ((18 + (11 * (1 - s))) + 5) (((teF s (up (up (up (F 2) 12 ((F 2 12) + 1)) 13 ((F 2 13) + (F 2 6))) 6 1)) ((18 + (11 * (1 - s))) + 5)) + (((teF s (up (up (up (F 2) 12 ((F 2 12) + 1)) 13 ((F 2 13) + (F 2 6))) 6 1)) ((18 + (11 * (1 - s))) + 7)) - ((teF s (up (up (up (F 2) 12 ((F 2 12) + 1)) 13 ((F 2 13) + (F 2 6))) 6 1)) ((18 + (11 * (1 - s))) + 8))))) from ((if_neg c39).trans ((if_pos c49).trans ((if_pos c143).trans (if_pos c161))))]⟩)
        · skip
          exact v_vret C E rfl dX8_sendsTurn_164 (by decide) (by decide) (⟨rfl, by rw [show (stF s z (F 2)) = (up (up (up (teF s (up (up (up (F 2) 12 ((F 2 12) + 1)) 13 ((F 2 13) + (F 2 6))) 6 1)) ((18 + (11 * s)) + 9) (((teF s (up (up (up (F 2) 12 ((F 2 12) + 1)) 13 ((F 2 13) + (F 2 6))) 6 1)) ((18 + (11 * s)) + 9)) + 1)) 1 (1 - s)) 2 0) from ((if_neg c39).trans ((if_pos c49).trans ((if_pos c143).trans (if_neg c161))))]⟩)
      · skip
        refine v_aload_n C dX8_sendsTurn_146 rfl 2 rfl ?_
        refine v_iload_n C dX8_sendsTurn_147 rfl 3 rfl ?_
        refine v_iconst C dX8_sendsTurn_148 ?_
        refine v_callV (na := 2) (wy := (Cond.code yX8_of cX8_of 3 (some .int) :: wsL_law)) (wc := (mW (vG X) ad (up F 2 (up (up (up (teF s (up (up (up (F 2) 12 ((F 2 12) + 1)) 13 ((F 2 13) + (F 2 6))) 6 1)) ((18 + (11 * s)) + 9) (((teF s (up (up (up (F 2) 12 ((F 2 12) + 1)) 13 ((F 2 13) + (F 2 6))) 6 1)) ((18 + (11 * s)) + 9)) + 1)) 1 (1 - s)) 2 0)))) (wr := []) C [vI s, vI 4] [] (c_X8_of _ _ ad (up F 2 (up (up (up (teF s (up (up (up (F 2) 12 ((F 2 12) + 1)) 13 ((F 2 13) + (F 2 6))) 6 1)) ((18 + (11 * s)) + 9) (((teF s (up (up (up (F 2) 12 ((F 2 12) + 1)) 13 ((F 2 13) + (F 2 6))) 6 1)) ((18 + (11 * s)) + 9)) + 1)) 1 (1 - s)) 2 0)) s 4 (by omega) (by omega)) rfl (gwV mw_129 mw_126 mw_127 mw_128 mw_5) rfl (by decide +kernel) 0 rfl rfl rfl rfl Sb.w rfl rfl dX8_sendsTurn_149 (fun r w1 hp149_18 => ?_)
        obtain ⟨rfl, rfl⟩ := hp149_18
        show V X 0 0 152 [(4, vI (((teF s (up (up (up (F 2) 12 ((F 2 12) + 1)) 13 ((F 2 13) + (F 2 6))) 6 1)) ((18 + (11 * (1 - s))) + 7)) - ((teF s (up (up (up (F 2) 12 ((F 2 12) + 1)) 13 ((F 2 13) + (F 2 6))) 6 1)) ((18 + (11 * (1 - s))) + 8)))), (3, vI (1 - s)), (0, .ref (ad 0)), (1, vI s), (2, vI z)] [vI ((up (up (up (teF s (up (up (up (F 2) 12 ((F 2 12) + 1)) 13 ((F 2 13) + (F 2 6))) 6 1)) ((18 + (11 * s)) + 9) (((teF s (up (up (up (F 2) 12 ((F 2 12) + 1)) 13 ((F 2 13) + (F 2 6))) 6 1)) ((18 + (11 * s)) + 9)) + 1)) 1 (1 - s)) 2 0) ((18 + (11 * s)) + 4))] ((mW (vG X) ad (up F 2 (up (up (up (teF s (up (up (up (F 2) 12 ((F 2 12) + 1)) 13 ((F 2 13) + (F 2 6))) 6 1)) ((18 + (11 * s)) + 9) (((teF s (up (up (up (F 2) 12 ((F 2 12) + 1)) 13 ((F 2 13) + (F 2 6))) 6 1)) ((18 + (11 * s)) + 9)) + 1)) 1 (1 - s)) 2 0))))
        rw [up_n (show (((18 + (11 * s)) + 4) : Int) ≠ 2 by omega), up_n (show (((18 + (11 * s)) + 4) : Int) ≠ 1 by omega), up_n (show (((18 + (11 * s)) + 4) : Int) ≠ ((18 + (11 * s)) + 9) by omega)]
        refine v_goto (tgt := 157) C dX8_sendsTurn_152 (by decide) ?_
        refine v_istore C M dX8_sendsTurn_157 (by decide) (L' := [(5, vI ((teF s (up (up (up (F 2) 12 ((F 2 12) + 1)) 13 ((F 2 13) + (F 2 6))) 6 1)) ((18 + (11 * s)) + 4))), (4, vI (((teF s (up (up (up (F 2) 12 ((F 2 12) + 1)) 13 ((F 2 13) + (F 2 6))) 6 1)) ((18 + (11 * (1 - s))) + 7)) - ((teF s (up (up (up (F 2) 12 ((F 2 12) + 1)) 13 ((F 2 13) + (F 2 6))) 6 1)) ((18 + (11 * (1 - s))) + 8)))), (3, vI (1 - s)), (0, .ref (ad 0)), (1, vI s), (2, vI z)]) rfl ?_
        refine v_iload C dX8_sendsTurn_159 0 rfl ?_
        refine v_if_gt (tgt := 165) C dX8_sendsTurn_161 (by decide) (by have := hB86 ((18 + (11 * s)) + 4); first | assumption | exact ⟨by omega, by omega⟩) (fun c161 => ?_) (fun c161 => ?_)
        · skip
          refine v_aload_n C dX8_sendsTurn_165 rfl 3 rfl ?_
          refine v_get (v := .ref (ad 2)) C inw_8 0 10 rfl (by decide) (List.mem_cons_of_mem _ mw_105) rfl rfl dX8_sendsTurn_166 ?_
          refine v_iload_n C dX8_sendsTurn_169 rfl 2 rfl ?_
          refine v_bipush C dX8_sendsTurn_170 (by decide +kernel) ?_
          refine v_callS (na := 2) (wy := (Cond.code yX8_at cX8_at 2 (some .int) :: wsL_law)) (wc := []) (wr := (mW (vG X) ad (up F 2 (up (up (up (teF s (up (up (up (F 2) 12 ((F 2 12) + 1)) 13 ((F 2 13) + (F 2 6))) 6 1)) ((18 + (11 * s)) + 9) (((teF s (up (up (up (F 2) 12 ((F 2 12) + 1)) 13 ((F 2 13) + (F 2 6))) 6 1)) ((18 + (11 * s)) + 9)) + 1)) 1 (1 - s)) 2 0)))) C [vI (1 - s), vI 7] [.ref (ad 2)] (c_X8_at _ _ (1 - s) 7 ) rfl (gwS mw_120 mw_118 mw_119 mw_5) (by decide +kernel) rfl rfl Sb.rf rfl rfl dX8_sendsTurn_172 (fun r w1 hp172_19 => ?_)
          obtain ⟨rfl, rfl⟩ := hp172_19
          show V X 0 0 175 [(5, vI ((teF s (up (up (up (F 2) 12 ((F 2 12) + 1)) 13 ((F 2 13) + (F 2 6))) 6 1)) ((18 + (11 * s)) + 4))), (4, vI (((teF s (up (up (up (F 2) 12 ((F 2 12) + 1)) 13 ((F 2 13) + (F 2 6))) 6 1)) ((18 + (11 * (1 - s))) + 7)) - ((teF s (up (up (up (F 2) 12 ((F 2 12) + 1)) 13 ((F 2 13) + (F 2 6))) 6 1)) ((18 + (11 * (1 - s))) + 8)))), (3, vI (1 - s)), (0, .ref (ad 0)), (1, vI s), (2, vI z)] [vI ((18 + (11 * (1 - s))) + 7), .ref (ad 2)] ((mW (vG X) ad (up F 2 (up (up (up (teF s (up (up (up (F 2) 12 ((F 2 12) + 1)) 13 ((F 2 13) + (F 2 6))) 6 1)) ((18 + (11 * s)) + 9) (((teF s (up (up (up (F 2) 12 ((F 2 12) + 1)) 13 ((F 2 13) + (F 2 6))) 6 1)) ((18 + (11 * s)) + 9)) + 1)) 1 (1 - s)) 2 0))))
          refine v_dup2 C dX8_sendsTurn_175 rfl rfl ?_
          refine v_iald C 2 rfl (by  omega) (by  omega) (by decide) dX8_sendsTurn_176 ?_
          show V X 0 0 177 [(5, vI ((teF s (up (up (up (F 2) 12 ((F 2 12) + 1)) 13 ((F 2 13) + (F 2 6))) 6 1)) ((18 + (11 * s)) + 4))), (4, vI (((teF s (up (up (up (F 2) 12 ((F 2 12) + 1)) 13 ((F 2 13) + (F 2 6))) 6 1)) ((18 + (11 * (1 - s))) + 7)) - ((teF s (up (up (up (F 2) 12 ((F 2 12) + 1)) 13 ((F 2 13) + (F 2 6))) 6 1)) ((18 + (11 * (1 - s))) + 8)))), (3, vI (1 - s)), (0, .ref (ad 0)), (1, vI s), (2, vI z)] [vI ((up (up (up (teF s (up (up (up (F 2) 12 ((F 2 12) + 1)) 13 ((F 2 13) + (F 2 6))) 6 1)) ((18 + (11 * s)) + 9) (((teF s (up (up (up (F 2) 12 ((F 2 12) + 1)) 13 ((F 2 13) + (F 2 6))) 6 1)) ((18 + (11 * s)) + 9)) + 1)) 1 (1 - s)) 2 0) ((18 + (11 * (1 - s))) + 7)), vI ((18 + (11 * (1 - s))) + 7), .ref (ad 2)] ((mW (vG X) ad (up F 2 (up (up (up (teF s (up (up (up (F 2) 12 ((F 2 12) + 1)) 13 ((F 2 13) + (F 2 6))) 6 1)) ((18 + (11 * s)) + 9) (((teF s (up (up (up (F 2) 12 ((F 2 12) + 1)) 13 ((F 2 13) + (F 2 6))) 6 1)) ((18 + (11 * s)) + 9)) + 1)) 1 (1 - s)) 2 0))))
          rw [up_n (show (((18 + (11 * (1 - s))) + 7) : Int) ≠ 2 by omega), up_n (show (((18 + (11 * (1 - s))) + 7) : Int) ≠ 1 by omega), up_n (show (((18 + (11 * (1 - s))) + 7) : Int) ≠ ((18 + (11 * s)) + 9) by omega)]
          refine v_iload C dX8_sendsTurn_177 0 rfl ?_
          refine v_isub C dX8_sendsTurn_179 ?_
          refine v_iast C 2 rfl (by  omega) (by  omega) (by decide) dX8_sendsTurn_180 (ws' := (mW (vG X) ad (up F 2 (up (up (up (up (teF s (up (up (up (F 2) 12 ((F 2 12) + 1)) 13 ((F 2 13) + (F 2 6))) 6 1)) ((18 + (11 * s)) + 9) (((teF s (up (up (up (F 2) 12 ((F 2 12) + 1)) 13 ((F 2 13) + (F 2 6))) 6 1)) ((18 + (11 * s)) + 9)) + 1)) 1 (1 - s)) 2 0) ((18 + (11 * (1 - s))) + 7) (((teF s (up (up (up (F 2) 12 ((F 2 12) + 1)) 13 ((F 2 13) + (F 2 6))) 6 1)) ((18 + (11 * (1 - s))) + 7)) - ((teF s (up (up (up (F 2) 12 ((F 2 12) + 1)) 13 ((F 2 13) + (F 2 6))) 6 1)) ((18 + (11 * s)) + 4))))))) rfl ?_
          refine v_aload_n C dX8_sendsTurn_181 rfl 3 rfl ?_
          refine v_get (v := .ref (ad 2)) C inw_8 0 10 rfl (by decide) (List.mem_cons_of_mem _ mw_105) rfl rfl dX8_sendsTurn_182 ?_
          refine v_iload_n C dX8_sendsTurn_185 rfl 2 rfl ?_
          refine v_iconst C dX8_sendsTurn_186 ?_
          refine v_callS (na := 2) (wy := (Cond.code yX8_at cX8_at 2 (some .int) :: wsL_law)) (wc := []) (wr := (mW (vG X) ad (up F 2 (up (up (up (up (teF s (up (up (up (F 2) 12 ((F 2 12) + 1)) 13 ((F 2 13) + (F 2 6))) 6 1)) ((18 + (11 * s)) + 9) (((teF s (up (up (up (F 2) 12 ((F 2 12) + 1)) 13 ((F 2 13) + (F 2 6))) 6 1)) ((18 + (11 * s)) + 9)) + 1)) 1 (1 - s)) 2 0) ((18 + (11 * (1 - s))) + 7) (((teF s (up (up (up (F 2) 12 ((F 2 12) + 1)) 13 ((F 2 13) + (F 2 6))) 6 1)) ((18 + (11 * (1 - s))) + 7)) - ((teF s (up (up (up (F 2) 12 ((F 2 12) + 1)) 13 ((F 2 13) + (F 2 6))) 6 1)) ((18 + (11 * s)) + 4))))))) C [vI (1 - s), vI 5] [.ref (ad 2)] (c_X8_at _ _ (1 - s) 5 ) rfl (gwS mw_120 mw_118 mw_119 mw_5) (by decide +kernel) rfl rfl Sb.rf rfl rfl dX8_sendsTurn_187 (fun r w1 hp187_20 => ?_)
          obtain ⟨rfl, rfl⟩ := hp187_20
          show V X 0 0 190 [(5, vI ((teF s (up (up (up (F 2) 12 ((F 2 12) + 1)) 13 ((F 2 13) + (F 2 6))) 6 1)) ((18 + (11 * s)) + 4))), (4, vI (((teF s (up (up (up (F 2) 12 ((F 2 12) + 1)) 13 ((F 2 13) + (F 2 6))) 6 1)) ((18 + (11 * (1 - s))) + 7)) - ((teF s (up (up (up (F 2) 12 ((F 2 12) + 1)) 13 ((F 2 13) + (F 2 6))) 6 1)) ((18 + (11 * (1 - s))) + 8)))), (3, vI (1 - s)), (0, .ref (ad 0)), (1, vI s), (2, vI z)] [vI ((18 + (11 * (1 - s))) + 5), .ref (ad 2)] ((mW (vG X) ad (up F 2 (up (up (up (up (teF s (up (up (up (F 2) 12 ((F 2 12) + 1)) 13 ((F 2 13) + (F 2 6))) 6 1)) ((18 + (11 * s)) + 9) (((teF s (up (up (up (F 2) 12 ((F 2 12) + 1)) 13 ((F 2 13) + (F 2 6))) 6 1)) ((18 + (11 * s)) + 9)) + 1)) 1 (1 - s)) 2 0) ((18 + (11 * (1 - s))) + 7) (((teF s (up (up (up (F 2) 12 ((F 2 12) + 1)) 13 ((F 2 13) + (F 2 6))) 6 1)) ((18 + (11 * (1 - s))) + 7)) - ((teF s (up (up (up (F 2) 12 ((F 2 12) + 1)) 13 ((F 2 13) + (F 2 6))) 6 1)) ((18 + (11 * s)) + 4)))))))
          refine v_dup2 C dX8_sendsTurn_190 rfl rfl ?_
          refine v_iald C 2 rfl (by  omega) (by  omega) (by decide) dX8_sendsTurn_191 ?_
          show V X 0 0 192 [(5, vI ((teF s (up (up (up (F 2) 12 ((F 2 12) + 1)) 13 ((F 2 13) + (F 2 6))) 6 1)) ((18 + (11 * s)) + 4))), (4, vI (((teF s (up (up (up (F 2) 12 ((F 2 12) + 1)) 13 ((F 2 13) + (F 2 6))) 6 1)) ((18 + (11 * (1 - s))) + 7)) - ((teF s (up (up (up (F 2) 12 ((F 2 12) + 1)) 13 ((F 2 13) + (F 2 6))) 6 1)) ((18 + (11 * (1 - s))) + 8)))), (3, vI (1 - s)), (0, .ref (ad 0)), (1, vI s), (2, vI z)] [vI ((up (up (up (up (teF s (up (up (up (F 2) 12 ((F 2 12) + 1)) 13 ((F 2 13) + (F 2 6))) 6 1)) ((18 + (11 * s)) + 9) (((teF s (up (up (up (F 2) 12 ((F 2 12) + 1)) 13 ((F 2 13) + (F 2 6))) 6 1)) ((18 + (11 * s)) + 9)) + 1)) 1 (1 - s)) 2 0) ((18 + (11 * (1 - s))) + 7) (((teF s (up (up (up (F 2) 12 ((F 2 12) + 1)) 13 ((F 2 13) + (F 2 6))) 6 1)) ((18 + (11 * (1 - s))) + 7)) - ((teF s (up (up (up (F 2) 12 ((F 2 12) + 1)) 13 ((F 2 13) + (F 2 6))) 6 1)) ((18 + (11 * s)) + 4)))) ((18 + (11 * (1 - s))) + 5)), vI ((18 + (11 * (1 - s))) + 5), .ref (ad 2)] ((mW (vG X) ad (up F 2 (up (up (up (up (teF s (up (up (up (F 2) 12 ((F 2 12) + 1)) 13 ((F 2 13) + (F 2 6))) 6 1)) ((18 + (11 * s)) + 9) (((teF s (up (up (up (F 2) 12 ((F 2 12) + 1)) 13 ((F 2 13) + (F 2 6))) 6 1)) ((18 + (11 * s)) + 9)) + 1)) 1 (1 - s)) 2 0) ((18 + (11 * (1 - s))) + 7) (((teF s (up (up (up (F 2) 12 ((F 2 12) + 1)) 13 ((F 2 13) + (F 2 6))) 6 1)) ((18 + (11 * (1 - s))) + 7)) - ((teF s (up (up (up (F 2) 12 ((F 2 12) + 1)) 13 ((F 2 13) + (F 2 6))) 6 1)) ((18 + (11 * s)) + 4)))))))
          rw [up_n (show (((18 + (11 * (1 - s))) + 5) : Int) ≠ ((18 + (11 * (1 - s))) + 7) by omega), up_n (show (((18 + (11 * (1 - s))) + 5) : Int) ≠ 2 by omega), up_n (show (((18 + (11 * (1 - s))) + 5) : Int) ≠ 1 by omega), up_n (show (((18 + (11 * (1 - s))) + 5) : Int) ≠ ((18 + (11 * s)) + 9) by omega)]
          refine v_iload C dX8_sendsTurn_192 0 rfl ?_
          refine v_iadd C dX8_sendsTurn_194 ?_
          refine v_iast C 2 rfl (by  omega) (by  omega) (by decide) dX8_sendsTurn_195 (ws' := (mW (vG X) ad (up F 2 (up (up (up (up (up (teF s (up (up (up (F 2) 12 ((F 2 12) + 1)) 13 ((F 2 13) + (F 2 6))) 6 1)) ((18 + (11 * s)) + 9) (((teF s (up (up (up (F 2) 12 ((F 2 12) + 1)) 13 ((F 2 13) + (F 2 6))) 6 1)) ((18 + (11 * s)) + 9)) + 1)) 1 (1 - s)) 2 0) ((18 + (11 * (1 - s))) + 7) (((teF s (up (up (up (F 2) 12 ((F 2 12) + 1)) 13 ((F 2 13) + (F 2 6))) 6 1)) ((18 + (11 * (1 - s))) + 7)) - ((teF s (up (up (up (F 2) 12 ((F 2 12) + 1)) 13 ((F 2 13) + (F 2 6))) 6 1)) ((18 + (11 * s)) + 4)))) ((18 + (11 * (1 - s))) + 5) (((teF s (up (up (up (F 2) 12 ((F 2 12) + 1)) 13 ((F 2 13) + (F 2 6))) 6 1)) ((18 + (11 * (1 - s))) + 5)) + ((teF s (up (up (up (F 2) 12 ((F 2 12) + 1)) 13 ((F 2 13) + (F 2 6))) 6 1)) ((18 + (11 * s)) + 4))))))) rfl ?_
          exact v_vret C E rfl dX8_sendsTurn_196 (by decide) (by decide) (⟨rfl, by rw [show (stF s z (F 2)) = (up (up (up (up (up (teF s (up (up (up (F 2) 12 ((F 2 12) + 1)) 13 ((F 2 13) + (F 2 6))) 6 1)) ((18 + (11 * s)) + 9) (((teF s (up (up (up (F 2) 12 ((F 2 12) + 1)) 13 ((F 2 13) + (F 2 6))) 6 1)) ((18 + (11 * s)) + 9)) + 1)) 1 (1 - s)) 2 0) ((18 + (11 * (1 - s))) + 7) (((teF s (up (up (up (F 2) 12 ((F 2 12) + 1)) 13 ((F 2 13) + (F 2 6))) 6 1)) ((18 + (11 * (1 - s))) + 7)) - ((teF s (up (up (up (F 2) 12 ((F 2 12) + 1)) 13 ((F 2 13) + (F 2 6))) 6 1)) ((18 + (11 * s)) + 4)))) ((18 + (11 * (1 - s))) + 5) (((teF s (up (up (up (F 2) 12 ((F 2 12) + 1)) 13 ((F 2 13) + (F 2 6))) 6 1)) ((18 + (11 * (1 - s))) + 5)) + ((teF s (up (up (up (F 2) 12 ((F 2 12) + 1)) 13 ((F 2 13) + (F 2 6))) 6 1)) ((18 + (11 * s)) + 4)))) from ((if_neg c39).trans ((if_pos c49).trans ((if_neg c143).trans (if_pos c161))))]⟩)
        · skip
          exact v_vret C E rfl dX8_sendsTurn_164 (by decide) (by decide) (⟨rfl, by rw [show (stF s z (F 2)) = (up (up (up (teF s (up (up (up (F 2) 12 ((F 2 12) + 1)) 13 ((F 2 13) + (F 2 6))) 6 1)) ((18 + (11 * s)) + 9) (((teF s (up (up (up (F 2) 12 ((F 2 12) + 1)) 13 ((F 2 13) + (F 2 6))) 6 1)) ((18 + (11 * s)) + 9)) + 1)) 1 (1 - s)) 2 0) from ((if_neg c39).trans ((if_pos c49).trans ((if_neg c143).trans (if_neg c161))))]⟩)
    · skip
      refine v_aload_n C dX8_sendsTurn_52 rfl 1 rfl ?_
      refine v_get (v := .ref (ad 2)) C inw_8 0 10 rfl (by decide) (List.mem_cons_of_mem _ mw_105) rfl rfl dX8_sendsTurn_53 ?_
      refine v_iconst C dX8_sendsTurn_56 ?_
      refine v_dup2 C dX8_sendsTurn_57 rfl rfl ?_
      refine v_iald C 2 rfl (by decide) (by decide) (by decide) dX8_sendsTurn_58 ?_
      show V X 0 0 59 [(3, vI (1 - s)), (0, .ref (ad 0)), (1, vI s), (2, vI z)] [vI ((up (up (up (F 2) 12 ((F 2 12) + 1)) 13 ((F 2 13) + (F 2 6))) 6 1) 0), vI 0, .ref (ad 2)] ((mW (vG X) ad (up F 2 (up (up (up (F 2) 12 ((F 2 12) + 1)) 13 ((F 2 13) + (F 2 6))) 6 1))))
      rw [up_n (show (0 : Int) ≠ 6 by decide), up_n (show (0 : Int) ≠ 13 by decide), up_n (show (0 : Int) ≠ 12 by decide)]
      refine v_aload_n C dX8_sendsTurn_59 rfl 1 rfl ?_
      refine v_get (v := .ref (ad 2)) C inw_8 0 10 rfl (by decide) (List.mem_cons_of_mem _ mw_105) rfl rfl dX8_sendsTurn_60 ?_
      refine v_iconst C dX8_sendsTurn_63 ?_
      refine v_iald C 2 rfl (by decide) (by decide) (by decide) dX8_sendsTurn_64 ?_
      show V X 0 0 65 [(3, vI (1 - s)), (0, .ref (ad 0)), (1, vI s), (2, vI z)] [vI ((up (up (up (F 2) 12 ((F 2 12) + 1)) 13 ((F 2 13) + (F 2 6))) 6 1) 5), vI (F 2 0), vI 0, .ref (ad 2)] ((mW (vG X) ad (up F 2 (up (up (up (F 2) 12 ((F 2 12) + 1)) 13 ((F 2 13) + (F 2 6))) 6 1))))
      rw [up_n (show (5 : Int) ≠ 6 by decide), up_n (show (5 : Int) ≠ 13 by decide), up_n (show (5 : Int) ≠ 12 by decide)]
      refine v_iadd C dX8_sendsTurn_65 ?_
      refine v_iast C 2 rfl (by decide) (by decide) (by decide) dX8_sendsTurn_66 (ws' := (mW (vG X) ad (up F 2 (up (up (up (up (F 2) 12 ((F 2 12) + 1)) 13 ((F 2 13) + (F 2 6))) 6 1) 0 ((F 2 0) + (F 2 5)))))) rfl ?_
      refine v_aload_n C dX8_sendsTurn_67 rfl 1 rfl ?_
      refine v_get (v := .ref (ad 2)) C inw_8 0 10 rfl (by decide) (List.mem_cons_of_mem _ mw_105) rfl rfl dX8_sendsTurn_68 ?_
      refine v_bipush C dX8_sendsTurn_71 (by decide +kernel) ?_
      refine v_dup2 C dX8_sendsTurn_73 rfl rfl ?_
      refine v_iald C 2 rfl (by decide) (by decide) (by decide) dX8_sendsTurn_74 ?_
      show V X 0 0 75 [(3, vI (1 - s)), (0, .ref (ad 0)), (1, vI s), (2, vI z)] [vI ((up (up (up (up (F 2) 12 ((F 2 12) + 1)) 13 ((F 2 13) + (F 2 6))) 6 1) 0 ((F 2 0) + (F 2 5))) 16), vI 16, .ref (ad 2)] ((mW (vG X) ad (up F 2 (up (up (up (up (F 2) 12 ((F 2 12) + 1)) 13 ((F 2 13) + (F 2 6))) 6 1) 0 ((F 2 0) + (F 2 5))))))
      rw [up_n (show (16 : Int) ≠ 0 by decide), up_n (show (16 : Int) ≠ 6 by decide), up_n (show (16 : Int) ≠ 13 by decide), up_n (show (16 : Int) ≠ 12 by decide)]
      refine v_aload_n C dX8_sendsTurn_75 rfl 1 rfl ?_
      refine v_get (v := .ref (ad 2)) C inw_8 0 10 rfl (by decide) (List.mem_cons_of_mem _ mw_105) rfl rfl dX8_sendsTurn_76 ?_
      refine v_iconst C dX8_sendsTurn_79 ?_
      refine v_iald C 2 rfl (by decide) (by decide) (by decide) dX8_sendsTurn_80 ?_
      show V X 0 0 81 [(3, vI (1 - s)), (0, .ref (ad 0)), (1, vI s), (2, vI z)] [vI ((up (up (up (up (F 2) 12 ((F 2 12) + 1)) 13 ((F 2 13) + (F 2 6))) 6 1) 0 ((F 2 0) + (F 2 5))) 5), vI (F 2 16), vI 16, .ref (ad 2)] ((mW (vG X) ad (up F 2 (up (up (up (up (F 2) 12 ((F 2 12) + 1)) 13 ((F 2 13) + (F 2 6))) 6 1) 0 ((F 2 0) + (F 2 5))))))
      rw [up_n (show (5 : Int) ≠ 0 by decide), up_n (show (5 : Int) ≠ 6 by decide), up_n (show (5 : Int) ≠ 13 by decide), up_n (show (5 : Int) ≠ 12 by decide)]
      refine v_iadd C dX8_sendsTurn_81 ?_
      refine v_iast C 2 rfl (by decide) (by decide) (by decide) dX8_sendsTurn_82 (ws' := (mW (vG X) ad (up F 2 (up (up (up (up (up (F 2) 12 ((F 2 12) + 1)) 13 ((F 2 13) + (F 2 6))) 6 1) 0 ((F 2 0) + (F 2 5))) 16 ((F 2 16) + (F 2 5)))))) rfl ?_
      exact v_vret C E rfl dX8_sendsTurn_83 (by decide) (by decide) (⟨rfl, by rw [show (stF s z (F 2)) = (up (up (up (up (up (F 2) 12 ((F 2 12) + 1)) 13 ((F 2 13) + (F 2 6))) 6 1) 0 ((F 2 0) + (F 2 5))) 16 ((F 2 16) + (F 2 5))) from ((if_neg c39).trans (if_neg c49))]⟩)
set_option maxHeartbeats 4000000 in
set_option maxRecDepth 100000 in
theorem c_X8_readsAll (G : GG) (l : Launch) (ad : Nat → Nat) (F : Int → Int → Int)  : Ct G l yX8_readsAll (Cond.code yX8_readsAll cX8_readsAll 2 none :: wsL_law) 2 43 0 0 [.ref (ad 0)] ((mW G ad F)) (fun r w => r = none ∧ w = mW G ad (up F 2 (rdF (F 2)))) := by
  refine Ct.of (own := RX8) (cc := cX8_readsAll) (maxL := 2) (ret := none) (by decide) rfl rfl (Nat.le_of_ble_eq_true rfl) (fun X C E M hG hl => ?_)
  subst hG hl
  refine v_iconst C dX8_readsAll_0 ?_
  refine v_istore_n C M dX8_readsAll_1 rfl (by decide) (L' := [(1, vI 0), (0, .ref (ad 0))]) rfl ?_
  refine v_iload_n C dX8_readsAll_2 rfl 0 rfl ?_
  refine v_iconst C dX8_readsAll_3 ?_
  refine v_icmp_ge (tgt := 29) C dX8_readsAll_4 (by decide) (by decide) (by decide) (fun c => absurd c (by decide)) (fun _ => ?_)
  refine v_aload_n C dX8_readsAll_7 rfl 1 rfl ?_
  refine v_get (v := .ref (ad 2)) C inw_8 0 10 rfl (by decide) (List.mem_cons_of_mem _ mw_105) rfl rfl dX8_readsAll_8 ?_
  refine v_iload_n C dX8_readsAll_11 rfl 0 rfl ?_
  refine v_iconst C dX8_readsAll_12 ?_
  refine v_callS (na := 2) (wy := (Cond.code yX8_at cX8_at 2 (some .int) :: wsL_law)) (wc := []) (wr := (mW (vG X) ad F)) C [vI 0, vI 2] [.ref (ad 2)] (c_X8_at _ _ 0 2 ) rfl (gwS mw_120 mw_118 mw_119 mw_5) (by decide +kernel) rfl rfl Sb.rf rfl rfl dX8_readsAll_13 (fun r w1 hp13_1 => ?_)
  obtain ⟨rfl, rfl⟩ := hp13_1
  show V X 0 0 16 [(1, vI 0), (0, .ref (ad 0))] [vI 20, .ref (ad 2)] ((mW (vG X) ad F))
  refine v_aload_n C dX8_readsAll_16 rfl 1 rfl ?_
  refine v_iload_n C dX8_readsAll_17 rfl 0 rfl ?_
  refine v_iconst C dX8_readsAll_18 ?_
  refine v_callV (na := 2) (wy := (Cond.code yX8_of cX8_of 3 (some .int) :: wsL_law)) (wc := (mW (vG X) ad F)) (wr := []) C [vI 0, vI 1] [vI 20, .ref (ad 2)] (c_X8_of _ _ ad F 0 1 (by decide) (by decide)) rfl (gwV mw_129 mw_126 mw_127 mw_128 mw_5) rfl (by decide +kernel) 0 rfl rfl rfl rfl Sb.w rfl rfl dX8_readsAll_19 (fun r w1 hp19_2 => ?_)
  obtain ⟨rfl, rfl⟩ := hp19_2
  show V X 0 0 22 [(1, vI 0), (0, .ref (ad 0))] [vI (F 2 19), vI 20, .ref (ad 2)] ((mW (vG X) ad F))
  refine v_iast C 2 rfl (by decide) (by decide) (by decide) dX8_readsAll_22 (ws' := (mW (vG X) ad (up F 2 (up (F 2) 20 (F 2 19))))) rfl ?_
  refine v_iinc C M dX8_readsAll_23 0 rfl (by decide) (z' := 1) rfl (L' := [(1, vI 1), (0, .ref (ad 0))]) rfl ?_
  refine v_goto (tgt := 2) C dX8_readsAll_26 (by decide) ?_
  refine v_iload_n C dX8_readsAll_2 rfl 0 rfl ?_
  refine v_iconst C dX8_readsAll_3 ?_
  refine v_icmp_ge (tgt := 29) C dX8_readsAll_4 (by decide) (by decide) (by decide) (fun c => absurd c (by decide)) (fun _ => ?_)
  refine v_aload_n C dX8_readsAll_7 rfl 1 rfl ?_
  refine v_get (v := .ref (ad 2)) C inw_8 0 10 rfl (by decide) (List.mem_cons_of_mem _ mw_105) rfl rfl dX8_readsAll_8 ?_
  refine v_iload_n C dX8_readsAll_11 rfl 0 rfl ?_
  refine v_iconst C dX8_readsAll_12 ?_
  refine v_callS (na := 2) (wy := (Cond.code yX8_at cX8_at 2 (some .int) :: wsL_law)) (wc := []) (wr := (mW (vG X) ad (up F 2 (up (F 2) 20 (F 2 19))))) C [vI 1, vI 2] [.ref (ad 2)] (c_X8_at _ _ 1 2 ) rfl (gwS mw_120 mw_118 mw_119 mw_5) (by decide +kernel) rfl rfl Sb.rf rfl rfl dX8_readsAll_13 (fun r w1 hp13_3 => ?_)
  obtain ⟨rfl, rfl⟩ := hp13_3
  show V X 0 0 16 [(1, vI 1), (0, .ref (ad 0))] [vI 31, .ref (ad 2)] ((mW (vG X) ad (up F 2 (up (F 2) 20 (F 2 19)))))
  refine v_aload_n C dX8_readsAll_16 rfl 1 rfl ?_
  refine v_iload_n C dX8_readsAll_17 rfl 0 rfl ?_
  refine v_iconst C dX8_readsAll_18 ?_
  refine v_callV (na := 2) (wy := (Cond.code yX8_of cX8_of 3 (some .int) :: wsL_law)) (wc := (mW (vG X) ad (up F 2 (up (F 2) 20 (F 2 19))))) (wr := []) C [vI 1, vI 1] [vI 31, .ref (ad 2)] (c_X8_of _ _ ad (up F 2 (up (F 2) 20 (F 2 19))) 1 1 (by decide) (by decide)) rfl (gwV mw_129 mw_126 mw_127 mw_128 mw_5) rfl (by decide +kernel) 0 rfl rfl rfl rfl Sb.w rfl rfl dX8_readsAll_19 (fun r w1 hp19_4 => ?_)
  obtain ⟨rfl, rfl⟩ := hp19_4
  show V X 0 0 22 [(1, vI 1), (0, .ref (ad 0))] [vI ((up (F 2) 20 (F 2 19)) 30), vI 31, .ref (ad 2)] ((mW (vG X) ad (up F 2 (up (F 2) 20 (F 2 19)))))
  rw [up_n (show (30 : Int) ≠ 20 by decide)]
  refine v_iast C 2 rfl (by decide) (by decide) (by decide) dX8_readsAll_22 (ws' := (mW (vG X) ad (up F 2 (up (up (F 2) 20 (F 2 19)) 31 (F 2 30))))) rfl ?_
  refine v_iinc C M dX8_readsAll_23 0 rfl (by decide) (z' := 2) rfl (L' := [(1, vI 2), (0, .ref (ad 0))]) rfl ?_
  refine v_goto (tgt := 2) C dX8_readsAll_26 (by decide) ?_
  refine v_iload_n C dX8_readsAll_2 rfl 0 rfl ?_
  refine v_iconst C dX8_readsAll_3 ?_
  refine v_icmp_ge (tgt := 29) C dX8_readsAll_4 (by decide) (by decide) (by decide) (fun _ => ?_) (fun c => absurd (by decide) c)
  exact v_vret C E rfl dX8_readsAll_29 (by decide) (by decide) (⟨rfl, by rw [show (rdF (F 2)) = (up (up (F 2) 20 (F 2 19)) 31 (F 2 30)) from rfl]⟩)
end M1
