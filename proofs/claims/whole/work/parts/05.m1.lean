section M1
set_option maxHeartbeats 4000000 in
set_option maxRecDepth 100000 in
theorem c_X8_at (G : GG) (l : Launch) (s q : Int)  : Ct G l yX8_at (Cond.code yX8_at cX8_at 2 (some .int) :: wsL_law) 0 0 0 0 [vI s, vI q] ([]) (fun r w => r = some (vI ((18 + (11 * s)) + q)) ∧ w = []) := by
  refine Ct.of (own := RX8) (cc := cX8_at) (maxL := 2) (ret := (some .int)) (by decide) rfl rfl (Nat.le_of_ble_eq_true rfl) (fun X C E M hG hl => ?_)
  subst hG hl
  refine v_bipush C dX8_at_0 (by decide +kernel) ?_
  refine v_bipush C dX8_at_2 (by decide +kernel) ?_
  refine v_iload_n C dX8_at_4 rfl 0 rfl ?_
  refine v_imul C dX8_at_5 ?_
  refine v_iadd C dX8_at_6 ?_
  refine v_iload_n C dX8_at_7 rfl 1 rfl ?_
  refine v_iadd C dX8_at_8 ?_
  exact v_iret C E rfl dX8_at_9 (by decide) (by decide) (⟨rfl, rfl⟩)
set_option maxHeartbeats 4000000 in
set_option maxRecDepth 100000 in
theorem c_X8_lengthAt (G : GG) (l : Launch) (s q : Int)  : Ct G l yX8_lengthAt (Cond.code yX8_lengthAt cX8_lengthAt 2 (some .int) :: wsL_law) 0 0 0 0 [vI s, vI q] ([]) (fun r w => r = some (vI ((40 + (20 * s)) + q)) ∧ w = []) := by
  refine Ct.of (own := RX8) (cc := cX8_lengthAt) (maxL := 2) (ret := (some .int)) (by decide) rfl rfl (Nat.le_of_ble_eq_true rfl) (fun X C E M hG hl => ?_)
  subst hG hl
  refine v_bipush C dX8_lengthAt_0 (by decide +kernel) ?_
  refine v_bipush C dX8_lengthAt_2 (by decide +kernel) ?_
  refine v_iload_n C dX8_lengthAt_4 rfl 0 rfl ?_
  refine v_imul C dX8_lengthAt_5 ?_
  refine v_iadd C dX8_lengthAt_6 ?_
  refine v_iload_n C dX8_lengthAt_7 rfl 1 rfl ?_
  refine v_iadd C dX8_lengthAt_8 ?_
  exact v_iret C E rfl dX8_lengthAt_9 (by decide) (by decide) (⟨rfl, rfl⟩)
set_option maxHeartbeats 4000000 in
set_option maxRecDepth 100000 in
theorem c_X8_byteOf (G : GG) (l : Launch) (s q j : Int)  : Ct G l yX8_byteOf (Cond.code yX8_byteOf cX8_byteOf 3 (some .int) :: wsL_law) 0 0 0 0 [vI s, vI q, vI j] ([]) (fun r w => r = some (vI ((80 + (8 * ((20 * s) + q))) + j)) ∧ w = []) := by
  refine Ct.of (own := RX8) (cc := cX8_byteOf) (maxL := 3) (ret := (some .int)) (by decide) rfl rfl (Nat.le_of_ble_eq_true rfl) (fun X C E M hG hl => ?_)
  subst hG hl
  refine v_bipush C dX8_byteOf_0 (by decide +kernel) ?_
  refine v_bipush C dX8_byteOf_2 (by decide +kernel) ?_
  refine v_bipush C dX8_byteOf_4 (by decide +kernel) ?_
  refine v_iload_n C dX8_byteOf_6 rfl 0 rfl ?_
  refine v_imul C dX8_byteOf_7 ?_
  refine v_iload_n C dX8_byteOf_8 rfl 1 rfl ?_
  refine v_iadd C dX8_byteOf_9 ?_
  refine v_imul C dX8_byteOf_10 ?_
  refine v_iadd C dX8_byteOf_11 ?_
  refine v_iload_n C dX8_byteOf_12 rfl 2 rfl ?_
  refine v_iadd C dX8_byteOf_13 ?_
  exact v_iret C E rfl dX8_byteOf_14 (by decide) (by decide) (⟨rfl, rfl⟩)
set_option maxHeartbeats 4000000 in
set_option maxRecDepth 100000 in
theorem c_X8_within (G : GG) (l : Launch) (v lo hi : Int) (h1 : sm v) (h2 : sm lo) (h3 : sm hi) : Ct G l yX8_within (Cond.code yX8_within cX8_within 3 (some .boolean) :: wsL_law) 0 0 0 0 [vI v, vI lo, vI hi] ([]) (fun r w => r = some (vI (bI (lo ≤ v ∧ v ≤ hi))) ∧ w = []) := by
  refine Ct.of (own := RX8) (cc := cX8_within) (maxL := 3) (ret := (some .boolean)) (by decide) rfl rfl (Nat.le_of_ble_eq_true rfl) (fun X C E M hG hl => ?_)
  subst hG hl
  refine v_iload_n C dX8_within_0 rfl 0 rfl ?_
  refine v_iload_n C dX8_within_1 rfl 1 rfl ?_
  refine v_icmp_lt (tgt := 14) C dX8_within_2 (by decide) (by  first | assumption | exact ⟨by omega, by omega⟩) (by  first | assumption | exact ⟨by omega, by omega⟩) (fun c2 => ?_) (fun c2 => ?_)
  · refine v_iconst C dX8_within_14 ?_
    exact v_zret C E rfl rfl dX8_within_15 (by decide) (by decide) (⟨by rw [bI_f (by omega)], rfl⟩)
  · refine v_iload_n C dX8_within_5 rfl 0 rfl ?_
    refine v_iload_n C dX8_within_6 rfl 2 rfl ?_
    refine v_icmp_gt (tgt := 14) C dX8_within_7 (by decide) (by  first | assumption | exact ⟨by omega, by omega⟩) (by  first | assumption | exact ⟨by omega, by omega⟩) (fun c7 => ?_) (fun c7 => ?_)
    · refine v_iconst C dX8_within_14 ?_
      exact v_zret C E rfl rfl dX8_within_15 (by decide) (by decide) (⟨by rw [bI_f (by omega)], rfl⟩)
    · refine v_iconst C dX8_within_10 ?_
      refine v_goto (tgt := 15) C dX8_within_11 (by decide) ?_
      exact v_zret C E rfl rfl dX8_within_15 (by decide) (by decide) (⟨by rw [bI_t (by omega)], rfl⟩)
set_option maxHeartbeats 4000000 in
set_option maxRecDepth 100000 in
theorem c_X8_isStation (G : GG) (l : Launch) (s : Int) (h1 : sm s) : Ct G l yX8_isStation (Cond.code yX8_isStation cX8_isStation 1 (some .boolean) :: wsL_law) 1 22 0 0 [vI s] ([]) (fun r w => r = some (vI (bI (0 ≤ s ∧ s ≤ 1))) ∧ w = []) := by
  refine Ct.of (own := RX8) (cc := cX8_isStation) (maxL := 1) (ret := (some .boolean)) (by decide) rfl rfl (Nat.le_of_ble_eq_true rfl) (fun X C E M hG hl => ?_)
  subst hG hl
  refine v_iload_n C dX8_isStation_0 rfl 0 rfl ?_
  refine v_iconst C dX8_isStation_1 ?_
  refine v_iconst C dX8_isStation_2 ?_
  refine v_callS (na := 3) (wy := (Cond.code yX8_within cX8_within 3 (some .boolean) :: wsL_law)) (wc := []) (wr := []) C [vI s, vI 0, vI 1] [] (c_X8_within _ _ s 0 1 (by first | assumption | exact ⟨by omega, by omega⟩) (by decide) (by decide)) rfl (gwS mw_343 mw_341 mw_342 mw_5) (by decide +kernel) rfl rfl Sb.w rfl rfl dX8_isStation_3 (fun r w1 hp3_1 => ?_)
  obtain ⟨rfl, rfl⟩ := hp3_1
  show V X 0 0 6 [(0, vI s)] [vI (bI (0 ≤ s ∧ s ≤ 1))] ([])
  exact v_zret C E rfl nb_bI dX8_isStation_6 (by decide) (by decide) (⟨rfl, rfl⟩)
set_option maxHeartbeats 4000000 in
set_option maxRecDepth 100000 in
theorem c_X8_of (G : GG) (l : Launch) (ad : Nat → Nat) (F : Int → Int → Int) (s q : Int) (h0 : 0 ≤ 18 + 11 * s + q) (h1 : 18 + 11 * s + q < 441) : Ct G l yX8_of (Cond.code yX8_of cX8_of 3 (some .int) :: wsL_law) 1 21 0 0 [.ref (ad 0), vI s, vI q] ((mW G ad F)) (fun r w => r = some (vI (F 2 ((18 + (11 * s)) + q))) ∧ w = (mW G ad F)) := by
  refine Ct.of (own := RX8) (cc := cX8_of) (maxL := 3) (ret := (some .int)) (by decide) rfl rfl (Nat.le_of_ble_eq_true rfl) (fun X C E M hG hl => ?_)
  subst hG hl
  refine v_aload_n C dX8_of_0 rfl 0 rfl ?_
  refine v_get (v := .ref (ad 2)) C inw_8 0 10 rfl (by decide) (List.mem_cons_of_mem _ mw_105) rfl rfl dX8_of_1 ?_
  refine v_iload_n C dX8_of_4 rfl 1 rfl ?_
  refine v_iload_n C dX8_of_5 rfl 2 rfl ?_
  refine v_callS (na := 2) (wy := (Cond.code yX8_at cX8_at 2 (some .int) :: wsL_law)) (wc := []) (wr := (mW (vG X) ad F)) C [vI s, vI q] [.ref (ad 2)] (c_X8_at _ _ s q ) rfl (gwS mw_120 mw_118 mw_119 mw_5) (by decide +kernel) rfl rfl Sb.rf rfl rfl dX8_of_6 (fun r w1 hp6_1 => ?_)
  obtain ⟨rfl, rfl⟩ := hp6_1
  show V X 0 0 9 [(0, .ref (ad 0)), (1, vI s), (2, vI q)] [vI ((18 + (11 * s)) + q), .ref (ad 2)] ((mW (vG X) ad F))
  refine v_iald C 2 rfl (by  omega) (by  omega) (by decide) dX8_of_9 ?_
  exact v_iret C E rfl dX8_of_10 (by decide) (by decide) (⟨rfl, rfl⟩)
set_option maxHeartbeats 4000000 in
set_option maxRecDepth 100000 in
theorem c_X8_limitOf (G : GG) (l : Launch) (ad : Nat → Nat) (F : Int → Int → Int) (s : Int) (h0 : s = 0 ∨ s = 1) : Ct G l yX8_limitOf (Cond.code yX8_limitOf cX8_limitOf 2 (some .int) :: wsL_law) 2 43 0 0 [.ref (ad 0), vI s] ((mW G ad F)) (fun r w => r = some (vI ((F 2 ((18 + (11 * s)) + 2)) + (F 2 ((18 + (11 * s)) + 3)))) ∧ w = (mW G ad F)) := by
  refine Ct.of (own := RX8) (cc := cX8_limitOf) (maxL := 2) (ret := (some .int)) (by decide) rfl rfl (Nat.le_of_ble_eq_true rfl) (fun X C E M hG hl => ?_)
  subst hG hl
  refine v_aload_n C dX8_limitOf_0 rfl 0 rfl ?_
  refine v_iload_n C dX8_limitOf_1 rfl 1 rfl ?_
  refine v_iconst C dX8_limitOf_2 ?_
  refine v_callV (na := 2) (wy := (Cond.code yX8_of cX8_of 3 (some .int) :: wsL_law)) (wc := (mW (vG X) ad F)) (wr := []) C [vI s, vI 2] [] (c_X8_of _ _ ad F s 2 (by omega) (by omega)) rfl (gwV mw_129 mw_126 mw_127 mw_128 mw_5) rfl (by decide +kernel) 0 rfl rfl rfl rfl Sb.w rfl rfl dX8_limitOf_3 (fun r w1 hp3_1 => ?_)
  obtain ⟨rfl, rfl⟩ := hp3_1
  show V X 0 0 6 [(0, .ref (ad 0)), (1, vI s)] [vI (F 2 ((18 + (11 * s)) + 2))] ((mW (vG X) ad F))
  refine v_aload_n C dX8_limitOf_6 rfl 0 rfl ?_
  refine v_iload_n C dX8_limitOf_7 rfl 1 rfl ?_
  refine v_iconst C dX8_limitOf_8 ?_
  refine v_callV (na := 2) (wy := (Cond.code yX8_of cX8_of 3 (some .int) :: wsL_law)) (wc := (mW (vG X) ad F)) (wr := []) C [vI s, vI 3] [vI (F 2 ((18 + (11 * s)) + 2))] (c_X8_of _ _ ad F s 3 (by omega) (by omega)) rfl (gwV mw_129 mw_126 mw_127 mw_128 mw_5) rfl (by decide +kernel) 0 rfl rfl rfl rfl Sb.w rfl rfl dX8_limitOf_9 (fun r w1 hp9_2 => ?_)
  obtain ⟨rfl, rfl⟩ := hp9_2
  show V X 0 0 12 [(0, .ref (ad 0)), (1, vI s)] [vI (F 2 ((18 + (11 * s)) + 3)), vI (F 2 ((18 + (11 * s)) + 2))] ((mW (vG X) ad F))
  refine v_iadd C dX8_limitOf_12 ?_
  exact v_iret C E rfl dX8_limitOf_13 (by decide) (by decide) (⟨rfl, rfl⟩)
set_option maxHeartbeats 4000000 in
set_option maxRecDepth 100000 in
theorem c_X8_nextMessage (G : GG) (l : Launch) (ad : Nat → Nat) (F : Int → Int → Int) (hT : F 2 1 = 0 ∨ F 2 1 = 1) : Ct G l yX8_nextMessage (Cond.code yX8_nextMessage cX8_nextMessage 1 (some .int) :: wsL_law) 2 43 0 0 [.ref (ad 0)] ((mW G ad F)) (fun r w => r = some (vI ((F 2 ((18 + (11 * (F 2 1))) + 6)) + (F 2 2))) ∧ w = (mW G ad F)) := by
  refine Ct.of (own := RX8) (cc := cX8_nextMessage) (maxL := 1) (ret := (some .int)) (by decide) rfl rfl (Nat.le_of_ble_eq_true rfl) (fun X C E M hG hl => ?_)
  subst hG hl
  refine v_aload_n C dX8_nextMessage_0 rfl 0 rfl ?_
  refine v_aload_n C dX8_nextMessage_1 rfl 0 rfl ?_
  refine v_get (v := .ref (ad 2)) C inw_8 0 10 rfl (by decide) (List.mem_cons_of_mem _ mw_105) rfl rfl dX8_nextMessage_2 ?_
  refine v_iconst C dX8_nextMessage_5 ?_
  refine v_iald C 2 rfl (by decide) (by decide) (by decide) dX8_nextMessage_6 ?_
  refine v_bipush C dX8_nextMessage_7 (by decide +kernel) ?_
  refine v_callV (na := 2) (wy := (Cond.code yX8_of cX8_of 3 (some .int) :: wsL_law)) (wc := (mW (vG X) ad F)) (wr := []) C [vI (F 2 1), vI 6] [] (c_X8_of _ _ ad F (F 2 1) 6 (by omega) (by omega)) rfl (gwV mw_129 mw_126 mw_127 mw_128 mw_5) rfl (by decide +kernel) 0 rfl rfl rfl rfl Sb.w rfl rfl dX8_nextMessage_9 (fun r w1 hp9_1 => ?_)
  obtain ⟨rfl, rfl⟩ := hp9_1
  show V X 0 0 12 [(0, .ref (ad 0))] [vI (F 2 ((18 + (11 * (F 2 1))) + 6))] ((mW (vG X) ad F))
  refine v_aload_n C dX8_nextMessage_12 rfl 0 rfl ?_
  refine v_get (v := .ref (ad 2)) C inw_8 0 10 rfl (by decide) (List.mem_cons_of_mem _ mw_105) rfl rfl dX8_nextMessage_13 ?_
  refine v_iconst C dX8_nextMessage_16 ?_
  refine v_iald C 2 rfl (by decide) (by decide) (by decide) dX8_nextMessage_17 ?_
  refine v_iadd C dX8_nextMessage_18 ?_
  exact v_iret C E rfl dX8_nextMessage_19 (by decide) (by decide) (⟨rfl, rfl⟩)
set_option maxHeartbeats 4000000 in
set_option maxRecDepth 100000 in
theorem c_X8_isData (G : GG) (l : Launch) (ad : Nat → Nat) (F : Int → Int → Int) (hT : F 2 1 = 0 ∨ F 2 1 = 1) (hB : sB 1073741824 (F 2)) : Ct G l yX8_isData (Cond.code yX8_isData cX8_isData 2 (some .boolean) :: wsL_law) 3 63 0 0 [.ref (ad 0)] ((mW G ad F)) (fun r w => r = some (vI (bI (isDataP (F 2)))) ∧ w = (mW G ad F)) := by
  refine Ct.of (own := RX8) (cc := cX8_isData) (maxL := 2) (ret := (some .boolean)) (by decide) rfl rfl (Nat.le_of_ble_eq_true rfl) (fun X C E M hG hl => ?_)
  subst hG hl
  refine v_aload_n C dX8_isData_0 rfl 0 rfl ?_
  refine v_get (v := .ref (ad 2)) C inw_8 0 10 rfl (by decide) (List.mem_cons_of_mem _ mw_105) rfl rfl dX8_isData_1 ?_
  refine v_iconst C dX8_isData_4 ?_
  refine v_iald C 2 rfl (by decide) (by decide) (by decide) dX8_isData_5 ?_
  refine v_istore_n C M dX8_isData_6 rfl (by decide) (L' := [(1, vI (F 2 1)), (0, .ref (ad 0))]) rfl ?_
  refine v_aload_n C dX8_isData_7 rfl 1 rfl ?_
  refine v_get (v := .ref (ad 2)) C inw_8 0 10 rfl (by decide) (List.mem_cons_of_mem _ mw_105) rfl rfl dX8_isData_8 ?_
  refine v_bipush C dX8_isData_11 (by decide +kernel) ?_
  refine v_iald C 2 rfl (by decide) (by decide) (by decide) dX8_isData_13 ?_
  refine v_if_ne (tgt := 63) C dX8_isData_14 (by decide) (by have := hB 6; first | assumption | exact ⟨by omega, by omega⟩) (fun c14 => ?_) (fun c14 => ?_)
  · refine v_iconst C dX8_isData_63 ?_
    exact v_zret C E rfl rfl dX8_isData_64 (by decide) (by decide) (⟨by rw [bI_f (by omega)], rfl⟩)
  · refine v_aload_n C dX8_isData_17 rfl 1 rfl ?_
    refine v_get (v := .ref (ad 2)) C inw_8 0 10 rfl (by decide) (List.mem_cons_of_mem _ mw_105) rfl rfl dX8_isData_18 ?_
    refine v_iconst C dX8_isData_21 ?_
    refine v_iald C 2 rfl (by decide) (by decide) (by decide) dX8_isData_22 ?_
    refine v_aload_n C dX8_isData_23 rfl 1 rfl ?_
    refine v_get (v := .ref (ad 2)) C inw_8 0 10 rfl (by decide) (List.mem_cons_of_mem _ mw_105) rfl rfl dX8_isData_24 ?_
    refine v_iconst C dX8_isData_27 ?_
    refine v_iald C 2 rfl (by decide) (by decide) (by decide) dX8_isData_28 ?_
    refine v_icmp_ge (tgt := 63) C dX8_isData_29 (by decide) (by have := hB 2; first | assumption | exact ⟨by omega, by omega⟩) (by have := hB 4; first | assumption | exact ⟨by omega, by omega⟩) (fun c29 => ?_) (fun c29 => ?_)
    · refine v_iconst C dX8_isData_63 ?_
      exact v_zret C E rfl rfl dX8_isData_64 (by decide) (by decide) (⟨by rw [bI_f (by omega)], rfl⟩)
    · refine v_aload_n C dX8_isData_32 rfl 1 rfl ?_
      refine v_callV (na := 0) (wy := (Cond.code yX8_nextMessage cX8_nextMessage 1 (some .int) :: wsL_law)) (wc := (mW (vG X) ad F)) (wr := []) C [] [] (c_X8_nextMessage _ _ ad F hT) rfl (gwV mw_552 mw_549 mw_550 mw_551 mw_5) rfl (by decide +kernel) 0 rfl rfl rfl rfl Sb.w rfl rfl dX8_isData_33 (fun r w1 hp33_1 => ?_)
      obtain ⟨rfl, rfl⟩ := hp33_1
      show V X 0 0 36 [(1, vI (F 2 1)), (0, .ref (ad 0))] [vI ((F 2 ((18 + (11 * (F 2 1))) + 6)) + (F 2 2))] ((mW (vG X) ad F))
      refine v_aload_n C dX8_isData_36 rfl 1 rfl ?_
      refine v_iload_n C dX8_isData_37 rfl 0 rfl ?_
      refine v_iconst C dX8_isData_38 ?_
      refine v_callV (na := 2) (wy := (Cond.code yX8_of cX8_of 3 (some .int) :: wsL_law)) (wc := (mW (vG X) ad F)) (wr := []) C [vI (F 2 1), vI 0] [vI ((F 2 ((18 + (11 * (F 2 1))) + 6)) + (F 2 2))] (c_X8_of _ _ ad F (F 2 1) 0 (by have := hB 1; omega) (by have := hB 1; omega)) rfl (gwV mw_129 mw_126 mw_127 mw_128 mw_5) rfl (by decide +kernel) 0 rfl rfl rfl rfl Sb.w rfl rfl dX8_isData_39 (fun r w1 hp39_2 => ?_)
      obtain ⟨rfl, rfl⟩ := hp39_2
      show V X 0 0 42 [(1, vI (F 2 1)), (0, .ref (ad 0))] [vI (F 2 ((18 + (11 * (F 2 1))) + 0)), vI ((F 2 ((18 + (11 * (F 2 1))) + 6)) + (F 2 2))] ((mW (vG X) ad F))
      refine v_icmp_ge (tgt := 63) C dX8_isData_42 (by decide) (by have := hB ((18 + (11 * (F 2 1))) + 6); have := hB 1; have := hB 2; first | assumption | exact ⟨by omega, by omega⟩) (by have := hB ((18 + (11 * (F 2 1))) + 0); have := hB 1; first | assumption | exact ⟨by omega, by omega⟩) (fun c42 => ?_) (fun c42 => ?_)
      · refine v_iconst C dX8_isData_63 ?_
        exact v_zret C E rfl rfl dX8_isData_64 (by decide) (by decide) (⟨by rw [bI_f (by omega)], rfl⟩)
      · refine v_aload_n C dX8_isData_45 rfl 1 rfl ?_
        refine v_callV (na := 0) (wy := (Cond.code yX8_nextMessage cX8_nextMessage 1 (some .int) :: wsL_law)) (wc := (mW (vG X) ad F)) (wr := []) C [] [] (c_X8_nextMessage _ _ ad F hT) rfl (gwV mw_552 mw_549 mw_550 mw_551 mw_5) rfl (by decide +kernel) 0 rfl rfl rfl rfl Sb.w rfl rfl dX8_isData_46 (fun r w1 hp46_3 => ?_)
        obtain ⟨rfl, rfl⟩ := hp46_3
        show V X 0 0 49 [(1, vI (F 2 1)), (0, .ref (ad 0))] [vI ((F 2 ((18 + (11 * (F 2 1))) + 6)) + (F 2 2))] ((mW (vG X) ad F))
        refine v_aload_n C dX8_isData_49 rfl 1 rfl ?_
        refine v_iload_n C dX8_isData_50 rfl 0 rfl ?_
        refine v_bipush C dX8_isData_51 (by decide +kernel) ?_
        refine v_callV (na := 2) (wy := (Cond.code yX8_of cX8_of 3 (some .int) :: wsL_law)) (wc := (mW (vG X) ad F)) (wr := []) C [vI (F 2 1), vI 7] [vI ((F 2 ((18 + (11 * (F 2 1))) + 6)) + (F 2 2))] (c_X8_of _ _ ad F (F 2 1) 7 (by have := hB 1; omega) (by have := hB 1; omega)) rfl (gwV mw_129 mw_126 mw_127 mw_128 mw_5) rfl (by decide +kernel) 0 rfl rfl rfl rfl Sb.w rfl rfl dX8_isData_53 (fun r w1 hp53_4 => ?_)
        obtain ⟨rfl, rfl⟩ := hp53_4
        show V X 0 0 56 [(1, vI (F 2 1)), (0, .ref (ad 0))] [vI (F 2 ((18 + (11 * (F 2 1))) + 7)), vI ((F 2 ((18 + (11 * (F 2 1))) + 6)) + (F 2 2))] ((mW (vG X) ad F))
        refine v_icmp_ge (tgt := 63) C dX8_isData_56 (by decide) (by have := hB ((18 + (11 * (F 2 1))) + 6); have := hB 1; have := hB 2; first | assumption | exact ⟨by omega, by omega⟩) (by have := hB ((18 + (11 * (F 2 1))) + 7); have := hB 1; first | assumption | exact ⟨by omega, by omega⟩) (fun c56 => ?_) (fun c56 => ?_)
        · refine v_iconst C dX8_isData_63 ?_
          exact v_zret C E rfl rfl dX8_isData_64 (by decide) (by decide) (⟨by rw [bI_f (by omega)], rfl⟩)
        · refine v_iconst C dX8_isData_59 ?_
          refine v_goto (tgt := 64) C dX8_isData_60 (by decide) ?_
          exact v_zret C E rfl rfl dX8_isData_64 (by decide) (by decide) (⟨by rw [bI_t (by omega)], rfl⟩)
set_option maxHeartbeats 4000000 in
set_option maxRecDepth 100000 in
theorem c_X8_buffered (G : GG) (l : Launch) (ad : Nat → Nat) (F : Int → Int → Int) (s : Int) (h0 : s = 0 ∨ s = 1) : Ct G l yX8_buffered (Cond.code yX8_buffered cX8_buffered 2 (some .int) :: wsL_law) 2 43 0 0 [.ref (ad 0), vI s] ((mW G ad F)) (fun r w => r = some (vI ((F 2 ((18 + (11 * s)) + 1)) - (F 2 ((18 + (11 * s)) + 2)))) ∧ w = (mW G ad F)) := by
  refine Ct.of (own := RX8) (cc := cX8_buffered) (maxL := 2) (ret := (some .int)) (by decide) rfl rfl (Nat.le_of_ble_eq_true rfl) (fun X C E M hG hl => ?_)
  subst hG hl
  refine v_aload_n C dX8_buffered_0 rfl 0 rfl ?_
  refine v_iload_n C dX8_buffered_1 rfl 1 rfl ?_
  refine v_iconst C dX8_buffered_2 ?_
  refine v_callV (na := 2) (wy := (Cond.code yX8_of cX8_of 3 (some .int) :: wsL_law)) (wc := (mW (vG X) ad F)) (wr := []) C [vI s, vI 1] [] (c_X8_of _ _ ad F s 1 (by omega) (by omega)) rfl (gwV mw_129 mw_126 mw_127 mw_128 mw_5) rfl (by decide +kernel) 0 rfl rfl rfl rfl Sb.w rfl rfl dX8_buffered_3 (fun r w1 hp3_1 => ?_)
  obtain ⟨rfl, rfl⟩ := hp3_1
  show V X 0 0 6 [(0, .ref (ad 0)), (1, vI s)] [vI (F 2 ((18 + (11 * s)) + 1))] ((mW (vG X) ad F))
  refine v_aload_n C dX8_buffered_6 rfl 0 rfl ?_
  refine v_iload_n C dX8_buffered_7 rfl 1 rfl ?_
  refine v_iconst C dX8_buffered_8 ?_
  refine v_callV (na := 2) (wy := (Cond.code yX8_of cX8_of 3 (some .int) :: wsL_law)) (wc := (mW (vG X) ad F)) (wr := []) C [vI s, vI 2] [vI (F 2 ((18 + (11 * s)) + 1))] (c_X8_of _ _ ad F s 2 (by omega) (by omega)) rfl (gwV mw_129 mw_126 mw_127 mw_128 mw_5) rfl (by decide +kernel) 0 rfl rfl rfl rfl Sb.w rfl rfl dX8_buffered_9 (fun r w1 hp9_2 => ?_)
  obtain ⟨rfl, rfl⟩ := hp9_2
  show V X 0 0 12 [(0, .ref (ad 0)), (1, vI s)] [vI (F 2 ((18 + (11 * s)) + 2)), vI (F 2 ((18 + (11 * s)) + 1))] ((mW (vG X) ad F))
  refine v_isub C dX8_buffered_12 ?_
  exact v_iret C E rfl dX8_buffered_13 (by decide) (by decide) (⟨rfl, rfl⟩)
set_option maxHeartbeats 4000000 in
set_option maxRecDepth 100000 in
theorem c_X8_isOver (G : GG) (l : Launch) (ad : Nat → Nat) (F : Int → Int → Int) (hB : sB 1073741824 (F 2)) : Ct G l yX8_isOver (Cond.code yX8_isOver cX8_isOver 1 (some .boolean) :: wsL_law) 2 43 0 0 [.ref (ad 0)] ((mW G ad F)) (fun r w => r = some (vI (bI (isOverP (F 2)))) ∧ w = (mW G ad F)) := by
  refine Ct.of (own := RX8) (cc := cX8_isOver) (maxL := 1) (ret := (some .boolean)) (by decide) rfl rfl (Nat.le_of_ble_eq_true rfl) (fun X C E M hG hl => ?_)
  subst hG hl
  refine v_aload_n C dX8_isOver_0 rfl 0 rfl ?_
  refine v_iconst C dX8_isOver_1 ?_
  refine v_iconst C dX8_isOver_2 ?_
  refine v_callV (na := 2) (wy := (Cond.code yX8_of cX8_of 3 (some .int) :: wsL_law)) (wc := (mW (vG X) ad F)) (wr := []) C [vI 0, vI 1] [] (c_X8_of _ _ ad F 0 1 (by decide) (by decide)) rfl (gwV mw_129 mw_126 mw_127 mw_128 mw_5) rfl (by decide +kernel) 0 rfl rfl rfl rfl Sb.w rfl rfl dX8_isOver_3 (fun r w1 hp3_1 => ?_)
  obtain ⟨rfl, rfl⟩ := hp3_1
  show V X 0 0 6 [(0, .ref (ad 0))] [vI (F 2 19)] ((mW (vG X) ad F))
  refine v_aload_n C dX8_isOver_6 rfl 0 rfl ?_
  refine v_iconst C dX8_isOver_7 ?_
  refine v_iconst C dX8_isOver_8 ?_
  refine v_callV (na := 2) (wy := (Cond.code yX8_of cX8_of 3 (some .int) :: wsL_law)) (wc := (mW (vG X) ad F)) (wr := []) C [vI 1, vI 0] [vI (F 2 19)] (c_X8_of _ _ ad F 1 0 (by decide) (by decide)) rfl (gwV mw_129 mw_126 mw_127 mw_128 mw_5) rfl (by decide +kernel) 0 rfl rfl rfl rfl Sb.w rfl rfl dX8_isOver_9 (fun r w1 hp9_2 => ?_)
  obtain ⟨rfl, rfl⟩ := hp9_2
  show V X 0 0 12 [(0, .ref (ad 0))] [vI (F 2 29), vI (F 2 19)] ((mW (vG X) ad F))
  refine v_icmp_ne (tgt := 34) C dX8_isOver_12 (by decide) (by have := hB 19; first | assumption | exact ⟨by omega, by omega⟩) (by have := hB 29; first | assumption | exact ⟨by omega, by omega⟩) (fun c12 => ?_) (fun c12 => ?_)
  · refine v_iconst C dX8_isOver_34 ?_
    exact v_zret C E rfl rfl dX8_isOver_35 (by decide) (by decide) (⟨by rw [bI_f (by omega)], rfl⟩)
  · refine v_aload_n C dX8_isOver_15 rfl 0 rfl ?_
    refine v_iconst C dX8_isOver_16 ?_
    refine v_iconst C dX8_isOver_17 ?_
    refine v_callV (na := 2) (wy := (Cond.code yX8_of cX8_of 3 (some .int) :: wsL_law)) (wc := (mW (vG X) ad F)) (wr := []) C [vI 1, vI 1] [] (c_X8_of _ _ ad F 1 1 (by decide) (by decide)) rfl (gwV mw_129 mw_126 mw_127 mw_128 mw_5) rfl (by decide +kernel) 0 rfl rfl rfl rfl Sb.w rfl rfl dX8_isOver_18 (fun r w1 hp18_3 => ?_)
    obtain ⟨rfl, rfl⟩ := hp18_3
    show V X 0 0 21 [(0, .ref (ad 0))] [vI (F 2 30)] ((mW (vG X) ad F))
    refine v_aload_n C dX8_isOver_21 rfl 0 rfl ?_
    refine v_iconst C dX8_isOver_22 ?_
    refine v_iconst C dX8_isOver_23 ?_
    refine v_callV (na := 2) (wy := (Cond.code yX8_of cX8_of 3 (some .int) :: wsL_law)) (wc := (mW (vG X) ad F)) (wr := []) C [vI 0, vI 0] [vI (F 2 30)] (c_X8_of _ _ ad F 0 0 (by decide) (by decide)) rfl (gwV mw_129 mw_126 mw_127 mw_128 mw_5) rfl (by decide +kernel) 0 rfl rfl rfl rfl Sb.w rfl rfl dX8_isOver_24 (fun r w1 hp24_4 => ?_)
    obtain ⟨rfl, rfl⟩ := hp24_4
    show V X 0 0 27 [(0, .ref (ad 0))] [vI (F 2 18), vI (F 2 30)] ((mW (vG X) ad F))
    refine v_icmp_ne (tgt := 34) C dX8_isOver_27 (by decide) (by have := hB 30; first | assumption | exact ⟨by omega, by omega⟩) (by have := hB 18; first | assumption | exact ⟨by omega, by omega⟩) (fun c27 => ?_) (fun c27 => ?_)
    · refine v_iconst C dX8_isOver_34 ?_
      exact v_zret C E rfl rfl dX8_isOver_35 (by decide) (by decide) (⟨by rw [bI_f (by omega)], rfl⟩)
    · refine v_iconst C dX8_isOver_30 ?_
      refine v_goto (tgt := 35) C dX8_isOver_31 (by decide) ?_
      exact v_zret C E rfl rfl dX8_isOver_35 (by decide) (by decide) (⟨by rw [bI_t (by omega)], rfl⟩)
set_option maxHeartbeats 4000000 in
set_option maxRecDepth 100000 in
theorem c_X8_tells (G : GG) (l : Launch) (ad : Nat → Nat) (F : Int → Int → Int) (s : Int) (h0 : s = 0 ∨ s = 1) (hB : sB 4000000 (F 2)) : Ct G l yX8_tells (Cond.code yX8_tells cX8_tells 4 none :: wsL_law) 3 64 0 0 [.ref (ad 0), vI s] ((mW G ad F)) (fun r w => r = none ∧ w = mW G ad (up F 2 (teF s (F 2)))) := by
  refine Ct.of (own := RX8) (cc := cX8_tells) (maxL := 4) (ret := none) (by decide) rfl rfl (Nat.le_of_ble_eq_true rfl) (fun X C E M hG hl => ?_)
  subst hG hl
  refine v_iconst C dX8_tells_0 ?_
  refine v_iload_n C dX8_tells_1 rfl 1 rfl ?_
  refine v_isub C dX8_tells_2 ?_
  refine v_istore_n C M dX8_tells_3 rfl (by decide) (L' := [(2, vI (1 - s)), (0, .ref (ad 0)), (1, vI s)]) rfl ?_
  refine v_aload_n C dX8_tells_4 rfl 1 rfl ?_
  refine v_get (v := .ref (ad 2)) C inw_8 0 10 rfl (by decide) (List.mem_cons_of_mem _ mw_105) rfl rfl dX8_tells_5 ?_
  refine v_iload_n C dX8_tells_8 rfl 0 rfl ?_
  refine v_bipush C dX8_tells_9 (by decide +kernel) ?_
  refine v_callS (na := 2) (wy := (Cond.code yX8_at cX8_at 2 (some .int) :: wsL_law)) (wc := []) (wr := (mW (vG X) ad F)) C [vI (1 - s), vI 6] [.ref (ad 2)] (c_X8_at _ _ (1 - s) 6 ) rfl (gwS mw_120 mw_118 mw_119 mw_5) (by decide +kernel) rfl rfl Sb.rf rfl rfl dX8_tells_11 (fun r w1 hp11_1 => ?_)
  obtain ⟨rfl, rfl⟩ := hp11_1
  show V X 0 0 14 [(2, vI (1 - s)), (0, .ref (ad 0)), (1, vI s)] [vI ((18 + (11 * (1 - s))) + 6), .ref (ad 2)] ((mW (vG X) ad F))
  refine v_aload_n C dX8_tells_14 rfl 1 rfl ?_
  refine v_iload_n C dX8_tells_15 rfl 2 rfl ?_
  refine v_iconst C dX8_tells_16 ?_
  refine v_callV (na := 2) (wy := (Cond.code yX8_of cX8_of 3 (some .int) :: wsL_law)) (wc := (mW (vG X) ad F)) (wr := []) C [vI s, vI 1] [vI ((18 + (11 * (1 - s))) + 6), .ref (ad 2)] (c_X8_of _ _ ad F s 1 (by omega) (by omega)) rfl (gwV mw_129 mw_126 mw_127 mw_128 mw_5) rfl (by decide +kernel) 0 rfl rfl rfl rfl Sb.w rfl rfl dX8_tells_17 (fun r w1 hp17_2 => ?_)
  obtain ⟨rfl, rfl⟩ := hp17_2
  show V X 0 0 20 [(2, vI (1 - s)), (0, .ref (ad 0)), (1, vI s)] [vI (F 2 ((18 + (11 * s)) + 1)), vI ((18 + (11 * (1 - s))) + 6), .ref (ad 2)] ((mW (vG X) ad F))
  refine v_iast C 2 rfl (by  omega) (by  omega) (by decide) dX8_tells_20 (ws' := (mW (vG X) ad (up F 2 (up (F 2) ((18 + (11 * (1 - s))) + 6) (F 2 ((18 + (11 * s)) + 1)))))) rfl ?_
  refine v_aload_n C dX8_tells_21 rfl 1 rfl ?_
  refine v_get (v := .ref (ad 2)) C inw_8 0 10 rfl (by decide) (List.mem_cons_of_mem _ mw_105) rfl rfl dX8_tells_22 ?_
  refine v_iload_n C dX8_tells_25 rfl 0 rfl ?_
  refine v_bipush C dX8_tells_26 (by decide +kernel) ?_
  refine v_callS (na := 2) (wy := (Cond.code yX8_at cX8_at 2 (some .int) :: wsL_law)) (wc := []) (wr := (mW (vG X) ad (up F 2 (up (F 2) ((18 + (11 * (1 - s))) + 6) (F 2 ((18 + (11 * s)) + 1)))))) C [vI (1 - s), vI 7] [.ref (ad 2)] (c_X8_at _ _ (1 - s) 7 ) rfl (gwS mw_120 mw_118 mw_119 mw_5) (by decide +kernel) rfl rfl Sb.rf rfl rfl dX8_tells_28 (fun r w1 hp28_3 => ?_)
  obtain ⟨rfl, rfl⟩ := hp28_3
  show V X 0 0 31 [(2, vI (1 - s)), (0, .ref (ad 0)), (1, vI s)] [vI ((18 + (11 * (1 - s))) + 7), .ref (ad 2)] ((mW (vG X) ad (up F 2 (up (F 2) ((18 + (11 * (1 - s))) + 6) (F 2 ((18 + (11 * s)) + 1))))))
  refine v_aload_n C dX8_tells_31 rfl 1 rfl ?_
  refine v_iload_n C dX8_tells_32 rfl 2 rfl ?_
  refine v_callV (na := 1) (wy := (Cond.code yX8_limitOf cX8_limitOf 2 (some .int) :: wsL_law)) (wc := (mW (vG X) ad (up F 2 (up (F 2) ((18 + (11 * (1 - s))) + 6) (F 2 ((18 + (11 * s)) + 1)))))) (wr := []) C [vI s] [vI ((18 + (11 * (1 - s))) + 7), .ref (ad 2)] (c_X8_limitOf _ _ ad (up F 2 (up (F 2) ((18 + (11 * (1 - s))) + 6) (F 2 ((18 + (11 * s)) + 1)))) s (by omega)) rfl (gwV mw_560 mw_557 mw_558 mw_559 mw_5) rfl (by decide +kernel) 0 rfl rfl rfl rfl Sb.w rfl rfl dX8_tells_33 (fun r w1 hp33_4 => ?_)
  obtain ⟨rfl, rfl⟩ := hp33_4
  show V X 0 0 36 [(2, vI (1 - s)), (0, .ref (ad 0)), (1, vI s)] [vI (((up (F 2) ((18 + (11 * (1 - s))) + 6) (F 2 ((18 + (11 * s)) + 1))) ((18 + (11 * s)) + 2)) + ((up (F 2) ((18 + (11 * (1 - s))) + 6) (F 2 ((18 + (11 * s)) + 1))) ((18 + (11 * s)) + 3))), vI ((18 + (11 * (1 - s))) + 7), .ref (ad 2)] ((mW (vG X) ad (up F 2 (up (F 2) ((18 + (11 * (1 - s))) + 6) (F 2 ((18 + (11 * s)) + 1))))))
  rw [up_n (show (((18 + (11 * s)) + 2) : Int) ≠ ((18 + (11 * (1 - s))) + 6) by omega)]
  rw [up_n (show (((18 + (11 * s)) + 3) : Int) ≠ ((18 + (11 * (1 - s))) + 6) by omega)]
  refine v_iast C 2 rfl (by  omega) (by  omega) (by decide) dX8_tells_36 (ws' := (mW (vG X) ad (up F 2 (up (up (F 2) ((18 + (11 * (1 - s))) + 6) (F 2 ((18 + (11 * s)) + 1))) ((18 + (11 * (1 - s))) + 7) ((F 2 ((18 + (11 * s)) + 2)) + (F 2 ((18 + (11 * s)) + 3))))))) rfl ?_
  refine v_aload_n C dX8_tells_37 rfl 1 rfl ?_
  refine v_iload_n C dX8_tells_38 rfl 2 rfl ?_
  refine v_iconst C dX8_tells_39 ?_
  refine v_callV (na := 2) (wy := (Cond.code yX8_of cX8_of 3 (some .int) :: wsL_law)) (wc := (mW (vG X) ad (up F 2 (up (up (F 2) ((18 + (11 * (1 - s))) + 6) (F 2 ((18 + (11 * s)) + 1))) ((18 + (11 * (1 - s))) + 7) ((F 2 ((18 + (11 * s)) + 2)) + (F 2 ((18 + (11 * s)) + 3))))))) (wr := []) C [vI s, vI 5] [] (c_X8_of _ _ ad (up F 2 (up (up (F 2) ((18 + (11 * (1 - s))) + 6) (F 2 ((18 + (11 * s)) + 1))) ((18 + (11 * (1 - s))) + 7) ((F 2 ((18 + (11 * s)) + 2)) + (F 2 ((18 + (11 * s)) + 3))))) s 5 (by omega) (by omega)) rfl (gwV mw_129 mw_126 mw_127 mw_128 mw_5) rfl (by decide +kernel) 0 rfl rfl rfl rfl Sb.w rfl rfl dX8_tells_40 (fun r w1 hp40_5 => ?_)
  obtain ⟨rfl, rfl⟩ := hp40_5
  show V X 0 0 43 [(2, vI (1 - s)), (0, .ref (ad 0)), (1, vI s)] [vI ((up (up (F 2) ((18 + (11 * (1 - s))) + 6) (F 2 ((18 + (11 * s)) + 1))) ((18 + (11 * (1 - s))) + 7) ((F 2 ((18 + (11 * s)) + 2)) + (F 2 ((18 + (11 * s)) + 3)))) ((18 + (11 * s)) + 5))] ((mW (vG X) ad (up F 2 (up (up (F 2) ((18 + (11 * (1 - s))) + 6) (F 2 ((18 + (11 * s)) + 1))) ((18 + (11 * (1 - s))) + 7) ((F 2 ((18 + (11 * s)) + 2)) + (F 2 ((18 + (11 * s)) + 3)))))))
  rw [up_n (show (((18 + (11 * s)) + 5) : Int) ≠ ((18 + (11 * (1 - s))) + 7) by omega), up_n (show (((18 + (11 * s)) + 5) : Int) ≠ ((18 + (11 * (1 - s))) + 6) by omega)]
  refine v_aload_n C dX8_tells_43 rfl 1 rfl ?_
  refine v_iload_n C dX8_tells_44 rfl 0 rfl ?_
  refine v_bipush C dX8_tells_45 (by decide +kernel) ?_
  refine v_callV (na := 2) (wy := (Cond.code yX8_of cX8_of 3 (some .int) :: wsL_law)) (wc := (mW (vG X) ad (up F 2 (up (up (F 2) ((18 + (11 * (1 - s))) + 6) (F 2 ((18 + (11 * s)) + 1))) ((18 + (11 * (1 - s))) + 7) ((F 2 ((18 + (11 * s)) + 2)) + (F 2 ((18 + (11 * s)) + 3))))))) (wr := []) C [vI (1 - s), vI 10] [vI (F 2 ((18 + (11 * s)) + 5))] (c_X8_of _ _ ad (up F 2 (up (up (F 2) ((18 + (11 * (1 - s))) + 6) (F 2 ((18 + (11 * s)) + 1))) ((18 + (11 * (1 - s))) + 7) ((F 2 ((18 + (11 * s)) + 2)) + (F 2 ((18 + (11 * s)) + 3))))) (1 - s) 10 (by omega) (by omega)) rfl (gwV mw_129 mw_126 mw_127 mw_128 mw_5) rfl (by decide +kernel) 0 rfl rfl rfl rfl Sb.w rfl rfl dX8_tells_47 (fun r w1 hp47_6 => ?_)
  obtain ⟨rfl, rfl⟩ := hp47_6
  show V X 0 0 50 [(2, vI (1 - s)), (0, .ref (ad 0)), (1, vI s)] [vI ((up (up (F 2) ((18 + (11 * (1 - s))) + 6) (F 2 ((18 + (11 * s)) + 1))) ((18 + (11 * (1 - s))) + 7) ((F 2 ((18 + (11 * s)) + 2)) + (F 2 ((18 + (11 * s)) + 3)))) ((18 + (11 * (1 - s))) + 10)), vI (F 2 ((18 + (11 * s)) + 5))] ((mW (vG X) ad (up F 2 (up (up (F 2) ((18 + (11 * (1 - s))) + 6) (F 2 ((18 + (11 * s)) + 1))) ((18 + (11 * (1 - s))) + 7) ((F 2 ((18 + (11 * s)) + 2)) + (F 2 ((18 + (11 * s)) + 3)))))))
  rw [up_n (show (((18 + (11 * (1 - s))) + 10) : Int) ≠ ((18 + (11 * (1 - s))) + 7) by omega), up_n (show (((18 + (11 * (1 - s))) + 10) : Int) ≠ ((18 + (11 * (1 - s))) + 6) by omega)]
  refine v_isub C dX8_tells_50 ?_
  refine v_istore_n C M dX8_tells_51 rfl (by decide) (L' := [(3, vI ((F 2 ((18 + (11 * s)) + 5)) - (F 2 ((18 + (11 * (1 - s))) + 10)))), (2, vI (1 - s)), (0, .ref (ad 0)), (1, vI s)]) rfl ?_
  refine v_iload_n C dX8_tells_52 rfl 0 rfl ?_
  refine v_if_gt (tgt := 57) C dX8_tells_53 (by decide) (by have := hB ((18 + (11 * s)) + 5); have := hB ((18 + (11 * (1 - s))) + 10); first | assumption | exact ⟨by omega, by omega⟩) (fun c53 => ?_) (fun c53 => ?_)
  · skip
    refine v_aload_n C dX8_tells_57 rfl 2 rfl ?_
    refine v_get (v := .ref (ad 2)) C inw_8 0 10 rfl (by decide) (List.mem_cons_of_mem _ mw_105) rfl rfl dX8_tells_58 ?_
    refine v_iload_n C dX8_tells_61 rfl 1 rfl ?_
    refine v_iconst C dX8_tells_62 ?_
    refine v_callS (na := 2) (wy := (Cond.code yX8_at cX8_at 2 (some .int) :: wsL_law)) (wc := []) (wr := (mW (vG X) ad (up F 2 (up (up (F 2) ((18 + (11 * (1 - s))) + 6) (F 2 ((18 + (11 * s)) + 1))) ((18 + (11 * (1 - s))) + 7) ((F 2 ((18 + (11 * s)) + 2)) + (F 2 ((18 + (11 * s)) + 3))))))) C [vI (1 - s), vI 3] [.ref (ad 2)] (c_X8_at _ _ (1 - s) 3 ) rfl (gwS mw_120 mw_118 mw_119 mw_5) (by decide +kernel) rfl rfl Sb.rf rfl rfl dX8_tells_63 (fun r w1 hp63_7 => ?_)
    obtain ⟨rfl, rfl⟩ := hp63_7
    show V X 0 0 66 [(3, vI ((F 2 ((18 + (11 * s)) + 5)) - (F 2 ((18 + (11 * (1 - s))) + 10)))), (2, vI (1 - s)), (0, .ref (ad 0)), (1, vI s)] [vI ((18 + (11 * (1 - s))) + 3), .ref (ad 2)] ((mW (vG X) ad (up F 2 (up (up (F 2) ((18 + (11 * (1 - s))) + 6) (F 2 ((18 + (11 * s)) + 1))) ((18 + (11 * (1 - s))) + 7) ((F 2 ((18 + (11 * s)) + 2)) + (F 2 ((18 + (11 * s)) + 3)))))))
    refine v_dup2 C dX8_tells_66 rfl rfl ?_
    refine v_iald C 2 rfl (by  omega) (by  omega) (by decide) dX8_tells_67 ?_
    show V X 0 0 68 [(3, vI ((F 2 ((18 + (11 * s)) + 5)) - (F 2 ((18 + (11 * (1 - s))) + 10)))), (2, vI (1 - s)), (0, .ref (ad 0)), (1, vI s)] [vI ((up (up (F 2) ((18 + (11 * (1 - s))) + 6) (F 2 ((18 + (11 * s)) + 1))) ((18 + (11 * (1 - s))) + 7) ((F 2 ((18 + (11 * s)) + 2)) + (F 2 ((18 + (11 * s)) + 3)))) ((18 + (11 * (1 - s))) + 3)), vI ((18 + (11 * (1 - s))) + 3), .ref (ad 2)] ((mW (vG X) ad (up F 2 (up (up (F 2) ((18 + (11 * (1 - s))) + 6) (F 2 ((18 + (11 * s)) + 1))) ((18 + (11 * (1 - s))) + 7) ((F 2 ((18 + (11 * s)) + 2)) + (F 2 ((18 + (11 * s)) + 3)))))))
    rw [up_n (show (((18 + (11 * (1 - s))) + 3) : Int) ≠ ((18 + (11 * (1 - s))) + 7) by omega), up_n (show (((18 + (11 * (1 - s))) + 3) : Int) ≠ ((18 + (11 * (1 - s))) + 6) by omega)]
    refine v_iload_n C dX8_tells_68 rfl 0 rfl ?_
    refine v_isub C dX8_tells_69 ?_
    refine v_iast C 2 rfl (by  omega) (by  omega) (by decide) dX8_tells_70 (ws' := (mW (vG X) ad (up F 2 (up (up (up (F 2) ((18 + (11 * (1 - s))) + 6) (F 2 ((18 + (11 * s)) + 1))) ((18 + (11 * (1 - s))) + 7) ((F 2 ((18 + (11 * s)) + 2)) + (F 2 ((18 + (11 * s)) + 3)))) ((18 + (11 * (1 - s))) + 3) ((F 2 ((18 + (11 * (1 - s))) + 3)) - ((F 2 ((18 + (11 * s)) + 5)) - (F 2 ((18 + (11 * (1 - s))) + 10)))))))) rfl ?_
    refine v_aload_n C dX8_tells_71 rfl 2 rfl ?_
    refine v_get (v := .ref (ad 2)) C inw_8 0 10 rfl (by decide) (List.mem_cons_of_mem _ mw_105) rfl rfl dX8_tells_72 ?_
    refine v_iload_n C dX8_tells_75 rfl 1 rfl ?_
    refine v_iconst C dX8_tells_76 ?_
    refine v_callS (na := 2) (wy := (Cond.code yX8_at cX8_at 2 (some .int) :: wsL_law)) (wc := []) (wr := (mW (vG X) ad (up F 2 (up (up (up (F 2) ((18 + (11 * (1 - s))) + 6) (F 2 ((18 + (11 * s)) + 1))) ((18 + (11 * (1 - s))) + 7) ((F 2 ((18 + (11 * s)) + 2)) + (F 2 ((18 + (11 * s)) + 3)))) ((18 + (11 * (1 - s))) + 3) ((F 2 ((18 + (11 * (1 - s))) + 3)) - ((F 2 ((18 + (11 * s)) + 5)) - (F 2 ((18 + (11 * (1 - s))) + 10)))))))) C [vI (1 - s), vI 4] [.ref (ad 2)] (c_X8_at _ _ (1 - s) 4 ) rfl (gwS mw_120 mw_118 mw_119 mw_5) (by decide +kernel) rfl rfl Sb.rf rfl rfl dX8_tells_77 (fun r w1 hp77_8 => ?_)
    obtain ⟨rfl, rfl⟩ := hp77_8
    show V X 0 0 80 [(3, vI ((F 2 ((18 + (11 * s)) + 5)) - (F 2 ((18 + (11 * (1 - s))) + 10)))), (2, vI (1 - s)), (0, .ref (ad 0)), (1, vI s)] [vI ((18 + (11 * (1 - s))) + 4), .ref (ad 2)] ((mW (vG X) ad (up F 2 (up (up (up (F 2) ((18 + (11 * (1 - s))) + 6) (F 2 ((18 + (11 * s)) + 1))) ((18 + (11 * (1 - s))) + 7) ((F 2 ((18 + (11 * s)) + 2)) + (F 2 ((18 + (11 * s)) + 3)))) ((18 + (11 * (1 - s))) + 3) ((F 2 ((18 + (11 * (1 - s))) + 3)) - ((F 2 ((18 + (11 * s)) + 5)) - (F 2 ((18 + (11 * (1 - s))) + 10))))))))
    refine v_dup2 C dX8_tells_80 rfl rfl ?_
    refine v_iald C 2 rfl (by  omega) (by  omega) (by decide) dX8_tells_81 ?_
    show V X 0 0 82 [(3, vI ((F 2 ((18 + (11 * s)) + 5)) - (F 2 ((18 + (11 * (1 - s))) + 10)))), (2, vI (1 - s)), (0, .ref (ad 0)), (1, vI s)] [vI ((up (up (up (F 2) ((18 + (11 * (1 - s))) + 6) (F 2 ((18 + (11 * s)) + 1))) ((18 + (11 * (1 - s))) + 7) ((F 2 ((18 + (11 * s)) + 2)) + (F 2 ((18 + (11 * s)) + 3)))) ((18 + (11 * (1 - s))) + 3) ((F 2 ((18 + (11 * (1 - s))) + 3)) - ((F 2 ((18 + (11 * s)) + 5)) - (F 2 ((18 + (11 * (1 - s))) + 10))))) ((18 + (11 * (1 - s))) + 4)), vI ((18 + (11 * (1 - s))) + 4), .ref (ad 2)] ((mW (vG X) ad (up F 2 (up (up (up (F 2) ((18 + (11 * (1 - s))) + 6) (F 2 ((18 + (11 * s)) + 1))) ((18 + (11 * (1 - s))) + 7) ((F 2 ((18 + (11 * s)) + 2)) + (F 2 ((18 + (11 * s)) + 3)))) ((18 + (11 * (1 - s))) + 3) ((F 2 ((18 + (11 * (1 - s))) + 3)) - ((F 2 ((18 + (11 * s)) + 5)) - (F 2 ((18 + (11 * (1 - s))) + 10))))))))
    rw [up_n (show (((18 + (11 * (1 - s))) + 4) : Int) ≠ ((18 + (11 * (1 - s))) + 3) by omega), up_n (show (((18 + (11 * (1 - s))) + 4) : Int) ≠ ((18 + (11 * (1 - s))) + 7) by omega), up_n (show (((18 + (11 * (1 - s))) + 4) : Int) ≠ ((18 + (11 * (1 - s))) + 6) by omega)]
    refine v_iload_n C dX8_tells_82 rfl 0 rfl ?_
    refine v_isub C dX8_tells_83 ?_
    refine v_iast C 2 rfl (by  omega) (by  omega) (by decide) dX8_tells_84 (ws' := (mW (vG X) ad (up F 2 (up (up (up (up (F 2) ((18 + (11 * (1 - s))) + 6) (F 2 ((18 + (11 * s)) + 1))) ((18 + (11 * (1 - s))) + 7) ((F 2 ((18 + (11 * s)) + 2)) + (F 2 ((18 + (11 * s)) + 3)))) ((18 + (11 * (1 - s))) + 3) ((F 2 ((18 + (11 * (1 - s))) + 3)) - ((F 2 ((18 + (11 * s)) + 5)) - (F 2 ((18 + (11 * (1 - s))) + 10))))) ((18 + (11 * (1 - s))) + 4) ((F 2 ((18 + (11 * (1 - s))) + 4)) - ((F 2 ((18 + (11 * s)) + 5)) - (F 2 ((18 + (11 * (1 - s))) + 10)))))))) rfl ?_
    refine v_aload_n C dX8_tells_85 rfl 2 rfl ?_
    refine v_get (v := .ref (ad 2)) C inw_8 0 10 rfl (by decide) (List.mem_cons_of_mem _ mw_105) rfl rfl dX8_tells_86 ?_
    refine v_iload_n C dX8_tells_89 rfl 1 rfl ?_
    refine v_bipush C dX8_tells_90 (by decide +kernel) ?_
    refine v_callS (na := 2) (wy := (Cond.code yX8_at cX8_at 2 (some .int) :: wsL_law)) (wc := []) (wr := (mW (vG X) ad (up F 2 (up (up (up (up (F 2) ((18 + (11 * (1 - s))) + 6) (F 2 ((18 + (11 * s)) + 1))) ((18 + (11 * (1 - s))) + 7) ((F 2 ((18 + (11 * s)) + 2)) + (F 2 ((18 + (11 * s)) + 3)))) ((18 + (11 * (1 - s))) + 3) ((F 2 ((18 + (11 * (1 - s))) + 3)) - ((F 2 ((18 + (11 * s)) + 5)) - (F 2 ((18 + (11 * (1 - s))) + 10))))) ((18 + (11 * (1 - s))) + 4) ((F 2 ((18 + (11 * (1 - s))) + 4)) - ((F 2 ((18 + (11 * s)) + 5)) - (F 2 ((18 + (11 * (1 - s))) + 10)))))))) C [vI (1 - s), vI 10] [.ref (ad 2)] (c_X8_at _ _ (1 - s) 10 ) rfl (gwS mw_120 mw_118 mw_119 mw_5) (by decide +kernel) rfl rfl Sb.rf rfl rfl dX8_tells_92 (fun r w1 hp92_9 => ?_)
    obtain ⟨rfl, rfl⟩ := hp92_9
    show V X 0 0 95 [(3, vI ((F 2 ((18 + (11 * s)) + 5)) - (F 2 ((18 + (11 * (1 - s))) + 10)))), (2, vI (1 - s)), (0, .ref (ad 0)), (1, vI s)] [vI ((18 + (11 * (1 - s))) + 10), .ref (ad 2)] ((mW (vG X) ad (up F 2 (up (up (up (up (F 2) ((18 + (11 * (1 - s))) + 6) (F 2 ((18 + (11 * s)) + 1))) ((18 + (11 * (1 - s))) + 7) ((F 2 ((18 + (11 * s)) + 2)) + (F 2 ((18 + (11 * s)) + 3)))) ((18 + (11 * (1 - s))) + 3) ((F 2 ((18 + (11 * (1 - s))) + 3)) - ((F 2 ((18 + (11 * s)) + 5)) - (F 2 ((18 + (11 * (1 - s))) + 10))))) ((18 + (11 * (1 - s))) + 4) ((F 2 ((18 + (11 * (1 - s))) + 4)) - ((F 2 ((18 + (11 * s)) + 5)) - (F 2 ((18 + (11 * (1 - s))) + 10))))))))
    refine v_aload_n C dX8_tells_95 rfl 2 rfl ?_
    refine v_iload_n C dX8_tells_96 rfl 3 rfl ?_
    refine v_iconst C dX8_tells_97 ?_
    refine v_callV (na := 2) (wy := (Cond.code yX8_of cX8_of 3 (some .int) :: wsL_law)) (wc := (mW (vG X) ad (up F 2 (up (up (up (up (F 2) ((18 + (11 * (1 - s))) + 6) (F 2 ((18 + (11 * s)) + 1))) ((18 + (11 * (1 - s))) + 7) ((F 2 ((18 + (11 * s)) + 2)) + (F 2 ((18 + (11 * s)) + 3)))) ((18 + (11 * (1 - s))) + 3) ((F 2 ((18 + (11 * (1 - s))) + 3)) - ((F 2 ((18 + (11 * s)) + 5)) - (F 2 ((18 + (11 * (1 - s))) + 10))))) ((18 + (11 * (1 - s))) + 4) ((F 2 ((18 + (11 * (1 - s))) + 4)) - ((F 2 ((18 + (11 * s)) + 5)) - (F 2 ((18 + (11 * (1 - s))) + 10)))))))) (wr := []) C [vI s, vI 5] [vI ((18 + (11 * (1 - s))) + 10), .ref (ad 2)] (c_X8_of _ _ ad (up F 2 (up (up (up (up (F 2) ((18 + (11 * (1 - s))) + 6) (F 2 ((18 + (11 * s)) + 1))) ((18 + (11 * (1 - s))) + 7) ((F 2 ((18 + (11 * s)) + 2)) + (F 2 ((18 + (11 * s)) + 3)))) ((18 + (11 * (1 - s))) + 3) ((F 2 ((18 + (11 * (1 - s))) + 3)) - ((F 2 ((18 + (11 * s)) + 5)) - (F 2 ((18 + (11 * (1 - s))) + 10))))) ((18 + (11 * (1 - s))) + 4) ((F 2 ((18 + (11 * (1 - s))) + 4)) - ((F 2 ((18 + (11 * s)) + 5)) - (F 2 ((18 + (11 * (1 - s))) + 10)))))) s 5 (by omega) (by omega)) rfl (gwV mw_129 mw_126 mw_127 mw_128 mw_5) rfl (by decide +kernel) 0 rfl rfl rfl rfl Sb.w rfl rfl dX8_tells_98 (fun r w1 hp98_10 => ?_)
    obtain ⟨rfl, rfl⟩ := hp98_10
    show V X 0 0 101 [(3, vI ((F 2 ((18 + (11 * s)) + 5)) - (F 2 ((18 + (11 * (1 - s))) + 10)))), (2, vI (1 - s)), (0, .ref (ad 0)), (1, vI s)] [vI ((up (up (up (up (F 2) ((18 + (11 * (1 - s))) + 6) (F 2 ((18 + (11 * s)) + 1))) ((18 + (11 * (1 - s))) + 7) ((F 2 ((18 + (11 * s)) + 2)) + (F 2 ((18 + (11 * s)) + 3)))) ((18 + (11 * (1 - s))) + 3) ((F 2 ((18 + (11 * (1 - s))) + 3)) - ((F 2 ((18 + (11 * s)) + 5)) - (F 2 ((18 + (11 * (1 - s))) + 10))))) ((18 + (11 * (1 - s))) + 4) ((F 2 ((18 + (11 * (1 - s))) + 4)) - ((F 2 ((18 + (11 * s)) + 5)) - (F 2 ((18 + (11 * (1 - s))) + 10))))) ((18 + (11 * s)) + 5)), vI ((18 + (11 * (1 - s))) + 10), .ref (ad 2)] ((mW (vG X) ad (up F 2 (up (up (up (up (F 2) ((18 + (11 * (1 - s))) + 6) (F 2 ((18 + (11 * s)) + 1))) ((18 + (11 * (1 - s))) + 7) ((F 2 ((18 + (11 * s)) + 2)) + (F 2 ((18 + (11 * s)) + 3)))) ((18 + (11 * (1 - s))) + 3) ((F 2 ((18 + (11 * (1 - s))) + 3)) - ((F 2 ((18 + (11 * s)) + 5)) - (F 2 ((18 + (11 * (1 - s))) + 10))))) ((18 + (11 * (1 - s))) + 4) ((F 2 ((18 + (11 * (1 - s))) + 4)) - ((F 2 ((18 + (11 * s)) + 5)) - (F 2 ((18 + (11 * (1 - s))) + 10))))))))
    rw [up_n (show (((18 + (11 * s)) + 5) : Int) ≠ ((18 + (11 * (1 - s))) + 4) by omega), up_n (show (((18 + (11 * s)) + 5) : Int) ≠ ((18 + (11 * (1 - s))) + 3) by omega), up_n (show (((18 + (11 * s)) + 5) : Int) ≠ ((18 + (11 * (1 - s))) + 7) by omega), up_n (show (((18 + (11 * s)) + 5) : Int) ≠ ((18 + (11 * (1 - s))) + 6) by omega)]
    refine v_iast C 2 rfl (by  omega) (by  omega) (by decide) dX8_tells_101 (ws' := (mW (vG X) ad (up F 2 (up (up (up (up (up (F 2) ((18 + (11 * (1 - s))) + 6) (F 2 ((18 + (11 * s)) + 1))) ((18 + (11 * (1 - s))) + 7) ((F 2 ((18 + (11 * s)) + 2)) + (F 2 ((18 + (11 * s)) + 3)))) ((18 + (11 * (1 - s))) + 3) ((F 2 ((18 + (11 * (1 - s))) + 3)) - ((F 2 ((18 + (11 * s)) + 5)) - (F 2 ((18 + (11 * (1 - s))) + 10))))) ((18 + (11 * (1 - s))) + 4) ((F 2 ((18 + (11 * (1 - s))) + 4)) - ((F 2 ((18 + (11 * s)) + 5)) - (F 2 ((18 + (11 * (1 - s))) + 10))))) ((18 + (11 * (1 - s))) + 10) (F 2 ((18 + (11 * s)) + 5)))))) rfl ?_
    exact v_vret C E rfl dX8_tells_102 (by decide) (by decide) (⟨rfl, by rw [show (teF s (F 2)) = (up (up (up (up (up (F 2) ((18 + (11 * (1 - s))) + 6) (F 2 ((18 + (11 * s)) + 1))) ((18 + (11 * (1 - s))) + 7) ((F 2 ((18 + (11 * s)) + 2)) + (F 2 ((18 + (11 * s)) + 3)))) ((18 + (11 * (1 - s))) + 3) ((F 2 ((18 + (11 * (1 - s))) + 3)) - ((F 2 ((18 + (11 * s)) + 5)) - (F 2 ((18 + (11 * (1 - s))) + 10))))) ((18 + (11 * (1 - s))) + 4) ((F 2 ((18 + (11 * (1 - s))) + 4)) - ((F 2 ((18 + (11 * s)) + 5)) - (F 2 ((18 + (11 * (1 - s))) + 10))))) ((18 + (11 * (1 - s))) + 10) (F 2 ((18 + (11 * s)) + 5))) from (if_pos c53)]⟩)
  · skip
    exact v_vret C E rfl dX8_tells_56 (by decide) (by decide) (⟨rfl, by rw [show (teF s (F 2)) = (up (up (F 2) ((18 + (11 * (1 - s))) + 6) (F 2 ((18 + (11 * s)) + 1))) ((18 + (11 * (1 - s))) + 7) ((F 2 ((18 + (11 * s)) + 2)) + (F 2 ((18 + (11 * s)) + 3)))) from (if_neg c53)]⟩)
end M1
