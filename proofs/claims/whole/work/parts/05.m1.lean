section M1
set_option maxHeartbeats 4000000 in
set_option maxRecDepth 100000 in
theorem c_X8_at (G : GG) (l : Launch) (s q : Int)  : Ct G l yX8_at (Cond.code yX8_at cX8_at 2 (some .int) :: wsL_law) 0 0 0 0 [vI s, vI q] ([]) (fun r w => r = some (vI ((18 + (11 * s)) + q)) ∧ w = []) := by
  refine Ct.of (own := RX8) (cc := cX8_at) (maxL := 2) (ret := (some .int)) (by decide) rfl rfl (Nat.le_of_ble_eq_true rfl) (fun X C E M hG hl => ?_)
  subst hG hl
  refine v_bipush C dX8_at_0 (by decide +kernel) ?_
  refine v_bipush C dX8_at_2 (by decide +kernel) ?_
  refine v_iload_n C dX8_at_4 rfl 0 rfl ?_
  refine v_imul C dX8_at_5 ?_
  refine v_iadd C dX8_at_6 ?_
  refine v_iload_n C dX8_at_7 rfl 1 rfl ?_
  refine v_iadd C dX8_at_8 ?_
  exact v_iret C E rfl dX8_at_9 (by decide) (by decide) (⟨rfl, rfl⟩)
set_option maxHeartbeats 4000000 in
set_option maxRecDepth 100000 in
theorem c_X8_lengthAt (G : GG) (l : Launch) (s q : Int)  : Ct G l yX8_lengthAt (Cond.code yX8_lengthAt cX8_lengthAt 2 (some .int) :: wsL_law) 0 0 0 0 [vI s, vI q] ([]) (fun r w => r = some (vI ((40 + (20 * s)) + q)) ∧ w = []) := by
  refine Ct.of (own := RX8) (cc := cX8_lengthAt) (maxL := 2) (ret := (some .int)) (by decide) rfl rfl (Nat.le_of_ble_eq_true rfl) (fun X C E M hG hl => ?_)
  subst hG hl
  refine v_bipush C dX8_lengthAt_0 (by decide +kernel) ?_
  refine v_bipush C dX8_lengthAt_2 (by decide +kernel) ?_
  refine v_iload_n C dX8_lengthAt_4 rfl 0 rfl ?_
  refine v_imul C dX8_lengthAt_5 ?_
  refine v_iadd C dX8_lengthAt_6 ?_
  refine v_iload_n C dX8_lengthAt_7 rfl 1 rfl ?_
  refine v_iadd C dX8_lengthAt_8 ?_
  exact v_iret C E rfl dX8_lengthAt_9 (by decide) (by decide) (⟨rfl, rfl⟩)
set_option maxHeartbeats 4000000 in
set_option maxRecDepth 100000 in
theorem c_X8_byteOf (G : GG) (l : Launch) (s q j : Int)  : Ct G l yX8_byteOf (Cond.code yX8_byteOf cX8_byteOf 3 (some .int) :: wsL_law) 0 0 0 0 [vI s, vI q, vI j] ([]) (fun r w => r = some (vI ((80 + (8 * ((20 * s) + q))) + j)) ∧ w = []) := by
  refine Ct.of (own := RX8) (cc := cX8_byteOf) (maxL := 3) (ret := (some .int)) (by decide) rfl rfl (Nat.le_of_ble_eq_true rfl) (fun X C E M hG hl => ?_)
  subst hG hl
  refine v_bipush C dX8_byteOf_0 (by decide +kernel) ?_
  refine v_bipush C dX8_byteOf_2 (by decide +kernel) ?_
  refine v_bipush C dX8_byteOf_4 (by decide +kernel) ?_
  refine v_iload_n C dX8_byteOf_6 rfl 0 rfl ?_
  refine v_imul C dX8_byteOf_7 ?_
  refine v_iload_n C dX8_byteOf_8 rfl 1 rfl ?_
  refine v_iadd C dX8_byteOf_9 ?_
  refine v_imul C dX8_byteOf_10 ?_
  refine v_iadd C dX8_byteOf_11 ?_
  refine v_iload_n C dX8_byteOf_12 rfl 2 rfl ?_
  refine v_iadd C dX8_byteOf_13 ?_
  exact v_iret C E rfl dX8_byteOf_14 (by decide) (by decide) (⟨rfl, rfl⟩)
set_option maxHeartbeats 4000000 in
set_option maxRecDepth 100000 in
theorem c_X8_within (G : GG) (l : Launch) (v lo hi : Int) (h1 : sm v) (h2 : sm lo) (h3 : sm hi) : Ct G l yX8_within (Cond.code yX8_within cX8_within 3 (some .boolean) :: wsL_law) 0 0 0 0 [vI v, vI lo, vI hi] ([]) (fun r w => r = some (vI (bI (lo ≤ v ∧ v ≤ hi))) ∧ w = []) := by
  refine Ct.of (own := RX8) (cc := cX8_within) (maxL := 3) (ret := (some .boolean)) (by decide) rfl rfl (Nat.le_of_ble_eq_true rfl) (fun X C E M hG hl => ?_)
  subst hG hl
  refine v_iload_n C dX8_within_0 rfl 0 rfl ?_
  refine v_iload_n C dX8_within_1 rfl 1 rfl ?_
  refine v_icmp_lt (tgt := 14) C dX8_within_2 (by decide) (by  first | assumption | exact ⟨by omega, by omega⟩) (by  first | assumption | exact ⟨by omega, by omega⟩) (fun c2 => ?_) (fun c2 => ?_)
  · refine v_iconst C dX8_within_14 ?_
    exact v_zret C E rfl rfl dX8_within_15 (by decide) (by decide) (⟨by rw [bI_f (by omega)], rfl⟩)
  · refine v_iload_n C dX8_within_5 rfl 0 rfl ?_
    refine v_iload_n C dX8_within_6 rfl 2 rfl ?_
    refine v_icmp_gt (tgt := 14) C dX8_within_7 (by decide) (by  first | assumption | exact ⟨by omega, by omega⟩) (by  first | assumption | exact ⟨by omega, by omega⟩) (fun c7 => ?_) (fun c7 => ?_)
    · refine v_iconst C dX8_within_14 ?_
      exact v_zret C E rfl rfl dX8_within_15 (by decide) (by decide) (⟨by rw [bI_f (by omega)], rfl⟩)
    · refine v_iconst C dX8_within_10 ?_
      refine v_goto (tgt := 15) C dX8_within_11 (by decide) ?_
      exact v_zret C E rfl rfl dX8_within_15 (by decide) (by decide) (⟨by rw [bI_t (by omega)], rfl⟩)
set_option maxHeartbeats 4000000 in
set_option maxRecDepth 100000 in
theorem c_X8_isStation (G : GG) (l : Launch) (s : Int) (h1 : sm s) : Ct G l yX8_isStation (Cond.code yX8_isStation cX8_isStation 1 (some .boolean) :: wsL_law) 1 22 0 0 [vI s] ([]) (fun r w => r = some (vI (bI (0 ≤ s ∧ s ≤ 1))) ∧ w = []) := by
  refine Ct.of (own := RX8) (cc := cX8_isStation) (maxL := 1) (ret := (some .boolean)) (by decide) rfl rfl (Nat.le_of_ble_eq_true rfl) (fun X C E M hG hl => ?_)
  subst hG hl
  refine v_iload_n C dX8_isStation_0 rfl 0 rfl ?_
  refine v_iconst C dX8_isStation_1 ?_
  refine v_iconst C dX8_isStation_2 ?_
  refine v_callS (na := 3) (wy := (Cond.code yX8_within cX8_within 3 (some .boolean) :: wsL_law)) (wc := []) (wr := []) C [vI s, vI 0, vI 1] [] (c_X8_within _ _ s 0 1 (by first | assumption | exact ⟨by omega, by omega⟩) (by decide) (by decide)) rfl (gwS mw_343 mw_341 mw_342 mw_5) (by decide +kernel) rfl rfl Sb.w rfl rfl dX8_isStation_3 (fun r w1 hp3_1 => ?_)
  obtain ⟨rfl, rfl⟩ := hp3_1
  show V X 0 0 6 [(0, vI s)] [vI (bI (0 ≤ s ∧ s ≤ 1))] ([])
  exact v_zret C E rfl nb_bI dX8_isStation_6 (by decide) (by decide) (⟨rfl, rfl⟩)
set_option maxHeartbeats 4000000 in
set_option maxRecDepth 100000 in
theorem c_X8_of (G : GG) (l : Launch) (ad : Nat → Nat) (F : Int → Int → Int) (s q : Int) (h0 : 0 ≤ 18 + 11 * s + q) (h1 : 18 + 11 * s + q < 441) : Ct G l yX8_of (Cond.code yX8_of cX8_of 3 (some .int) :: wsL_law) 1 21 0 0 [.ref (ad 0), vI s, vI q] ((mW G ad F)) (fun r w => r = some (vI (F 2 ((18 + (11 * s)) + q))) ∧ w = (mW G ad F)) := by
  refine Ct.of (own := RX8) (cc := cX8_of) (maxL := 3) (ret := (some .int)) (by decide) rfl rfl (Nat.le_of_ble_eq_true rfl) (fun X C E M hG hl => ?_)
  subst hG hl
  refine v_aload_n C dX8_of_0 rfl 0 rfl ?_
  refine v_get (v := .ref (ad 2)) C inw_8 0 10 rfl (by decide) (List.mem_cons_of_mem _ mw_105) rfl rfl dX8_of_1 ?_
  refine v_iload_n C dX8_of_4 rfl 1 rfl ?_
  refine v_iload_n C dX8_of_5 rfl 2 rfl ?_
  refine v_callS (na := 2) (wy := (Cond.code yX8_at cX8_at 2 (some .int) :: wsL_law)) (wc := []) (wr := (mW (vG X) ad F)) C [vI s, vI q] [.ref (ad 2)] (c_X8_at _ _ s q) rfl (gwS mw_120 mw_118 mw_119 mw_5) (by decide +kernel) rfl rfl Sb.rf rfl rfl dX8_of_6 (fun r w1 hp6_1 => ?_)
  obtain ⟨rfl, rfl⟩ := hp6_1
  show V X 0 0 9 [(0, .ref (ad 0)), (1, vI s), (2, vI q)] [vI ((18 + (11 * s)) + q), .ref (ad 2)] ((mW (vG X) ad F))
  refine v_iald C 2 rfl (by  omega) (by  omega) (by decide) dX8_of_9 ?_
  exact v_iret C E rfl dX8_of_10 (by decide) (by decide) (⟨rfl, rfl⟩)
set_option maxHeartbeats 4000000 in
set_option maxRecDepth 100000 in
theorem c_X8_limitOf (G : GG) (l : Launch) (ad : Nat → Nat) (F : Int → Int → Int) (s : Int) (h0 : s = 0 ∨ s = 1) : Ct G l yX8_limitOf (Cond.code yX8_limitOf cX8_limitOf 2 (some .int) :: wsL_law) 2 43 0 0 [.ref (ad 0), vI s] ((mW G ad F)) (fun r w => r = some (vI ((F 2 ((18 + (11 * s)) + 2)) + (F 2 ((18 + (11 * s)) + 3)))) ∧ w = (mW G ad F)) := by
  refine Ct.of (own := RX8) (cc := cX8_limitOf) (maxL := 2) (ret := (some .int)) (by decide) rfl rfl (Nat.le_of_ble_eq_true rfl) (fun X C E M hG hl => ?_)
  subst hG hl
  refine v_aload_n C dX8_limitOf_0 rfl 0 rfl ?_
  refine v_iload_n C dX8_limitOf_1 rfl 1 rfl ?_
  refine v_iconst C dX8_limitOf_2 ?_
  refine v_callV (na := 2) (wy := (Cond.code yX8_of cX8_of 3 (some .int) :: wsL_law)) (wc := (mW (vG X) ad F)) (wr := []) C [vI s, vI 2] [] (c_X8_of _ _ ad F s 2 (by omega) (by omega)) rfl (gwV mw_129 mw_126 mw_127 mw_128 mw_5) rfl (by decide +kernel) 0 rfl rfl rfl rfl Sb.w rfl rfl dX8_limitOf_3 (fun r w1 hp3_1 => ?_)
  obtain ⟨rfl, rfl⟩ := hp3_1
  show V X 0 0 6 [(0, .ref (ad 0)), (1, vI s)] [vI (F 2 ((18 + (11 * s)) + 2))] ((mW (vG X) ad F))
  refine v_aload_n C dX8_limitOf_6 rfl 0 rfl ?_
  refine v_iload_n C dX8_limitOf_7 rfl 1 rfl ?_
  refine v_iconst C dX8_limitOf_8 ?_
  refine v_callV (na := 2) (wy := (Cond.code yX8_of cX8_of 3 (some .int) :: wsL_law)) (wc := (mW (vG X) ad F)) (wr := []) C [vI s, vI 3] [vI (F 2 ((18 + (11 * s)) + 2))] (c_X8_of _ _ ad F s 3 (by omega) (by omega)) rfl (gwV mw_129 mw_126 mw_127 mw_128 mw_5) rfl (by decide +kernel) 0 rfl rfl rfl rfl Sb.w rfl rfl dX8_limitOf_9 (fun r w1 hp9_2 => ?_)
  obtain ⟨rfl, rfl⟩ := hp9_2
  show V X 0 0 12 [(0, .ref (ad 0)), (1, vI s)] [vI (F 2 ((18 + (11 * s)) + 3)), vI (F 2 ((18 + (11 * s)) + 2))] ((mW (vG X) ad F))
  refine v_iadd C dX8_limitOf_12 ?_
  exact v_iret C E rfl dX8_limitOf_13 (by decide) (by decide) (⟨rfl, rfl⟩)
set_option maxHeartbeats 4000000 in
set_option maxRecDepth 100000 in
theorem c_X8_nextMessage (G : GG) (l : Launch) (ad : Nat → Nat) (F : Int → Int → Int) (hT : F 2 1 = 0 ∨ F 2 1 = 1) : Ct G l yX8_nextMessage (Cond.code yX8_nextMessage cX8_nextMessage 1 (some .int) :: wsL_law) 2 43 0 0 [.ref (ad 0)] ((mW G ad F)) (fun r w => r = some (vI ((F 2 ((18 + (11 * (F 2 1))) + 6)) + (F 2 2))) ∧ w = (mW G ad F)) := by
  refine Ct.of (own := RX8) (cc := cX8_nextMessage) (maxL := 1) (ret := (some .int)) (by decide) rfl rfl (Nat.le_of_ble_eq_true rfl) (fun X C E M hG hl => ?_)
  subst hG hl
  refine v_aload_n C dX8_nextMessage_0 rfl 0 rfl ?_
  refine v_aload_n C dX8_nextMessage_1 rfl 0 rfl ?_
  refine v_get (v := .ref (ad 2)) C inw_8 0 10 rfl (by decide) (List.mem_cons_of_mem _ mw_105) rfl rfl dX8_nextMessage_2 ?_
  refine v_iconst C dX8_nextMessage_5 ?_
  refine v_iald C 2 rfl (by decide) (by decide) (by decide) dX8_nextMessage_6 ?_
  refine v_bipush C dX8_nextMessage_7 (by decide +kernel) ?_
  refine v_callV (na := 2) (wy := (Cond.code yX8_of cX8_of 3 (some .int) :: wsL_law)) (wc := (mW (vG X) ad F)) (wr := []) C [vI (F 2 1), vI 6] [] (c_X8_of _ _ ad F (F 2 1) 6 (by have := hB 1; omega) (by have := hB 1; omega)) rfl (gwV mw_129 mw_126 mw_127 mw_128 mw_5) rfl (by decide +kernel) 0 rfl rfl rfl rfl Sb.w rfl rfl dX8_nextMessage_9 (fun r w1 hp9_1 => ?_)
  obtain ⟨rfl, rfl⟩ := hp9_1
  show V X 0 0 12 [(0, .ref (ad 0))] [vI (F 2 ((18 + (11 * (F 2 1))) + 6))] ((mW (vG X) ad F))
  refine v_aload_n C dX8_nextMessage_12 rfl 0 rfl ?_
  refine v_get (v := .ref (ad 2)) C inw_8 0 10 rfl (by decide) (List.mem_cons_of_mem _ mw_105) rfl rfl dX8_nextMessage_13 ?_
  refine v_iconst C dX8_nextMessage_16 ?_
  refine v_iald C 2 rfl (by decide) (by decide) (by decide) dX8_nextMessage_17 ?_
  refine v_iadd C dX8_nextMessage_18 ?_
  exact v_iret C E rfl dX8_nextMessage_19 (by decide) (by decide) (⟨rfl, rfl⟩)
set_option maxHeartbeats 4000000 in
set_option maxRecDepth 100000 in
theorem c_X8_isData (G : GG) (l : Launch) (ad : Nat → Nat) (F : Int → Int → Int) (hT : F 2 1 = 0 ∨ F 2 1 = 1) (hB : ∀ i, 0 ≤ F 2 i ∧ F 2 i < 1000000) : Ct G l yX8_isData (Cond.code yX8_isData cX8_isData 2 (some .boolean) :: wsL_law) 3 63 0 0 [.ref (ad 0)] ((mW G ad F)) (fun r w => r = some (vI (bI (isDataP (F 2)))) ∧ w = (mW G ad F)) := by
  refine Ct.of (own := RX8) (cc := cX8_isData) (maxL := 2) (ret := (some .boolean)) (by decide) rfl rfl (Nat.le_of_ble_eq_true rfl) (fun X C E M hG hl => ?_)
  subst hG hl
  refine v_aload_n C dX8_isData_0 rfl 0 rfl ?_
  refine v_get (v := .ref (ad 2)) C inw_8 0 10 rfl (by decide) (List.mem_cons_of_mem _ mw_105) rfl rfl dX8_isData_1 ?_
  refine v_iconst C dX8_isData_4 ?_
  refine v_iald C 2 rfl (by decide) (by decide) (by decide) dX8_isData_5 ?_
  refine v_istore_n C M dX8_isData_6 rfl (by decide) (L' := [(1, vI (F 2 1)), (0, .ref (ad 0))]) rfl ?_
  refine v_aload_n C dX8_isData_7 rfl 1 rfl ?_
  refine v_get (v := .ref (ad 2)) C inw_8 0 10 rfl (by decide) (List.mem_cons_of_mem _ mw_105) rfl rfl dX8_isData_8 ?_
  refine v_bipush C dX8_isData_11 (by decide +kernel) ?_
  refine v_iald C 2 rfl (by decide) (by decide) (by decide) dX8_isData_13 ?_
  refine v_if_ne (tgt := 63) C dX8_isData_14 (by decide) (by have := hB 6; first | assumption | exact ⟨by omega, by omega⟩) (fun c14 => ?_) (fun c14 => ?_)
  · refine v_iconst C dX8_isData_63 ?_
    exact v_zret C E rfl rfl dX8_isData_64 (by decide) (by decide) (⟨by rw [bI_f (by omega)], rfl⟩)
  · refine v_aload_n C dX8_isData_17 rfl 1 rfl ?_
    refine v_get (v := .ref (ad 2)) C inw_8 0 10 rfl (by decide) (List.mem_cons_of_mem _ mw_105) rfl rfl dX8_isData_18 ?_
    refine v_iconst C dX8_isData_21 ?_
    refine v_iald C 2 rfl (by decide) (by decide) (by decide) dX8_isData_22 ?_
    refine v_aload_n C dX8_isData_23 rfl 1 rfl ?_
    refine v_get (v := .ref (ad 2)) C inw_8 0 10 rfl (by decide) (List.mem_cons_of_mem _ mw_105) rfl rfl dX8_isData_24 ?_
    refine v_iconst C dX8_isData_27 ?_
    refine v_iald C 2 rfl (by decide) (by decide) (by decide) dX8_isData_28 ?_
    refine v_icmp_ge (tgt := 63) C dX8_isData_29 (by decide) (by have := hB 2; first | assumption | exact ⟨by omega, by omega⟩) (by have := hB 4; first | assumption | exact ⟨by omega, by omega⟩) (fun c29 => ?_) (fun c29 => ?_)
    · refine v_iconst C dX8_isData_63 ?_
      exact v_zret C E rfl rfl dX8_isData_64 (by decide) (by decide) (⟨by rw [bI_f (by omega)], rfl⟩)
    · refine v_aload_n C dX8_isData_32 rfl 1 rfl ?_
      refine v_callV (na := 0) (wy := (Cond.code yX8_nextMessage cX8_nextMessage 1 (some .int) :: wsL_law)) (wc := (mW (vG X) ad F)) (wr := []) C [] [] (c_X8_nextMessage _ _ ad F hT) rfl (gwV mw_552 mw_549 mw_550 mw_551 mw_5) rfl (by decide +kernel) 0 rfl rfl rfl rfl Sb.w rfl rfl dX8_isData_33 (fun r w1 hp33_1 => ?_)
      obtain ⟨rfl, rfl⟩ := hp33_1
      show V X 0 0 36 [(1, vI (F 2 1)), (0, .ref (ad 0))] [vI ((F 2 ((18 + (11 * (F 2 1))) + 6)) + (F 2 2))] ((mW (vG X) ad F))
      refine v_aload_n C dX8_isData_36 rfl 1 rfl ?_
      refine v_iload_n C dX8_isData_37 rfl 0 rfl ?_
      refine v_iconst C dX8_isData_38 ?_
      refine v_callV (na := 2) (wy := (Cond.code yX8_of cX8_of 3 (some .int) :: wsL_law)) (wc := (mW (vG X) ad F)) (wr := []) C [vI (F 2 1), vI 0] [vI ((F 2 ((18 + (11 * (F 2 1))) + 6)) + (F 2 2))] (c_X8_of _ _ ad F (F 2 1) 0 (by have := hB 1; omega) (by have := hB 1; omega)) rfl (gwV mw_129 mw_126 mw_127 mw_128 mw_5) rfl (by decide +kernel) 0 rfl rfl rfl rfl Sb.w rfl rfl dX8_isData_39 (fun r w1 hp39_2 => ?_)
      obtain ⟨rfl, rfl⟩ := hp39_2
      show V X 0 0 42 [(1, vI (F 2 1)), (0, .ref (ad 0))] [vI (F 2 ((18 + (11 * (F 2 1))) + 0)), vI ((F 2 ((18 + (11 * (F 2 1))) + 6)) + (F 2 2))] ((mW (vG X) ad F))
      refine v_icmp_ge (tgt := 63) C dX8_isData_42 (by decide) (by have := hB ((18 + (11 * (F 2 1))) + 6); have := hB 1; have := hB 2; first | assumption | exact ⟨by omega, by omega⟩) (by have := hB ((18 + (11 * (F 2 1))) + 0); have := hB 1; first | assumption | exact ⟨by omega, by omega⟩) (fun c42 => ?_) (fun c42 => ?_)
      · refine v_iconst C dX8_isData_63 ?_
        exact v_zret C E rfl rfl dX8_isData_64 (by decide) (by decide) (⟨by rw [bI_f (by omega)], rfl⟩)
      · refine v_aload_n C dX8_isData_45 rfl 1 rfl ?_
        refine v_callV (na := 0) (wy := (Cond.code yX8_nextMessage cX8_nextMessage 1 (some .int) :: wsL_law)) (wc := (mW (vG X) ad F)) (wr := []) C [] [] (c_X8_nextMessage _ _ ad F hT) rfl (gwV mw_552 mw_549 mw_550 mw_551 mw_5) rfl (by decide +kernel) 0 rfl rfl rfl rfl Sb.w rfl rfl dX8_isData_46 (fun r w1 hp46_3 => ?_)
        obtain ⟨rfl, rfl⟩ := hp46_3
        show V X 0 0 49 [(1, vI (F 2 1)), (0, .ref (ad 0))] [vI ((F 2 ((18 + (11 * (F 2 1))) + 6)) + (F 2 2))] ((mW (vG X) ad F))
        refine v_aload_n C dX8_isData_49 rfl 1 rfl ?_
        refine v_iload_n C dX8_isData_50 rfl 0 rfl ?_
        refine v_bipush C dX8_isData_51 (by decide +kernel) ?_
        refine v_callV (na := 2) (wy := (Cond.code yX8_of cX8_of 3 (some .int) :: wsL_law)) (wc := (mW (vG X) ad F)) (wr := []) C [vI (F 2 1), vI 7] [vI ((F 2 ((18 + (11 * (F 2 1))) + 6)) + (F 2 2))] (c_X8_of _ _ ad F (F 2 1) 7 (by have := hB 1; omega) (by have := hB 1; omega)) rfl (gwV mw_129 mw_126 mw_127 mw_128 mw_5) rfl (by decide +kernel) 0 rfl rfl rfl rfl Sb.w rfl rfl dX8_isData_53 (fun r w1 hp53_4 => ?_)
        obtain ⟨rfl, rfl⟩ := hp53_4
        show V X 0 0 56 [(1, vI (F 2 1)), (0, .ref (ad 0))] [vI (F 2 ((18 + (11 * (F 2 1))) + 7)), vI ((F 2 ((18 + (11 * (F 2 1))) + 6)) + (F 2 2))] ((mW (vG X) ad F))
        refine v_icmp_ge (tgt := 63) C dX8_isData_56 (by decide) (by have := hB ((18 + (11 * (F 2 1))) + 6); have := hB 1; have := hB 2; first | assumption | exact ⟨by omega, by omega⟩) (by have := hB ((18 + (11 * (F 2 1))) + 7); have := hB 1; first | assumption | exact ⟨by omega, by omega⟩) (fun c56 => ?_) (fun c56 => ?_)
        · refine v_iconst C dX8_isData_63 ?_
          exact v_zret C E rfl rfl dX8_isData_64 (by decide) (by decide) (⟨by rw [bI_f (by omega)], rfl⟩)
        · refine v_iconst C dX8_isData_59 ?_
          refine v_goto (tgt := 64) C dX8_isData_60 (by decide) ?_
          exact v_zret C E rfl rfl dX8_isData_64 (by decide) (by decide) (⟨by rw [bI_t (by omega)], rfl⟩)
end M1
