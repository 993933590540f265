section M7
set_option maxHeartbeats 4000000 in
set_option maxRecDepth 100000 in
theorem c_X8_messageByte (G : GG) (l : Launch) (ad : Nat → Nat) (F : Int → Int → Int) (s q j : Int) (hs : sm s) (hq : sm q) (hj : sm j) (hB : sB 1000000 (F 2)) (hM : ∀ s, (s = 0 ∨ s = 1) → F 2 (18 + 11 * s + 0) ≤ 20) (hLn : ∀ j, 40 ≤ j → j < 80 → 0 ≤ F 2 j ∧ F 2 j ≤ 8) : Ct G l yX8_messageByte (Cond.code yX8_messageByte cX8_messageByte 4 (some .int) :: wsL_law) 2 43 0 0 [.ref (ad 0), vI s, vI q, vI j] ((mW G ad F)) (fun r w => ∃ v : Int, r = some (vI v) ∧ (((¬ ((0 ≤ s ∧ s ≤ 1) ∧ 0 ≤ q ∧ q ≤ F 2 (18 + 11 * s + 0) - 1)) ∧ v = 0 ∧ w = mW G ad (up F 0 (up (F 0) 0 1))) ∨ ((((0 ≤ s ∧ s ≤ 1) ∧ 0 ≤ q ∧ q ≤ F 2 (18 + 11 * s + 0) - 1) ∧ (0 ≤ j ∧ j ≤ F 2 (40 + 20 * s + q) - 1)) ∧ v = (F 2 ((80 + (8 * ((20 * s) + q))) + j)) ∧ w = (mW G ad (up F 0 (up (F 0) 0 0)))) ∨ ((((0 ≤ s ∧ s ≤ 1) ∧ 0 ≤ q ∧ q ≤ F 2 (18 + 11 * s + 0) - 1) ∧ ¬ (0 ≤ j ∧ j ≤ F 2 (40 + 20 * s + q) - 1)) ∧ v = (-1) ∧ w = (mW G ad (up F 0 (up (F 0) 0 0)))))) := by
  refine Ct.of (own := RX8) (cc := cX8_messageByte) (maxL := 4) (ret := (some .int)) (by decide) rfl rfl (Nat.le_of_ble_eq_true rfl) (fun X C E M hG hl => ?_)
  subst hG hl
  have hMs := hM s
  have hLm := hLn (40 + 20 * s + q)
  refine v_aload_n C dX8_messageByte_0 rfl 0 rfl ?_
  refine v_iload_n C dX8_messageByte_1 rfl 1 rfl ?_
  refine v_callS (na := 1) (wy := (Cond.code yX8_isStation cX8_isStation 1 (some .boolean) :: wsL_law)) (wc := []) (wr := (mW (vG X) ad F)) C [vI s] [.ref (ad 0)] (c_X8_isStation _ _ s (by first | assumption | exact ⟨by omega, by omega⟩)) rfl (gwS mw_452 mw_450 mw_451 mw_5) (by decide +kernel) rfl rfl Sb.rf rfl rfl dX8_messageByte_2 (fun r w1 hp2_1 => ?_)
  obtain ⟨rfl, rfl⟩ := hp2_1
  show V X 0 0 5 [(0, .ref (ad 0)), (1, vI s), (2, vI q), (3, vI j)] [vI (bI (0 ≤ s ∧ s ≤ 1)), .ref (ad 0)] ((mW (vG X) ad F))
  refine v_if_eq (tgt := 24) C dX8_messageByte_5 (by decide) sm_bI (fun c5 => ?_) (fun c5 => ?_)
  · have c5 := bI_0.mp c5
    refine v_iconst C dX8_messageByte_24 ?_
    refine v_goto (tgt := 29) C dX8_messageByte_25 (by decide) ?_
    refine v_put C inw_8 tyX8 tyX8_ok nmX8 0 0 rfl (by decide) (List.mem_cons_of_mem _ mw_147) rfl rfl rfl rfl (Nat.le_of_ble_eq_true rfl) dX8_messageByte_29 (ws' := (mW (vG X) ad (up F 0 (up (F 0) 0 1)))) rfl ?_
    refine v_aload_n C dX8_messageByte_32 rfl 0 rfl ?_
    refine v_get (v := vI 1) C inw_8 0 0 rfl (by decide) (List.mem_cons_of_mem _ mw_147) rfl rfl dX8_messageByte_33 ?_
    refine v_if_le (tgt := 41) C dX8_messageByte_36 (by decide) (by decide) (fun c => absurd c (by decide)) (fun _ => ?_)
    refine v_iconst C dX8_messageByte_39 ?_
    exact v_iret C E rfl dX8_messageByte_40 (by decide) (by decide) (⟨_, rfl, Or.inl ⟨by omega, rfl, rfl⟩⟩)
  · have c5 := bI_n0.mp c5
    refine v_iload_n C dX8_messageByte_8 rfl 2 rfl ?_
    refine v_iconst C dX8_messageByte_9 ?_
    refine v_aload_n C dX8_messageByte_10 rfl 0 rfl ?_
    refine v_iload_n C dX8_messageByte_11 rfl 1 rfl ?_
    refine v_iconst C dX8_messageByte_12 ?_
    refine v_callV (na := 2) (wy := (Cond.code yX8_of cX8_of 3 (some .int) :: wsL_law)) (wc := (mW (vG X) ad F)) (wr := []) C [vI s, vI 0] [vI 0, vI q, .ref (ad 0)] (c_X8_of _ _ ad F s 0 (by omega) (by omega)) rfl (gwV mw_129 mw_126 mw_127 mw_128 mw_5) rfl (by decide +kernel) 0 rfl rfl rfl rfl Sb.w rfl rfl dX8_messageByte_13 (fun r w1 hp13_2 => ?_)
    obtain ⟨rfl, rfl⟩ := hp13_2
    show V X 0 0 16 [(0, .ref (ad 0)), (1, vI s), (2, vI q), (3, vI j)] [vI (F 2 ((18 + (11 * s)) + 0)), vI 0, vI q, .ref (ad 0)] ((mW (vG X) ad F))
    refine v_iconst C dX8_messageByte_16 ?_
    refine v_isub C dX8_messageByte_17 ?_
    refine v_callS (na := 3) (wy := (Cond.code yX8_within cX8_within 3 (some .boolean) :: wsL_law)) (wc := []) (wr := (mW (vG X) ad F)) C [vI q, vI 0, vI ((F 2 ((18 + (11 * s)) + 0)) - 1)] [.ref (ad 0)] (c_X8_within _ _ q 0 ((F 2 ((18 + (11 * s)) + 0)) - 1) (by first | assumption | exact ⟨by omega, by omega⟩) (by decide) (by have := hB ((18 + (11 * s)) + 0); first | assumption | exact ⟨by omega, by omega⟩)) rfl (gwS mw_343 mw_341 mw_342 mw_5) (by decide +kernel) rfl rfl Sb.rf rfl rfl dX8_messageByte_18 (fun r w1 hp18_3 => ?_)
    obtain ⟨rfl, rfl⟩ := hp18_3
    show V X 0 0 21 [(0, .ref (ad 0)), (1, vI s), (2, vI q), (3, vI j)] [vI (bI (0 ≤ q ∧ q ≤ ((F 2 ((18 + (11 * s)) + 0)) - 1))), .ref (ad 0)] ((mW (vG X) ad F))
    refine v_if_ne (tgt := 28) C dX8_messageByte_21 (by decide) sm_bI (fun c21 => ?_) (fun c21 => ?_)
    · have c21 := bI_n0.mp c21
      refine v_iconst C dX8_messageByte_28 ?_
      refine v_put C inw_8 tyX8 tyX8_ok nmX8 0 0 rfl (by decide) (List.mem_cons_of_mem _ mw_147) rfl rfl rfl rfl (Nat.le_of_ble_eq_true rfl) dX8_messageByte_29 (ws' := (mW (vG X) ad (up F 0 (up (F 0) 0 0)))) rfl ?_
      refine v_aload_n C dX8_messageByte_32 rfl 0 rfl ?_
      refine v_get (v := vI 0) C inw_8 0 0 rfl (by decide) (List.mem_cons_of_mem _ mw_147) rfl rfl dX8_messageByte_33 ?_
      refine v_if_le (tgt := 41) C dX8_messageByte_36 (by decide) (by decide) (fun _ => ?_) (fun c => absurd (by decide) c)
      refine v_iload_n C dX8_messageByte_41 rfl 3 rfl ?_
      refine v_iconst C dX8_messageByte_42 ?_
      refine v_aload_n C dX8_messageByte_43 rfl 0 rfl ?_
      refine v_get (v := .ref (ad 2)) C inw_8 0 10 rfl (by decide) (List.mem_cons_of_mem _ mw_105) rfl rfl dX8_messageByte_44 ?_
      refine v_iload_n C dX8_messageByte_47 rfl 1 rfl ?_
      refine v_iload_n C dX8_messageByte_48 rfl 2 rfl ?_
      refine v_callS (na := 2) (wy := (Cond.code yX8_lengthAt cX8_lengthAt 2 (some .int) :: wsL_law)) (wc := []) (wr := (mW (vG X) ad (up F 0 (up (F 0) 0 0)))) C [vI s, vI q] [.ref (ad 2), vI 0, vI j] (c_X8_lengthAt _ _ s q ) rfl (gwS mw_400 mw_398 mw_399 mw_5) (by decide +kernel) rfl rfl Sb.rf rfl rfl dX8_messageByte_49 (fun r w1 hp49_4 => ?_)
      obtain ⟨rfl, rfl⟩ := hp49_4
      show V X 0 0 52 [(0, .ref (ad 0)), (1, vI s), (2, vI q), (3, vI j)] [vI ((40 + (20 * s)) + q), .ref (ad 2), vI 0, vI j] ((mW (vG X) ad (up F 0 (up (F 0) 0 0))))
      refine v_iald C 2 rfl (by  omega) (by  omega) (by decide) dX8_messageByte_52 ?_
      show V X 0 0 53 [(0, .ref (ad 0)), (1, vI s), (2, vI q), (3, vI j)] [vI (F 2 ((40 + (20 * s)) + q)), vI 0, vI j] ((mW (vG X) ad (up F 0 (up (F 0) 0 0))))
      refine v_iconst C dX8_messageByte_53 ?_
      refine v_isub C dX8_messageByte_54 ?_
      refine v_callS (na := 3) (wy := (Cond.code yX8_within cX8_within 3 (some .boolean) :: wsL_law)) (wc := []) (wr := (mW (vG X) ad (up F 0 (up (F 0) 0 0)))) C [vI j, vI 0, vI ((F 2 ((40 + (20 * s)) + q)) - 1)] [] (c_X8_within _ _ j 0 ((F 2 ((40 + (20 * s)) + q)) - 1) (by first | assumption | exact ⟨by omega, by omega⟩) (by decide) (by have := hB ((40 + (20 * s)) + q); first | assumption | exact ⟨by omega, by omega⟩)) rfl (gwS mw_343 mw_341 mw_342 mw_5) (by decide +kernel) rfl rfl Sb.rf rfl rfl dX8_messageByte_55 (fun r w1 hp55_5 => ?_)
      obtain ⟨rfl, rfl⟩ := hp55_5
      show V X 0 0 58 [(0, .ref (ad 0)), (1, vI s), (2, vI q), (3, vI j)] [vI (bI (0 ≤ j ∧ j ≤ ((F 2 ((40 + (20 * s)) + q)) - 1)))] ((mW (vG X) ad (up F 0 (up (F 0) 0 0))))
      refine v_if_eq (tgt := 75) C dX8_messageByte_58 (by decide) sm_bI (fun c58 => ?_) (fun c58 => ?_)
      · have c58 := bI_0.mp c58
        refine v_iconst C dX8_messageByte_75 ?_
        exact v_iret C E rfl dX8_messageByte_76 (by decide) (by decide) (⟨_, rfl, Or.inr (Or.inr (⟨by omega, rfl, rfl⟩))⟩)
      · have c58 := bI_n0.mp c58
        refine v_aload_n C dX8_messageByte_61 rfl 0 rfl ?_
        refine v_get (v := .ref (ad 2)) C inw_8 0 10 rfl (by decide) (List.mem_cons_of_mem _ mw_105) rfl rfl dX8_messageByte_62 ?_
        refine v_iload_n C dX8_messageByte_65 rfl 1 rfl ?_
        refine v_iload_n C dX8_messageByte_66 rfl 2 rfl ?_
        refine v_iload_n C dX8_messageByte_67 rfl 3 rfl ?_
        refine v_callS (na := 3) (wy := (Cond.code yX8_byteOf cX8_byteOf 3 (some .int) :: wsL_law)) (wc := []) (wr := (mW (vG X) ad (up F 0 (up (F 0) 0 0)))) C [vI s, vI q, vI j] [.ref (ad 2)] (c_X8_byteOf _ _ s q j ) rfl (gwS mw_397 mw_395 mw_396 mw_5) (by decide +kernel) rfl rfl Sb.rf rfl rfl dX8_messageByte_68 (fun r w1 hp68_6 => ?_)
        obtain ⟨rfl, rfl⟩ := hp68_6
        show V X 0 0 71 [(0, .ref (ad 0)), (1, vI s), (2, vI q), (3, vI j)] [vI ((80 + (8 * ((20 * s) + q))) + j), .ref (ad 2)] ((mW (vG X) ad (up F 0 (up (F 0) 0 0))))
        refine v_iald C 2 rfl (by  omega) (by  omega) (by decide) dX8_messageByte_71 ?_
        show V X 0 0 72 [(0, .ref (ad 0)), (1, vI s), (2, vI q), (3, vI j)] [vI (F 2 ((80 + (8 * ((20 * s) + q))) + j))] ((mW (vG X) ad (up F 0 (up (F 0) 0 0))))
        refine v_goto (tgt := 76) C dX8_messageByte_72 (by decide) ?_
        exact v_iret C E rfl dX8_messageByte_76 (by decide) (by decide) (⟨_, rfl, Or.inr (Or.inl ⟨by omega, rfl, rfl⟩)⟩)
    · have c21 := bI_0.mp c21
      refine v_iconst C dX8_messageByte_24 ?_
      refine v_goto (tgt := 29) C dX8_messageByte_25 (by decide) ?_
      refine v_put C inw_8 tyX8 tyX8_ok nmX8 0 0 rfl (by decide) (List.mem_cons_of_mem _ mw_147) rfl rfl rfl rfl (Nat.le_of_ble_eq_true rfl) dX8_messageByte_29 (ws' := (mW (vG X) ad (up F 0 (up (F 0) 0 1)))) rfl ?_
      refine v_aload_n C dX8_messageByte_32 rfl 0 rfl ?_
      refine v_get (v := vI 1) C inw_8 0 0 rfl (by decide) (List.mem_cons_of_mem _ mw_147) rfl rfl dX8_messageByte_33 ?_
      refine v_if_le (tgt := 41) C dX8_messageByte_36 (by decide) (by decide) (fun c => absurd c (by decide)) (fun _ => ?_)
      refine v_iconst C dX8_messageByte_39 ?_
      exact v_iret C E rfl dX8_messageByte_40 (by decide) (by decide) (⟨_, rfl, Or.inl ⟨by omega, rfl, rfl⟩⟩)
set_option maxHeartbeats 4000000 in
set_option maxRecDepth 100000 in
theorem c_X8_undo (G : GG) (l : Launch) (ad : Nat → Nat) (F : Int → Int → Int) (d0 : 0 ≤ F 0 14) (d1 : F 0 14 ≤ 10) : Ct G l yX8_undo (Cond.code yX8_undo cX8_undo 1 (some .int) :: wsL_law) 1 24 0 0 [.ref (ad 0)] ((mW G ad F)) (fun r w => ∃ v : Int, r = some (vI v) ∧ (((F 0 14 = 0) ∧ v = (-1) ∧ w = (mW G ad (up F 0 (up (F 0) 0 0)))) ∨ ((¬ F 0 14 = 0) ∧ v = ((F 0 14) - 1) ∧ w = (mW G ad (up (up F 0 (up (up (F 0) 0 0) 14 ((F 0 14) - 1))) 2 (cpF (F 5) (F 2) ((F 0 14) - 1) 0 441)))))) := by
  refine Ct.of (own := RX8) (cc := cX8_undo) (maxL := 1) (ret := (some .int)) (by decide) rfl rfl (Nat.le_of_ble_eq_true rfl) (fun X C E M hG hl => ?_)
  subst hG hl
  refine v_aload_n C dX8_undo_0 rfl 0 rfl ?_
  refine v_iconst C dX8_undo_1 ?_
  refine v_put C inw_8 tyX8 tyX8_ok nmX8 0 0 rfl (by decide) (List.mem_cons_of_mem _ mw_147) rfl rfl rfl rfl (Nat.le_of_ble_eq_true rfl) dX8_undo_2 (ws' := (mW (vG X) ad (up F 0 (up (F 0) 0 0)))) rfl ?_
  refine v_aload_n C dX8_undo_5 rfl 0 rfl ?_
  refine v_get (v := vI (F 0 14)) C inw_8 0 14 rfl (by decide) (List.mem_cons_of_mem _ mw_125) rfl rfl dX8_undo_6 ?_
  refine v_if_ne (tgt := 14) C dX8_undo_9 (by decide) (by  first | assumption | exact ⟨by omega, by omega⟩) (fun c9 => ?_) (fun c9 => ?_)
  · skip
    refine v_aload_n C dX8_undo_14 rfl 0 rfl ?_
    refine v_dup C dX8_undo_15 rfl ?_
    refine v_get (v := vI (F 0 14)) C inw_8 0 14 rfl (by decide) (List.mem_cons_of_mem _ mw_125) rfl rfl dX8_undo_16 ?_
    refine v_iconst C dX8_undo_19 ?_
    refine v_isub C dX8_undo_20 ?_
    refine v_put C inw_8 tyX8 tyX8_ok nmX8 0 14 rfl (by decide) (List.mem_cons_of_mem _ mw_125) rfl rfl rfl rfl (Nat.le_of_ble_eq_true rfl) dX8_undo_21 (ws' := (mW (vG X) ad (up F 0 (up (up (F 0) 0 0) 14 ((F 0 14) - 1))))) rfl ?_
    refine v_aload_n C dX8_undo_24 rfl 0 rfl ?_
    refine v_get (v := .ref (ad 5)) C inw_8 0 13 rfl (by decide) (List.mem_cons_of_mem _ mw_108) rfl rfl dX8_undo_25 ?_
    refine v_aload_n C dX8_undo_28 rfl 0 rfl ?_
    refine v_get (v := vI ((F 0 14) - 1)) C inw_8 0 14 rfl (by decide) (List.mem_cons_of_mem _ mw_125) rfl rfl dX8_undo_29 ?_
    refine v_aload_n C dX8_undo_32 rfl 0 rfl ?_
    refine v_get (v := .ref (ad 2)) C inw_8 0 10 rfl (by decide) (List.mem_cons_of_mem _ mw_105) rfl rfl dX8_undo_33 ?_
    refine v_iconst C dX8_undo_36 ?_
    refine v_callS (na := 4) (wy := (Cond.code yX8_copy cX8_copy 5 none :: wsL_law)) (wc := [((ad 5), .inl ((vG X).2 1, 4410, .inl (fI (F 5)))), ((ad 2), .inl ((vG X).2 1, 441, .inl (fI (F 2))))]) (wr := [((ad 0), .inr (8, [vI 0, .ref (ad 1), vI (F 0 2), vI (F 0 3), vI (F 0 4), vI (F 0 5), vI (F 0 6), vI (F 0 7), vI (F 0 8), vI (F 0 9), .ref (ad 2), .ref (ad 3), .ref (ad 4), .ref (ad 5), vI ((F 0 14) - 1), .ref (ad 6), .ref (ad 7), vI (F 0 17), vI (F 0 18), .ref (ad 8), vI (F 0 20), .ref (ad 9), vI (F 0 22), vI (F 0 23), vI (F 0 24), vI (F 0 25), vI (F 0 26)])), ((ad 1), .inl ((vG X).2 0, 700, .inl (fI (F 1)))), ((ad 3), .inl ((vG X).2 1, 441, .inl (fI (F 3)))), ((ad 4), .inl ((vG X).2 1, 441, .inl (fI (F 4)))), ((ad 6), .inl ((vG X).2 1, 882, .inl (fI (F 6)))), ((ad 7), .inl ((vG X).2 3, 2, .inl (fI (F 7)))), ((ad 8), .inl ((vG X).2 1, 15, .inl (fI (F 8)))), ((ad 9), .inl ((vG X).2 1, 40, .inl (fI (F 9))))]) C [.ref (ad 5), vI ((F 0 14) - 1), .ref (ad 2), vI 0] [] (c_X8_copy _ _ (ad 5) (ad 2) 4410 441 (F 5) (F 2) ((F 0 14) - 1) 0 (by omega) (by omega) (by decide) (by omega) (by omega) (by decide)) rfl (gwS mw_350 mw_348 mw_349 mw_5) (by decide +kernel) rfl rfl (Sb.pl [5, 2, 0, 1, 3, 4, 6, 7, 8, 9] rfl rfl) rfl rfl dX8_undo_37 (fun r w1 hp37_1 => ?_)
    obtain ⟨rfl, rfl⟩ := hp37_1
    refine V.sb (ws' := (mW (vG X) ad (up (up F 0 (up (up (F 0) 0 0) 14 ((F 0 14) - 1))) 2 (cpF (F 5) (F 2) ((F 0 14) - 1) 0 441)))) (Sb.pl [2, 3, 1, 4, 5, 0, 6, 7, 8, 9] rfl rfl) ?_
    show V X 0 0 40 [(0, .ref (ad 0))] [] ((mW (vG X) ad (up (up F 0 (up (up (F 0) 0 0) 14 ((F 0 14) - 1))) 2 (cpF (F 5) (F 2) ((F 0 14) - 1) 0 441))))
    refine v_aload_n C dX8_undo_40 rfl 0 rfl ?_
    refine v_get (v := vI ((F 0 14) - 1)) C inw_8 0 14 rfl (by decide) (List.mem_cons_of_mem _ mw_125) rfl rfl dX8_undo_41 ?_
    exact v_iret C E rfl dX8_undo_44 (by decide) (by decide) (⟨_, rfl, Or.inr (⟨by omega, rfl, rfl⟩)⟩)
  · skip
    refine v_iconst C dX8_undo_12 ?_
    exact v_iret C E rfl dX8_undo_13 (by decide) (by decide) (⟨_, rfl, Or.inl ⟨by omega, rfl, rfl⟩⟩)
set_option maxHeartbeats 4000000 in
set_option maxRecDepth 100000 in
theorem c_X8_saveSnapshot (G : GG) (l : Launch) (ad : Nat → Nat) (F : Int → Int → Int) (q : Int) (hq : sm q) : Ct G l yX8_saveSnapshot (Cond.code yX8_saveSnapshot cX8_saveSnapshot 2 (some .boolean) :: wsL_law) 1 24 0 0 [.ref (ad 0), vI q] ((mW G ad F)) (fun r w => ∃ v : Int, r = some (vI v) ∧ (((¬ (0 ≤ q ∧ q ≤ 1)) ∧ v = 0 ∧ w = (mW G ad (up F 0 (up (F 0) 0 0)))) ∨ (((0 ≤ q ∧ q ≤ 1)) ∧ v = 1 ∧ w = (mW G ad (up (up (up F 0 (up (F 0) 0 0)) 6 (cpF (F 2) (F 6) 0 q 441)) 7 (up (F 7) q 1)))))) := by
  refine Ct.of (own := RX8) (cc := cX8_saveSnapshot) (maxL := 2) (ret := (some .boolean)) (by decide) rfl rfl (Nat.le_of_ble_eq_true rfl) (fun X C E M hG hl => ?_)
  subst hG hl
  refine v_aload_n C dX8_saveSnapshot_0 rfl 0 rfl ?_
  refine v_iconst C dX8_saveSnapshot_1 ?_
  refine v_put C inw_8 tyX8 tyX8_ok nmX8 0 0 rfl (by decide) (List.mem_cons_of_mem _ mw_147) rfl rfl rfl rfl (Nat.le_of_ble_eq_true rfl) dX8_saveSnapshot_2 (ws' := (mW (vG X) ad (up F 0 (up (F 0) 0 0)))) rfl ?_
  refine v_iload_n C dX8_saveSnapshot_5 rfl 1 rfl ?_
  refine v_iconst C dX8_saveSnapshot_6 ?_
  refine v_iconst C dX8_saveSnapshot_7 ?_
  refine v_callS (na := 3) (wy := (Cond.code yX8_within cX8_within 3 (some .boolean) :: wsL_law)) (wc := []) (wr := (mW (vG X) ad (up F 0 (up (F 0) 0 0)))) C [vI q, vI 0, vI 1] [] (c_X8_within _ _ q 0 1 (by first | assumption | exact ⟨by omega, by omega⟩) (by decide) (by decide)) rfl (gwS mw_343 mw_341 mw_342 mw_5) (by decide +kernel) rfl rfl Sb.rf rfl rfl dX8_saveSnapshot_8 (fun r w1 hp8_1 => ?_)
  obtain ⟨rfl, rfl⟩ := hp8_1
  show V X 0 0 11 [(0, .ref (ad 0)), (1, vI q)] [vI (bI (0 ≤ q ∧ q ≤ 1))] ((mW (vG X) ad (up F 0 (up (F 0) 0 0))))
  refine v_if_ne (tgt := 16) C dX8_saveSnapshot_11 (by decide) sm_bI (fun c11 => ?_) (fun c11 => ?_)
  · have c11 := bI_n0.mp c11
    refine v_aload_n C dX8_saveSnapshot_16 rfl 0 rfl ?_
    refine v_get (v := .ref (ad 2)) C inw_8 0 10 rfl (by decide) (List.mem_cons_of_mem _ mw_105) rfl rfl dX8_saveSnapshot_17 ?_
    refine v_iconst C dX8_saveSnapshot_20 ?_
    refine v_aload_n C dX8_saveSnapshot_21 rfl 0 rfl ?_
    refine v_get (v := .ref (ad 6)) C inw_8 0 15 rfl (by decide) (List.mem_cons_of_mem _ mw_109) rfl rfl dX8_saveSnapshot_22 ?_
    refine v_iload_n C dX8_saveSnapshot_25 rfl 1 rfl ?_
    refine v_callS (na := 4) (wy := (Cond.code yX8_copy cX8_copy 5 none :: wsL_law)) (wc := [((ad 2), .inl ((vG X).2 1, 441, .inl (fI (F 2)))), ((ad 6), .inl ((vG X).2 1, 882, .inl (fI (F 6))))]) (wr := [((ad 0), .inr (8, [vI 0, .ref (ad 1), vI (F 0 2), vI (F 0 3), vI (F 0 4), vI (F 0 5), vI (F 0 6), vI (F 0 7), vI (F 0 8), vI (F 0 9), .ref (ad 2), .ref (ad 3), .ref (ad 4), .ref (ad 5), vI (F 0 14), .ref (ad 6), .ref (ad 7), vI (F 0 17), vI (F 0 18), .ref (ad 8), vI (F 0 20), .ref (ad 9), vI (F 0 22), vI (F 0 23), vI (F 0 24), vI (F 0 25), vI (F 0 26)])), ((ad 1), .inl ((vG X).2 0, 700, .inl (fI (F 1)))), ((ad 3), .inl ((vG X).2 1, 441, .inl (fI (F 3)))), ((ad 4), .inl ((vG X).2 1, 441, .inl (fI (F 4)))), ((ad 5), .inl ((vG X).2 1, 4410, .inl (fI (F 5)))), ((ad 7), .inl ((vG X).2 3, 2, .inl (fI (F 7)))), ((ad 8), .inl ((vG X).2 1, 15, .inl (fI (F 8)))), ((ad 9), .inl ((vG X).2 1, 40, .inl (fI (F 9))))]) C [.ref (ad 2), vI 0, .ref (ad 6), vI q] [] (c_X8_copy _ _ (ad 2) (ad 6) 441 882 (F 2) (F 6) 0 q (by omega) (by omega) (by decide) (by omega) (by omega) (by decide)) rfl (gwS mw_350 mw_348 mw_349 mw_5) (by decide +kernel) rfl rfl (Sb.pl [2, 6, 0, 1, 3, 4, 5, 7, 8, 9] rfl rfl) rfl rfl dX8_saveSnapshot_26 (fun r w1 hp26_2 => ?_)
    obtain ⟨rfl, rfl⟩ := hp26_2
    refine V.sb (ws' := (mW (vG X) ad (up (up F 0 (up (F 0) 0 0)) 6 (cpF (F 2) (F 6) 0 q 441)))) (Sb.pl [2, 3, 0, 4, 5, 6, 1, 7, 8, 9] rfl rfl) ?_
    show V X 0 0 29 [(0, .ref (ad 0)), (1, vI q)] [] ((mW (vG X) ad (up (up F 0 (up (F 0) 0 0)) 6 (cpF (F 2) (F 6) 0 q 441))))
    refine v_aload_n C dX8_saveSnapshot_29 rfl 0 rfl ?_
    refine v_get (v := .ref (ad 7)) C inw_8 0 16 rfl (by decide) (List.mem_cons_of_mem _ mw_111) rfl rfl dX8_saveSnapshot_30 ?_
    refine v_iload_n C dX8_saveSnapshot_33 rfl 1 rfl ?_
    refine v_iconst C dX8_saveSnapshot_34 ?_
    refine v_zast C 7 rfl (by  omega) (by  omega) (by decide) (by decide +kernel) dX8_saveSnapshot_35 (ws' := (mW (vG X) ad (up (up (up F 0 (up (F 0) 0 0)) 6 (cpF (F 2) (F 6) 0 q 441)) 7 (up (F 7) q 1)))) rfl ?_
    refine v_iconst C dX8_saveSnapshot_36 ?_
    exact v_zret C E rfl rfl dX8_saveSnapshot_37 (by decide) (by decide) (⟨_, rfl, Or.inr (⟨by omega, rfl, rfl⟩)⟩)
  · have c11 := bI_0.mp c11
    refine v_iconst C dX8_saveSnapshot_14 ?_
    exact v_zret C E rfl rfl dX8_saveSnapshot_15 (by decide) (by decide) (⟨_, rfl, Or.inl ⟨by omega, rfl, rfl⟩⟩)
set_option maxHeartbeats 4000000 in
set_option maxRecDepth 100000 in
theorem c_X8_restoreSnapshot (G : GG) (l : Launch) (ad : Nat → Nat) (F : Int → Int → Int) (q : Int) (hq : sm q) (hsv : ∀ j, F 7 j = 0 ∨ F 7 j = 1) : Ct G l yX8_restoreSnapshot (Cond.code yX8_restoreSnapshot cX8_restoreSnapshot 2 (some .boolean) :: wsL_law) 1 24 0 0 [.ref (ad 0), vI q] ((mW G ad F)) (fun r w => ∃ v : Int, r = some (vI v) ∧ (((¬ ((0 ≤ q ∧ q ≤ 1) ∧ F 7 q = 1)) ∧ v = 0 ∧ w = (mW G ad (up F 0 (up (F 0) 0 0)))) ∨ ((((0 ≤ q ∧ q ≤ 1) ∧ F 7 q = 1)) ∧ v = 1 ∧ w = (mW G ad (up (up F 0 (up (up (F 0) 0 0) 14 0)) 2 (cpF (F 6) (F 2) q 0 441)))))) := by
  refine Ct.of (own := RX8) (cc := cX8_restoreSnapshot) (maxL := 2) (ret := (some .boolean)) (by decide) rfl rfl (Nat.le_of_ble_eq_true rfl) (fun X C E M hG hl => ?_)
  subst hG hl
  have hsq := hsv q
  refine v_aload_n C dX8_restoreSnapshot_0 rfl 0 rfl ?_
  refine v_iconst C dX8_restoreSnapshot_1 ?_
  refine v_put C inw_8 tyX8 tyX8_ok nmX8 0 0 rfl (by decide) (List.mem_cons_of_mem _ mw_147) rfl rfl rfl rfl (Nat.le_of_ble_eq_true rfl) dX8_restoreSnapshot_2 (ws' := (mW (vG X) ad (up F 0 (up (F 0) 0 0)))) rfl ?_
  refine v_iload_n C dX8_restoreSnapshot_5 rfl 1 rfl ?_
  refine v_iconst C dX8_restoreSnapshot_6 ?_
  refine v_iconst C dX8_restoreSnapshot_7 ?_
  refine v_callS (na := 3) (wy := (Cond.code yX8_within cX8_within 3 (some .boolean) :: wsL_law)) (wc := []) (wr := (mW (vG X) ad (up F 0 (up (F 0) 0 0)))) C [vI q, vI 0, vI 1] [] (c_X8_within _ _ q 0 1 (by first | assumption | exact ⟨by omega, by omega⟩) (by decide) (by decide)) rfl (gwS mw_343 mw_341 mw_342 mw_5) (by decide +kernel) rfl rfl Sb.rf rfl rfl dX8_restoreSnapshot_8 (fun r w1 hp8_1 => ?_)
  obtain ⟨rfl, rfl⟩ := hp8_1
  show V X 0 0 11 [(0, .ref (ad 0)), (1, vI q)] [vI (bI (0 ≤ q ∧ q ≤ 1))] ((mW (vG X) ad (up F 0 (up (F 0) 0 0))))
  refine v_if_eq (tgt := 23) C dX8_restoreSnapshot_11 (by decide) sm_bI (fun c11 => ?_) (fun c11 => ?_)
  · have c11 := bI_0.mp c11
    refine v_iconst C dX8_restoreSnapshot_23 ?_
    exact v_zret C E rfl rfl dX8_restoreSnapshot_24 (by decide) (by decide) (⟨_, rfl, Or.inl ⟨by omega, rfl, rfl⟩⟩)
  · have c11 := bI_n0.mp c11
    refine v_aload_n C dX8_restoreSnapshot_14 rfl 0 rfl ?_
    refine v_get (v := .ref (ad 7)) C inw_8 0 16 rfl (by decide) (List.mem_cons_of_mem _ mw_111) rfl rfl dX8_restoreSnapshot_15 ?_
    refine v_iload_n C dX8_restoreSnapshot_18 rfl 1 rfl ?_
    refine v_zald C 7 rfl (by  omega) (by  omega) (by decide) dX8_restoreSnapshot_19 ?_
    show V X 0 0 20 [(0, .ref (ad 0)), (1, vI q)] [vI (F 7 q)] ((mW (vG X) ad (up F 0 (up (F 0) 0 0))))
    refine v_if_ne (tgt := 25) C dX8_restoreSnapshot_20 (by decide) (by have := hsv q; first | assumption | exact ⟨by omega, by omega⟩) (fun c20 => ?_) (fun c20 => ?_)
    · skip
      refine v_aload_n C dX8_restoreSnapshot_25 rfl 0 rfl ?_
      refine v_get (v := .ref (ad 6)) C inw_8 0 15 rfl (by decide) (List.mem_cons_of_mem _ mw_109) rfl rfl dX8_restoreSnapshot_26 ?_
      refine v_iload_n C dX8_restoreSnapshot_29 rfl 1 rfl ?_
      refine v_aload_n C dX8_restoreSnapshot_30 rfl 0 rfl ?_
      refine v_get (v := .ref (ad 2)) C inw_8 0 10 rfl (by decide) (List.mem_cons_of_mem _ mw_105) rfl rfl dX8_restoreSnapshot_31 ?_
      refine v_iconst C dX8_restoreSnapshot_34 ?_
      refine v_callS (na := 4) (wy := (Cond.code yX8_copy cX8_copy 5 none :: wsL_law)) (wc := [((ad 6), .inl ((vG X).2 1, 882, .inl (fI (F 6)))), ((ad 2), .inl ((vG X).2 1, 441, .inl (fI (F 2))))]) (wr := [((ad 0), .inr (8, [vI 0, .ref (ad 1), vI (F 0 2), vI (F 0 3), vI (F 0 4), vI (F 0 5), vI (F 0 6), vI (F 0 7), vI (F 0 8), vI (F 0 9), .ref (ad 2), .ref (ad 3), .ref (ad 4), .ref (ad 5), vI (F 0 14), .ref (ad 6), .ref (ad 7), vI (F 0 17), vI (F 0 18), .ref (ad 8), vI (F 0 20), .ref (ad 9), vI (F 0 22), vI (F 0 23), vI (F 0 24), vI (F 0 25), vI (F 0 26)])), ((ad 1), .inl ((vG X).2 0, 700, .inl (fI (F 1)))), ((ad 3), .inl ((vG X).2 1, 441, .inl (fI (F 3)))), ((ad 4), .inl ((vG X).2 1, 441, .inl (fI (F 4)))), ((ad 5), .inl ((vG X).2 1, 4410, .inl (fI (F 5)))), ((ad 7), .inl ((vG X).2 3, 2, .inl (fI (F 7)))), ((ad 8), .inl ((vG X).2 1, 15, .inl (fI (F 8)))), ((ad 9), .inl ((vG X).2 1, 40, .inl (fI (F 9))))]) C [.ref (ad 6), vI q, .ref (ad 2), vI 0] [] (c_X8_copy _ _ (ad 6) (ad 2) 882 441 (F 6) (F 2) q 0 (by omega) (by omega) (by decide) (by omega) (by omega) (by decide)) rfl (gwS mw_350 mw_348 mw_349 mw_5) (by decide +kernel) rfl rfl (Sb.pl [6, 2, 0, 1, 3, 4, 5, 7, 8, 9] rfl rfl) rfl rfl dX8_restoreSnapshot_35 (fun r w1 hp35_2 => ?_)
      obtain ⟨rfl, rfl⟩ := hp35_2
      refine V.sb (ws' := (mW (vG X) ad (up (up F 0 (up (F 0) 0 0)) 2 (cpF (F 6) (F 2) q 0 441)))) (Sb.pl [2, 3, 1, 4, 5, 6, 0, 7, 8, 9] rfl rfl) ?_
      show V X 0 0 38 [(0, .ref (ad 0)), (1, vI q)] [] ((mW (vG X) ad (up (up F 0 (up (F 0) 0 0)) 2 (cpF (F 6) (F 2) q 0 441))))
      refine v_aload_n C dX8_restoreSnapshot_38 rfl 0 rfl ?_
      refine v_iconst C dX8_restoreSnapshot_39 ?_
      refine v_put C inw_8 tyX8 tyX8_ok nmX8 0 14 rfl (by decide) (List.mem_cons_of_mem _ mw_125) rfl rfl rfl rfl (Nat.le_of_ble_eq_true rfl) dX8_restoreSnapshot_40 (ws' := (mW (vG X) ad (up (up F 0 (up (up (F 0) 0 0) 14 0)) 2 (cpF (F 6) (F 2) q 0 441)))) rfl ?_
      refine v_iconst C dX8_restoreSnapshot_43 ?_
      exact v_zret C E rfl rfl dX8_restoreSnapshot_44 (by decide) (by decide) (⟨_, rfl, Or.inr (⟨by omega, rfl, rfl⟩)⟩)
    · skip
      refine v_iconst C dX8_restoreSnapshot_23 ?_
      exact v_zret C E rfl rfl dX8_restoreSnapshot_24 (by decide) (by decide) (⟨_, rfl, Or.inl ⟨by omega, rfl, rfl⟩⟩)
set_option maxHeartbeats 4000000 in
set_option maxRecDepth 100000 in
theorem c_X8_thrown (G : GG) (l : Launch) (ad : Nat → Nat) (F : Int → Int → Int)  : Ct G l yX8_thrown (Cond.code yX8_thrown cX8_thrown 1 (some .int) :: wsL_law) 0 0 0 0 [.ref (ad 0)] ((mW G ad F)) (fun r w => ∃ v : Int, r = some (vI v) ∧ ((v = (F 0 0) ∧ w = (mW G ad F)))) := by
  refine Ct.of (own := RX8) (cc := cX8_thrown) (maxL := 1) (ret := (some .int)) (by decide) rfl rfl (Nat.le_of_ble_eq_true rfl) (fun X C E M hG hl => ?_)
  subst hG hl
  refine v_aload_n C dX8_thrown_0 rfl 0 rfl ?_
  refine v_get (v := vI (F 0 0)) C inw_8 0 0 rfl (by decide) (List.mem_cons_of_mem _ mw_147) rfl rfl dX8_thrown_1 ?_
  exact v_iret C E rfl dX8_thrown_4 (by decide) (by decide) (⟨_, rfl, ⟨rfl, rfl⟩⟩)
set_option maxHeartbeats 4000000 in
set_option maxRecDepth 100000 in
theorem c_X8_fail (G : GG) (l : Launch) (ad : Nat → Nat) (F : Int → Int → Int) (q : Int)  : Ct G l yX8_fail (Cond.code yX8_fail cX8_fail 2 (some .int) :: wsL_law) 0 0 0 0 [.ref (ad 0), vI q] ((mW G ad F)) (fun r w => ∃ v : Int, r = some (vI v) ∧ ((v = 0 ∧ w = (mW G ad (up F 0 (up (F 0) 0 q)))))) := by
  refine Ct.of (own := RX8) (cc := cX8_fail) (maxL := 2) (ret := (some .int)) (by decide) rfl rfl (Nat.le_of_ble_eq_true rfl) (fun X C E M hG hl => ?_)
  subst hG hl
  refine v_aload_n C dX8_fail_0 rfl 0 rfl ?_
  refine v_iload_n C dX8_fail_1 rfl 1 rfl ?_
  refine v_put C inw_8 tyX8 tyX8_ok nmX8 0 0 rfl (by decide) (List.mem_cons_of_mem _ mw_147) rfl rfl rfl rfl (Nat.le_of_ble_eq_true rfl) dX8_fail_2 (ws' := (mW (vG X) ad (up F 0 (up (F 0) 0 q)))) rfl ?_
  refine v_iconst C dX8_fail_5 ?_
  exact v_iret C E rfl dX8_fail_6 (by decide) (by decide) (⟨_, rfl, ⟨rfl, rfl⟩⟩)
set_option maxHeartbeats 4000000 in
set_option maxRecDepth 100000 in
theorem c_X8_next (G : GG) (l : Launch) (ad : Nat → Nat) (F : Int → Int → Int) (q : Int) (hq : sm q) (hT : F 2 1 = 0 ∨ F 2 1 = 1) (hB : sB 1000000 (F 2)) (h70 : 0 ≤ F 2 7) (h7 : F 2 7 ≤ 40) (hd1 : isDataP (F 2) → 0 ≤ F 2 (18 + 11 * F 2 1 + 6) + F 2 2 ∧ F 2 (18 + 11 * F 2 1 + 6) + F 2 2 < 20) (hd2 : isDataP (F 2) → 0 ≤ dl (F 2) ∧ dl (F 2) ≤ 8) : Ct G l yX8_next (Cond.code yX8_next cX8_next 2 (some .int) :: wsL_law) 5 109 0 0 [.ref (ad 0), vI q] ((mW G ad F)) (fun r w => ∃ v : Int, r = some (vI v) ∧ (((¬ (0 ≤ q ∧ q ≤ 5)) ∧ v = 0 ∧ w = mW G ad (up F 0 (up (F 0) 0 1))) ∨ (((0 ≤ q ∧ q ≤ 5)) ∧ v = nxF (F 2) q ∧ ∃ (x y z : Int) (f8 f9 : Int → Int), w = mW G ad (up (up (up F 0 (up (up (up (up (F 0) 0 0) 20 x) 22 y) 23 z)) 8 f8) 9 f9)))) := by
  refine Ct.of (own := RX8) (cc := cX8_next) (maxL := 2) (ret := (some .int)) (by decide) rfl rfl (Nat.le_of_ble_eq_true rfl) (fun X C E M hG hl => ?_)
  subst hG hl
  have h7 : F 2 7 ≤ 41 := by omega
  refine v_aload_n C dX8_next_0 rfl 0 rfl ?_
  refine v_iload_n C dX8_next_1 rfl 1 rfl ?_
  refine v_iconst C dX8_next_2 ?_
  refine v_iconst C dX8_next_3 ?_
  refine v_callS (na := 3) (wy := (Cond.code yX8_within cX8_within 3 (some .boolean) :: wsL_law)) (wc := []) (wr := (mW (vG X) ad F)) C [vI q, vI 0, vI 5] [.ref (ad 0)] (c_X8_within _ _ q 0 5 (by first | assumption | exact ⟨by omega, by omega⟩) (by decide) (by decide)) rfl (gwS mw_343 mw_341 mw_342 mw_5) (by decide +kernel) rfl rfl Sb.rf rfl rfl dX8_next_4 (fun r w1 hp4_1 => ?_)
  obtain ⟨rfl, rfl⟩ := hp4_1
  show V X 0 0 7 [(0, .ref (ad 0)), (1, vI q)] [vI (bI (0 ≤ q ∧ q ≤ 5)), .ref (ad 0)] ((mW (vG X) ad F))
  refine v_if_eq (tgt := 14) C dX8_next_7 (by decide) sm_bI (fun c7 => ?_) (fun c7 => ?_)
  · have c7 := bI_0.mp c7
    refine v_iconst C dX8_next_14 ?_
    refine v_put C inw_8 tyX8 tyX8_ok nmX8 0 0 rfl (by decide) (List.mem_cons_of_mem _ mw_147) rfl rfl rfl rfl (Nat.le_of_ble_eq_true rfl) dX8_next_15 (ws' := (mW (vG X) ad (up F 0 (up (F 0) 0 1)))) rfl ?_
    refine v_aload_n C dX8_next_18 rfl 0 rfl ?_
    refine v_get (v := vI 1) C inw_8 0 0 rfl (by decide) (List.mem_cons_of_mem _ mw_147) rfl rfl dX8_next_19 ?_
    refine v_if_le (tgt := 27) C dX8_next_22 (by decide) (by decide) (fun c => absurd c (by decide)) (fun _ => ?_)
    refine v_iconst C dX8_next_25 ?_
    exact v_iret C E rfl dX8_next_26 (by decide) (by decide) (⟨_, rfl, Or.inl ⟨by omega, rfl, rfl⟩⟩)
  · have c7 := bI_n0.mp c7
    refine v_iconst C dX8_next_10 ?_
    refine v_goto (tgt := 15) C dX8_next_11 (by decide) ?_
    refine v_put C inw_8 tyX8 tyX8_ok nmX8 0 0 rfl (by decide) (List.mem_cons_of_mem _ mw_147) rfl rfl rfl rfl (Nat.le_of_ble_eq_true rfl) dX8_next_15 (ws' := (mW (vG X) ad (up F 0 (up (F 0) 0 0)))) rfl ?_
    refine v_aload_n C dX8_next_18 rfl 0 rfl ?_
    refine v_get (v := vI 0) C inw_8 0 0 rfl (by decide) (List.mem_cons_of_mem _ mw_147) rfl rfl dX8_next_19 ?_
    refine v_if_le (tgt := 27) C dX8_next_22 (by decide) (by decide) (fun _ => ?_) (fun c => absurd (by decide) c)
    refine v_aload_n C dX8_next_27 rfl 0 rfl ?_
    refine v_callV (na := 0) (wy := (Cond.code yX8_lays cX8_lays 6 none :: wsL_law)) (wc := (mW (vG X) ad (up F 0 (up (F 0) 0 0)))) (wr := []) C [] [] (c_X8_lays _ _ ad (up F 0 (up (F 0) 0 0)) hT (sB_mono (by decide) hB) hd1 hd2) rfl (gwV mw_536 mw_533 mw_534 mw_535 mw_5) rfl (by decide +kernel) 0 rfl rfl rfl rfl Sb.w rfl rfl dX8_next_28 (fun r w1 hp28_2 => ?_)
    obtain ⟨rfl, f8, f9, rfl, hf8, hf9, hf9e⟩ := hp28_2
    show V X 0 0 31 [(0, .ref (ad 0)), (1, vI q)] [] ((mW (vG X) ad (up (up (up F 0 (up (up (up (up (F 0) 0 0) 20 (7 + dl (F 2))) 22 (2 + (7 + dl (F 2)) + (escI (pbF (F 2)) (7 + dl (F 2))))) 23 (escI (pbF (F 2)) (7 + dl (F 2))))) 8 (f8)) 9 (f9))))
    rcases (show q = 0 ∨ q = 1 ∨ q = 2 ∨ q = 3 ∨ q = 4 ∨ q = 5 by omega) with rfl | rfl | rfl | rfl | rfl | rfl
    · skip
      refine v_iload_n C dX8_next_31 rfl 1 rfl ?_
      refine v_tabIn (tgt := 68) C dX8_next_32 (by decide) (by decide) (by decide) rfl (by decide) ?_
      refine v_aload_n C dX8_next_68 rfl 0 rfl ?_
      refine v_callV (na := 0) (wy := (Cond.code yX8_isData cX8_isData 2 (some .boolean) :: wsL_law)) (wc := (mW (vG X) ad (up (up (up F 0 (up (up (up (up (F 0) 0 0) 20 (7 + dl (F 2))) 22 (2 + (7 + dl (F 2)) + (escI (pbF (F 2)) (7 + dl (F 2))))) 23 (escI (pbF (F 2)) (7 + dl (F 2))))) 8 (f8)) 9 (f9)))) (wr := []) C [] [] (c_X8_isData _ _ ad (up (up (up F 0 (up (up (up (up (F 0) 0 0) 20 (7 + dl (F 2))) 22 (2 + (7 + dl (F 2)) + (escI (pbF (F 2)) (7 + dl (F 2))))) 23 (escI (pbF (F 2)) (7 + dl (F 2))))) 8 (f8)) 9 (f9)) hT (sB_mono (by decide) hB)) rfl (gwV mw_542 mw_539 mw_540 mw_541 mw_5) rfl (by decide +kernel) 0 rfl rfl rfl rfl Sb.w rfl rfl dX8_next_69 (fun r w1 hp69_3 => ?_)
      obtain ⟨rfl, rfl⟩ := hp69_3
      show V X 0 0 72 [(0, .ref (ad 0)), (1, vI 0)] [vI (bI (isDataP (F 2)))] ((mW (vG X) ad (up (up (up F 0 (up (up (up (up (F 0) 0 0) 20 (7 + dl (F 2))) 22 (2 + (7 + dl (F 2)) + (escI (pbF (F 2)) (7 + dl (F 2))))) 23 (escI (pbF (F 2)) (7 + dl (F 2))))) 8 (f8)) 9 (f9))))
      refine v_if_eq (tgt := 79) C dX8_next_72 (by decide) sm_bI (fun c72 => ?_) (fun c72 => ?_)
      · have c72 := bI_0.mp c72
        refine v_iconst C dX8_next_79 ?_
        exact v_iret C E rfl dX8_next_80 (by decide) (by decide) (⟨_, rfl, Or.inr (⟨by omega, (if_neg c72).symm, ⟨_, _, _, _, _, rfl⟩⟩)⟩)
      · have c72 := bI_n0.mp c72
        refine v_iconst C dX8_next_75 ?_
        refine v_goto (tgt := 80) C dX8_next_76 (by decide) ?_
        exact v_iret C E rfl dX8_next_80 (by decide) (by decide) (⟨_, rfl, Or.inr (⟨by omega, (if_pos c72).symm, ⟨_, _, _, _, _, rfl⟩⟩)⟩)
    · skip
      refine v_iload_n C dX8_next_31 rfl 1 rfl ?_
      refine v_tabIn (tgt := 81) C dX8_next_32 (by decide) (by decide) (by decide) rfl (by decide) ?_
      refine v_aload_n C dX8_next_81 rfl 0 rfl ?_
      refine v_get (v := .ref (ad 2)) C inw_8 0 10 rfl (by decide) (List.mem_cons_of_mem _ mw_105) rfl rfl dX8_next_82 ?_
      refine v_iconst C dX8_next_85 ?_
      refine v_iald C 2 rfl (by decide) (by decide) (by decide) dX8_next_86 ?_
      show V X 0 0 87 [(0, .ref (ad 0)), (1, vI 1)] [vI (F 2 1)] ((mW (vG X) ad (up (up (up F 0 (up (up (up (up (F 0) 0 0) 20 (7 + dl (F 2))) 22 (2 + (7 + dl (F 2)) + (escI (pbF (F 2)) (7 + dl (F 2))))) 23 (escI (pbF (F 2)) (7 + dl (F 2))))) 8 (f8)) 9 (f9))))
      exact v_iret C E rfl dX8_next_87 (by decide) (by decide) (⟨_, rfl, Or.inr (⟨by omega, rfl, ⟨_, _, _, _, _, rfl⟩⟩)⟩)
    · skip
      refine v_iload_n C dX8_next_31 rfl 1 rfl ?_
      refine v_tabIn (tgt := 88) C dX8_next_32 (by decide) (by decide) (by decide) rfl (by decide) ?_
      refine v_aload_n C dX8_next_88 rfl 0 rfl ?_
      refine v_callV (na := 0) (wy := (Cond.code yX8_isData cX8_isData 2 (some .boolean) :: wsL_law)) (wc := (mW (vG X) ad (up (up (up F 0 (up (up (up (up (F 0) 0 0) 20 (7 + dl (F 2))) 22 (2 + (7 + dl (F 2)) + (escI (pbF (F 2)) (7 + dl (F 2))))) 23 (escI (pbF (F 2)) (7 + dl (F 2))))) 8 (f8)) 9 (f9)))) (wr := []) C [] [] (c_X8_isData _ _ ad (up (up (up F 0 (up (up (up (up (F 0) 0 0) 20 (7 + dl (F 2))) 22 (2 + (7 + dl (F 2)) + (escI (pbF (F 2)) (7 + dl (F 2))))) 23 (escI (pbF (F 2)) (7 + dl (F 2))))) 8 (f8)) 9 (f9)) hT (sB_mono (by decide) hB)) rfl (gwV mw_542 mw_539 mw_540 mw_541 mw_5) rfl (by decide +kernel) 0 rfl rfl rfl rfl Sb.w rfl rfl dX8_next_89 (fun r w1 hp89_4 => ?_)
      obtain ⟨rfl, rfl⟩ := hp89_4
      show V X 0 0 92 [(0, .ref (ad 0)), (1, vI 2)] [vI (bI (isDataP (F 2)))] ((mW (vG X) ad (up (up (up F 0 (up (up (up (up (F 0) 0 0) 20 (7 + dl (F 2))) 22 (2 + (7 + dl (F 2)) + (escI (pbF (F 2)) (7 + dl (F 2))))) 23 (escI (pbF (F 2)) (7 + dl (F 2))))) 8 (f8)) 9 (f9))))
      refine v_if_eq (tgt := 102) C dX8_next_92 (by decide) sm_bI (fun c92 => ?_) (fun c92 => ?_)
      · have c92 := bI_0.mp c92
        refine v_aload_n C dX8_next_102 rfl 0 rfl ?_
        refine v_aload_n C dX8_next_103 rfl 0 rfl ?_
        refine v_get (v := .ref (ad 2)) C inw_8 0 10 rfl (by decide) (List.mem_cons_of_mem _ mw_105) rfl rfl dX8_next_104 ?_
        refine v_iconst C dX8_next_107 ?_
        refine v_iald C 2 rfl (by decide) (by decide) (by decide) dX8_next_108 ?_
        show V X 0 0 109 [(0, .ref (ad 0)), (1, vI 2)] [vI (F 2 1), .ref (ad 0)] ((mW (vG X) ad (up (up (up F 0 (up (up (up (up (F 0) 0 0) 20 (7 + dl (F 2))) 22 (2 + (7 + dl (F 2)) + (escI (pbF (F 2)) (7 + dl (F 2))))) 23 (escI (pbF (F 2)) (7 + dl (F 2))))) 8 (f8)) 9 (f9))))
        refine v_bipush C dX8_next_109 (by decide +kernel) ?_
        refine v_callV (na := 2) (wy := (Cond.code yX8_of cX8_of 3 (some .int) :: wsL_law)) (wc := (mW (vG X) ad (up (up (up F 0 (up (up (up (up (F 0) 0 0) 20 (7 + dl (F 2))) 22 (2 + (7 + dl (F 2)) + (escI (pbF (F 2)) (7 + dl (F 2))))) 23 (escI (pbF (F 2)) (7 + dl (F 2))))) 8 (f8)) 9 (f9)))) (wr := []) C [vI (F 2 1), vI 9] [] (c_X8_of _ _ ad (up (up (up F 0 (up (up (up (up (F 0) 0 0) 20 (7 + dl (F 2))) 22 (2 + (7 + dl (F 2)) + (escI (pbF (F 2)) (7 + dl (F 2))))) 23 (escI (pbF (F 2)) (7 + dl (F 2))))) 8 (f8)) 9 (f9)) (F 2 1) 9 (by have := hB 1; omega) (by have := hB 1; omega)) rfl (gwV mw_129 mw_126 mw_127 mw_128 mw_5) rfl (by decide +kernel) 0 rfl rfl rfl rfl Sb.w rfl rfl dX8_next_111 (fun r w1 hp111_5 => ?_)
        obtain ⟨rfl, rfl⟩ := hp111_5
        show V X 0 0 114 [(0, .ref (ad 0)), (1, vI 2)] [vI (F 2 ((18 + (11 * (F 2 1))) + 9))] ((mW (vG X) ad (up (up (up F 0 (up (up (up (up (F 0) 0 0) 20 (7 + dl (F 2))) 22 (2 + (7 + dl (F 2)) + (escI (pbF (F 2)) (7 + dl (F 2))))) 23 (escI (pbF (F 2)) (7 + dl (F 2))))) 8 (f8)) 9 (f9))))
        exact v_iret C E rfl dX8_next_114 (by decide) (by decide) (⟨_, rfl, Or.inr (⟨by omega, (if_neg c92).symm, ⟨_, _, _, _, _, rfl⟩⟩)⟩)
      · have c92 := bI_n0.mp c92
        refine v_aload_n C dX8_next_95 rfl 0 rfl ?_
        refine v_callV (na := 0) (wy := (Cond.code yX8_nextMessage cX8_nextMessage 1 (some .int) :: wsL_law)) (wc := (mW (vG X) ad (up (up (up F 0 (up (up (up (up (F 0) 0 0) 20 (7 + dl (F 2))) 22 (2 + (7 + dl (F 2)) + (escI (pbF (F 2)) (7 + dl (F 2))))) 23 (escI (pbF (F 2)) (7 + dl (F 2))))) 8 (f8)) 9 (f9)))) (wr := []) C [] [] (c_X8_nextMessage _ _ ad (up (up (up F 0 (up (up (up (up (F 0) 0 0) 20 (7 + dl (F 2))) 22 (2 + (7 + dl (F 2)) + (escI (pbF (F 2)) (7 + dl (F 2))))) 23 (escI (pbF (F 2)) (7 + dl (F 2))))) 8 (f8)) 9 (f9)) hT) rfl (gwV mw_546 mw_543 mw_544 mw_545 mw_5) rfl (by decide +kernel) 0 rfl rfl rfl rfl Sb.w rfl rfl dX8_next_96 (fun r w1 hp96_6 => ?_)
        obtain ⟨rfl, rfl⟩ := hp96_6
        show V X 0 0 99 [(0, .ref (ad 0)), (1, vI 2)] [vI ((F 2 ((18 + (11 * (F 2 1))) + 6)) + (F 2 2))] ((mW (vG X) ad (up (up (up F 0 (up (up (up (up (F 0) 0 0) 20 (7 + dl (F 2))) 22 (2 + (7 + dl (F 2)) + (escI (pbF (F 2)) (7 + dl (F 2))))) 23 (escI (pbF (F 2)) (7 + dl (F 2))))) 8 (f8)) 9 (f9))))
        refine v_goto (tgt := 114) C dX8_next_99 (by decide) ?_
        exact v_iret C E rfl dX8_next_114 (by decide) (by decide) (⟨_, rfl, Or.inr (⟨by omega, (if_pos c92).symm, ⟨_, _, _, _, _, rfl⟩⟩)⟩)
    · skip
      refine v_iload_n C dX8_next_31 rfl 1 rfl ?_
      refine v_tabIn (tgt := 115) C dX8_next_32 (by decide) (by decide) (by decide) rfl (by decide) ?_
      refine v_aload_n C dX8_next_115 rfl 0 rfl ?_
      refine v_get (v := vI (2 + (7 + dl (F 2)) + (escI (pbF (F 2)) (7 + dl (F 2))))) C inw_8 0 22 rfl (by decide) (List.mem_cons_of_mem _ mw_532) rfl rfl dX8_next_116 ?_
      exact v_iret C E rfl dX8_next_119 (by decide) (by decide) (⟨_, rfl, Or.inr (⟨by omega, rfl, ⟨_, _, _, _, _, rfl⟩⟩)⟩)
    · skip
      refine v_iload_n C dX8_next_31 rfl 1 rfl ?_
      refine v_tabIn (tgt := 120) C dX8_next_32 (by decide) (by decide) (by decide) rfl (by decide) ?_
      refine v_aload_n C dX8_next_120 rfl 0 rfl ?_
      refine v_get (v := .ref (ad 2)) C inw_8 0 10 rfl (by decide) (List.mem_cons_of_mem _ mw_105) rfl rfl dX8_next_121 ?_
      refine v_iconst C dX8_next_124 ?_
      refine v_iald C 2 rfl (by decide) (by decide) (by decide) dX8_next_125 ?_
      show V X 0 0 126 [(0, .ref (ad 0)), (1, vI 4)] [vI (F 2 3)] ((mW (vG X) ad (up (up (up F 0 (up (up (up (up (F 0) 0 0) 20 (7 + dl (F 2))) 22 (2 + (7 + dl (F 2)) + (escI (pbF (F 2)) (7 + dl (F 2))))) 23 (escI (pbF (F 2)) (7 + dl (F 2))))) 8 (f8)) 9 (f9))))
      exact v_iret C E rfl dX8_next_126 (by decide) (by decide) (⟨_, rfl, Or.inr (⟨by omega, rfl, ⟨_, _, _, _, _, rfl⟩⟩)⟩)
    · skip
      refine v_iload_n C dX8_next_31 rfl 1 rfl ?_
      refine v_tabOut (tgt := 127) C dX8_next_32 (by decide) (by decide) (by decide) ?_
      refine v_aload_n C dX8_next_127 rfl 0 rfl ?_
      refine v_aload_n C dX8_next_128 rfl 0 rfl ?_
      refine v_get (v := .ref (ad 2)) C inw_8 0 10 rfl (by decide) (List.mem_cons_of_mem _ mw_105) rfl rfl dX8_next_129 ?_
      refine v_iconst C dX8_next_132 ?_
      refine v_iald C 2 rfl (by decide) (by decide) (by decide) dX8_next_133 ?_
      show V X 0 0 134 [(0, .ref (ad 0)), (1, vI 5)] [vI (F 2 3), .ref (ad 0)] ((mW (vG X) ad (up (up (up F 0 (up (up (up (up (F 0) 0 0) 20 (7 + dl (F 2))) 22 (2 + (7 + dl (F 2)) + (escI (pbF (F 2)) (7 + dl (F 2))))) 23 (escI (pbF (F 2)) (7 + dl (F 2))))) 8 (f8)) 9 (f9))))
      refine v_callV (na := 1) (wy := (Cond.code yX8_isLost cX8_isLost 4 (some .boolean) :: wsL_law)) (wc := (mW (vG X) ad (up (up (up F 0 (up (up (up (up (F 0) 0 0) 20 (7 + dl (F 2))) 22 (2 + (7 + dl (F 2)) + (escI (pbF (F 2)) (7 + dl (F 2))))) 23 (escI (pbF (F 2)) (7 + dl (F 2))))) 8 (f8)) 9 (f9)))) (wr := []) C [vI (F 2 3)] [] (c_X8_isLost _ _ ad (up (up (up F 0 (up (up (up (up (F 0) 0 0) 20 (7 + dl (F 2))) 22 (2 + (7 + dl (F 2)) + (escI (pbF (F 2)) (7 + dl (F 2))))) 23 (escI (pbF (F 2)) (7 + dl (F 2))))) 8 (f8)) 9 (f9)) (F 2 3) (sB_mono (by decide) hB) (by have := hB 3; first | assumption | exact ⟨by omega, by omega⟩) h70 h7) rfl (gwV mw_408 mw_405 mw_406 mw_407 mw_5) rfl (by decide +kernel) 0 rfl rfl rfl rfl Sb.w rfl rfl dX8_next_134 (fun r w1 hp134_7 => ?_)
      obtain ⟨rfl, rfl⟩ := hp134_7
      have hlz134 := lz_01 (F 2) (F 2 3)
      show V X 0 0 137 [(0, .ref (ad 0)), (1, vI 5)] [vI (lz (F 2) (F 2 3))] ((mW (vG X) ad (up (up (up F 0 (up (up (up (up (F 0) 0 0) 20 (7 + dl (F 2))) 22 (2 + (7 + dl (F 2)) + (escI (pbF (F 2)) (7 + dl (F 2))))) 23 (escI (pbF (F 2)) (7 + dl (F 2))))) 8 (f8)) 9 (f9))))
      refine v_if_eq (tgt := 144) C dX8_next_137 (by decide) (by  first | assumption | exact ⟨by omega, by omega⟩) (fun c137 => ?_) (fun c137 => ?_)
      · skip
        refine v_iconst C dX8_next_144 ?_
        exact v_iret C E rfl dX8_next_145 (by decide) (by decide) (⟨_, rfl, Or.inr (⟨by omega, (if_pos c137).symm, ⟨_, _, _, _, _, rfl⟩⟩)⟩)
      · skip
        refine v_iconst C dX8_next_140 ?_
        refine v_goto (tgt := 145) C dX8_next_141 (by decide) ?_
        exact v_iret C E rfl dX8_next_145 (by decide) (by decide) (⟨_, rfl, Or.inr (⟨by omega, (if_neg c137).symm, ⟨_, _, _, _, _, rfl⟩⟩)⟩)
set_option maxHeartbeats 4000000 in
set_option maxRecDepth 100000 in
theorem c_X8_nextByte (G : GG) (l : Launch) (ad : Nat → Nat) (F : Int → Int → Int) (q : Int) (hq : sm q) (hT : F 2 1 = 0 ∨ F 2 1 = 1) (hB : sB 1000000 (F 2)) (hd1 : isDataP (F 2) → 0 ≤ F 2 (18 + 11 * F 2 1 + 6) + F 2 2 ∧ F 2 (18 + 11 * F 2 1 + 6) + F 2 2 < 20) (hd2 : isDataP (F 2) → 0 ≤ dl (F 2) ∧ dl (F 2) ≤ 8) : Ct G l yX8_nextByte (Cond.code yX8_nextByte cX8_nextByte 2 (some .int) :: wsL_law) 5 109 0 0 [.ref (ad 0), vI q] ((mW G ad F)) (fun r w => ∃ v : Int, r = some (vI v) ∧ (((0 ≤ q ∧ q ≤ 2 + (7 + dl (F 2)) + escI (pbF (F 2)) (7 + dl (F 2)) - 1) ∧ (∃ f9 : Int → Int, LSp f9 (pbF (F 2)) (7 + dl (F 2)) ∧ f9 (1 + (7 + dl (F 2)) + escI (pbF (F 2)) (7 + dl (F 2))) = 126 ∧ v = f9 q) ∧ ∃ (x y z : Int) (f8 f9 : Int → Int), w = mW G ad (up (up (up F 0 (up (up (up (up (F 0) 0 0) 20 x) 22 y) 23 z)) 8 f8) 9 f9)) ∨ (¬ (0 ≤ q ∧ q ≤ 2 + (7 + dl (F 2)) + escI (pbF (F 2)) (7 + dl (F 2)) - 1) ∧ v = -1 ∧ ∃ (x y z : Int) (f8 f9 : Int → Int), w = mW G ad (up (up (up F 0 (up (up (up (up (F 0) 0 0) 20 x) 22 y) 23 z)) 8 f8) 9 f9)))) := by
  refine Ct.of (own := RX8) (cc := cX8_nextByte) (maxL := 2) (ret := (some .int)) (by decide) rfl rfl (Nat.le_of_ble_eq_true rfl) (fun X C E M hG hl => ?_)
  subst hG hl
  have hdl : 0 ≤ dl (F 2) ∧ dl (F 2) ≤ 8 := by
    by_cases h : isDataP (F 2)
    · exact hd2 h
    · unfold dl; rw [if_neg h]; decide
  have hes := escI_in (f := pbF (F 2)) (k := 7 + dl (F 2)) (by omega)
  refine v_aload_n C dX8_nextByte_0 rfl 0 rfl ?_
  refine v_iconst C dX8_nextByte_1 ?_
  refine v_put C inw_8 tyX8 tyX8_ok nmX8 0 0 rfl (by decide) (List.mem_cons_of_mem _ mw_147) rfl rfl rfl rfl (Nat.le_of_ble_eq_true rfl) dX8_nextByte_2 (ws' := (mW (vG X) ad (up F 0 (up (F 0) 0 0)))) rfl ?_
  refine v_aload_n C dX8_nextByte_5 rfl 0 rfl ?_
  refine v_callV (na := 0) (wy := (Cond.code yX8_lays cX8_lays 6 none :: wsL_law)) (wc := (mW (vG X) ad (up F 0 (up (F 0) 0 0)))) (wr := []) C [] [] (c_X8_lays _ _ ad (up F 0 (up (F 0) 0 0)) hT (sB_mono (by decide) hB) hd1 hd2) rfl (gwV mw_536 mw_533 mw_534 mw_535 mw_5) rfl (by decide +kernel) 0 rfl rfl rfl rfl Sb.w rfl rfl dX8_nextByte_6 (fun r w1 hp6_1 => ?_)
  obtain ⟨rfl, f8, f9, rfl, hf8, hf9, hf9e⟩ := hp6_1
  show V X 0 0 9 [(0, .ref (ad 0)), (1, vI q)] [] ((mW (vG X) ad (up (up (up F 0 (up (up (up (up (F 0) 0 0) 20 (7 + dl (F 2))) 22 (2 + (7 + dl (F 2)) + (escI (pbF (F 2)) (7 + dl (F 2))))) 23 (escI (pbF (F 2)) (7 + dl (F 2))))) 8 (f8)) 9 (f9))))
  refine v_iload_n C dX8_nextByte_9 rfl 1 rfl ?_
  refine v_iconst C dX8_nextByte_10 ?_
  refine v_aload_n C dX8_nextByte_11 rfl 0 rfl ?_
  refine v_get (v := vI (2 + (7 + dl (F 2)) + (escI (pbF (F 2)) (7 + dl (F 2))))) C inw_8 0 22 rfl (by decide) (List.mem_cons_of_mem _ mw_532) rfl rfl dX8_nextByte_12 ?_
  refine v_iconst C dX8_nextByte_15 ?_
  refine v_isub C dX8_nextByte_16 ?_
  refine v_callS (na := 3) (wy := (Cond.code yX8_within cX8_within 3 (some .boolean) :: wsL_law)) (wc := []) (wr := (mW (vG X) ad (up (up (up F 0 (up (up (up (up (F 0) 0 0) 20 (7 + dl (F 2))) 22 (2 + (7 + dl (F 2)) + (escI (pbF (F 2)) (7 + dl (F 2))))) 23 (escI (pbF (F 2)) (7 + dl (F 2))))) 8 (f8)) 9 (f9)))) C [vI q, vI 0, vI ((2 + (7 + dl (F 2)) + (escI (pbF (F 2)) (7 + dl (F 2)))) - 1)] [] (c_X8_within _ _ q 0 ((2 + (7 + dl (F 2)) + (escI (pbF (F 2)) (7 + dl (F 2)))) - 1) (by first | assumption | exact ⟨by omega, by omega⟩) (by decide) (by first | assumption | exact ⟨by omega, by omega⟩)) rfl (gwS mw_343 mw_341 mw_342 mw_5) (by decide +kernel) rfl rfl Sb.rf rfl rfl dX8_nextByte_17 (fun r w1 hp17_2 => ?_)
  obtain ⟨rfl, rfl⟩ := hp17_2
  show V X 0 0 20 [(0, .ref (ad 0)), (1, vI q)] [vI (bI (0 ≤ q ∧ q ≤ ((2 + (7 + dl (F 2)) + (escI (pbF (F 2)) (7 + dl (F 2)))) - 1)))] ((mW (vG X) ad (up (up (up F 0 (up (up (up (up (F 0) 0 0) 20 (7 + dl (F 2))) 22 (2 + (7 + dl (F 2)) + (escI (pbF (F 2)) (7 + dl (F 2))))) 23 (escI (pbF (F 2)) (7 + dl (F 2))))) 8 (f8)) 9 (f9))))
  refine v_if_eq (tgt := 32) C dX8_nextByte_20 (by decide) sm_bI (fun c20 => ?_) (fun c20 => ?_)
  · have c20 := bI_0.mp c20
    refine v_iconst C dX8_nextByte_32 ?_
    exact v_iret C E rfl dX8_nextByte_33 (by decide) (by decide) (⟨_, rfl, Or.inr ⟨by omega, rfl, _, _, _, _, _, rfl⟩⟩)
  · have c20 := bI_n0.mp c20
    refine v_aload_n C dX8_nextByte_23 rfl 0 rfl ?_
    refine v_get (v := .ref (ad 9)) C inw_8 0 21 rfl (by decide) (List.mem_cons_of_mem _ mw_113) rfl rfl dX8_nextByte_24 ?_
    refine v_iload_n C dX8_nextByte_27 rfl 1 rfl ?_
    refine v_iald C 9 rfl (by  omega) (by  omega) (by decide) dX8_nextByte_28 ?_
    show V X 0 0 29 [(0, .ref (ad 0)), (1, vI q)] [vI (f9 q)] ((mW (vG X) ad (up (up (up F 0 (up (up (up (up (F 0) 0 0) 20 (7 + dl (F 2))) 22 (2 + (7 + dl (F 2)) + (escI (pbF (F 2)) (7 + dl (F 2))))) 23 (escI (pbF (F 2)) (7 + dl (F 2))))) 8 (f8)) 9 (f9))))
    refine v_goto (tgt := 33) C dX8_nextByte_29 (by decide) ?_
    exact v_iret C E rfl dX8_nextByte_33 (by decide) (by decide) (⟨_, rfl, Or.inl ⟨by omega, ⟨f9, hf9, hf9e, rfl⟩, _, _, _, _, _, rfl⟩⟩)
set_option maxHeartbeats 4000000 in
set_option maxRecDepth 100000 in
theorem c_X8_run (G : GG) (l : Launch) (ad : Nat → Nat) (F : Int → Int → Int) (q : Int) (hq : sm q) (hB : sB 1000000 (F 2)) (d0 : 0 ≤ F 0 14) (d1 : F 0 14 ≤ 10) (hr : F 0 24 = 0) (hok : (1 ≤ q ∧ q ≤ 100) → F 2 3 + q ≤ 2000 → ∀ k : Nat, (k : Int) < q → OKs (itF (F 0 24) (F 2) k)) : Ct G l yX8_run (Cond.code yX8_run cX8_run 3 (some .int) :: wsL_law) 6 135 0 0 [.ref (ad 0), vI q] ((mW G ad F)) (fun r w => ∃ v : Int, r = some (vI v) ∧ ((¬ (1 ≤ q ∧ q ≤ 100) ∧ w = mW G ad (up F 0 (up (F 0) 0 1))) ∨ (((1 ≤ q ∧ q ≤ 100) ∧ 2000 < F 2 3 + q) ∧ w = mW G ad (up F 0 (up (F 0) 0 2))) ∨ (((1 ≤ q ∧ q ≤ 100) ∧ F 2 3 + q ≤ 2000) ∧ v = itF (F 0 24) (F 2) q.toNat 0 ∧ ∃ (x y z : Int) (f8 f9 : Int → Int), w = mW G ad (up (up (up (up (up F 0 (up (up (up (up (up (F 0) 0 0) 14 (kpD (F 0 14) + 1)) 20 x) 22 y) 23 z)) 2 (itF (F 0 24) (F 2) q.toNat)) 5 (cpF (F 2) (kpH (F 0 14) (F 5)) 0 (kpD (F 0 14)) 441)) 8 f8) 9 f9)))) := by
  refine Ct.of (own := RX8) (cc := cX8_run) (maxL := 3) (ret := (some .int)) (by decide) rfl rfl (Nat.le_of_ble_eq_true rfl) (fun X C E M hG hl => ?_)
  subst hG hl
  refine v_aload_n C dX8_run_0 rfl 0 rfl ?_
  refine v_iload_n C dX8_run_1 rfl 1 rfl ?_
  refine v_iconst C dX8_run_2 ?_
  refine v_bipush C dX8_run_3 (by decide +kernel) ?_
  refine v_callS (na := 3) (wy := (Cond.code yX8_within cX8_within 3 (some .boolean) :: wsL_law)) (wc := []) (wr := (mW (vG X) ad F)) C [vI q, vI 1, vI 100] [.ref (ad 0)] (c_X8_within _ _ q 1 100 (by first | assumption | exact ⟨by omega, by omega⟩) (by decide) (by decide)) rfl (gwS mw_343 mw_341 mw_342 mw_5) (by decide +kernel) rfl rfl Sb.rf rfl rfl dX8_run_5 (fun r w1 hp5_1 => ?_)
  obtain ⟨rfl, rfl⟩ := hp5_1
  show V X 0 0 8 [(0, .ref (ad 0)), (1, vI q)] [vI (bI (1 ≤ q ∧ q ≤ 100)), .ref (ad 0)] ((mW (vG X) ad F))
  refine v_if_ne (tgt := 15) C dX8_run_8 (by decide) sm_bI (fun c8 => ?_) (fun c8 => ?_)
  · have c8 := bI_n0.mp c8
    refine v_aload_n C dX8_run_15 rfl 0 rfl ?_
    refine v_get (v := .ref (ad 2)) C inw_8 0 10 rfl (by decide) (List.mem_cons_of_mem _ mw_105) rfl rfl dX8_run_16 ?_
    refine v_iconst C dX8_run_19 ?_
    refine v_iald C 2 rfl (by decide) (by decide) (by decide) dX8_run_20 ?_
    refine v_iload_n C dX8_run_21 rfl 1 rfl ?_
    refine v_iadd C dX8_run_22 ?_
    refine v_sipush C dX8_run_23 (by decide +kernel) ?_
    refine v_icmp_le (tgt := 33) C dX8_run_26 (by decide) (by have := hB 3; first | assumption | exact ⟨by omega, by omega⟩) (by decide) (fun c26 => ?_) (fun c26 => ?_)
    · skip
      refine v_iconst C dX8_run_33 ?_
      refine v_put C inw_8 tyX8 tyX8_ok nmX8 0 0 rfl (by decide) (List.mem_cons_of_mem _ mw_147) rfl rfl rfl rfl (Nat.le_of_ble_eq_true rfl) dX8_run_34 (ws' := (mW (vG X) ad (up F 0 (up (F 0) 0 0)))) rfl ?_
      refine v_aload_n C dX8_run_37 rfl 0 rfl ?_
      refine v_get (v := vI 0) C inw_8 0 0 rfl (by decide) (List.mem_cons_of_mem _ mw_147) rfl rfl dX8_run_38 ?_
      refine v_if_le (tgt := 46) C dX8_run_41 (by decide) (by decide) (fun _ => ?_) (fun c => absurd (by decide) c)
      refine v_aload_n C dX8_run_46 rfl 0 rfl ?_
      refine v_callV (na := 0) (wy := (Cond.code yX8_keep cX8_keep 2 none :: wsL_law)) (wc := (mW (vG X) ad (up F 0 (up (F 0) 0 0)))) (wr := []) C [] [] (c_X8_keep _ _ ad (up F 0 (up (F 0) 0 0)) d0 d1) rfl (gwV mw_776 mw_773 mw_774 mw_775 mw_5) rfl (by decide +kernel) 0 rfl rfl rfl rfl Sb.w rfl rfl dX8_run_47 (fun r w1 hp47_2 => ?_)
      obtain ⟨rfl, rfl⟩ := hp47_2
      show V X 0 0 50 [(0, .ref (ad 0)), (1, vI q)] [] ((mW (vG X) ad (up (up F 0 (up (up (F 0) 0 0) 14 (kpD (F 0 14) + 1))) 5 (cpF (F 2) (kpH (F 0 14) (F 5)) 0 (kpD (F 0 14)) 441))))
      refine v_iconst C dX8_run_50 ?_
      refine v_istore_n C M dX8_run_51 rfl (by decide) (L' := [(2, vI 0), (0, .ref (ad 0)), (1, vI q)]) rfl ?_
      refine V.loc (L' := [(0, .ref (ad 0)), (1, vI q), (2, vI 0)]) [1, 2, 0] rfl ?_
      have lp : ∀ (n : Nat) (k : Nat) (x : Int) (y : Int) (z : Int) (f8 : Int → Int) (f9 : Int → Int) (hk : (k : Int) ≤ q) (hm : q - (k : Int) < (n : Int)), V X 0 0 52 [(0, .ref (ad 0)), (1, vI q), (2, vI (k : Int))] [] ((mW (vG X) ad (up (up (up (up (up F 0 (up (up (up (up (up (F 0) 0 0) 14 (kpD (F 0 14) + 1)) 20 x) 22 y) 23 z)) 2 (itF (F 0 24) (F 2) k)) 5 (cpF (F 2) (kpH (F 0 14) (F 5)) 0 (kpD (F 0 14)) 441)) 8 (f8)) 9 (f9)))) := by
        intro n
        induction n with
        | zero => intro k x y z f8 f9 hk hm; exact absurd hm (by omega)
        | succ n ih =>
          intro k x y z f8 f9 hk hm
          refine v_iload_n C dX8_run_52 rfl 2 rfl ?_
          refine v_iload_n C dX8_run_53 rfl 1 rfl ?_
          refine v_icmp_ge (tgt := 67) C dX8_run_54 (by decide) (by  first | assumption | exact ⟨by omega, by omega⟩) (by  first | assumption | exact ⟨by omega, by omega⟩) (fun c54 => ?_) (fun c54 => ?_)
          · have e : k = q.toNat := by omega
            subst e
            refine v_aload_n C dX8_run_67 rfl 0 rfl ?_
            refine v_get (v := .ref (ad 2)) C inw_8 0 10 rfl (by decide) (List.mem_cons_of_mem _ mw_105) rfl rfl dX8_run_68 ?_
            refine v_iconst C dX8_run_71 ?_
            refine v_iald C 2 rfl (by decide) (by decide) (by decide) dX8_run_72 ?_
            show V X 0 0 73 [(0, .ref (ad 0)), (1, vI q), (2, vI (q.toNat : Int))] [vI ((itF (F 0 24) (F 2) q.toNat) 0)] ((mW (vG X) ad (up (up (up (up (up F 0 (up (up (up (up (up (F 0) 0 0) 14 (kpD (F 0 14) + 1)) 20 x) 22 y) 23 z)) 2 (itF (F 0 24) (F 2) q.toNat)) 5 (cpF (F 2) (kpH (F 0 14) (F 5)) 0 (kpD (F 0 14)) 441)) 8 (f8)) 9 (f9))))
            exact v_iret C E rfl dX8_run_73 (by decide) (by decide) (⟨_, rfl, Or.inr (Or.inr ⟨by omega, rfl, _, _, _, _, _, rfl⟩)⟩)
          · obtain ⟨q1, q2, ⟨q3, q4⟩, q5, q6⟩ := hok (by omega) (by omega) k (by omega)
            refine v_aload_n C dX8_run_57 rfl 0 rfl ?_
            refine v_callV (na := 0) (wy := (Cond.code yX8_step cX8_step 4 none :: wsL_law)) (wc := (mW (vG X) ad (up (up (up (up (up F 0 (up (up (up (up (up (F 0) 0 0) 14 (kpD (F 0 14) + 1)) 20 x) 22 y) 23 z)) 2 (itF (F 0 24) (F 2) k)) 5 (cpF (F 2) (kpH (F 0 14) (F 5)) 0 (kpD (F 0 14)) 441)) 8 (f8)) 9 (f9)))) (wr := []) C [] [] (c_X8_step _ _ ad (up (up (up (up (up F 0 (up (up (up (up (up (F 0) 0 0) 14 (kpD (F 0 14) + 1)) 20 x) 22 y) 23 z)) 2 (itF (F 0 24) (F 2) k)) 5 (cpF (F 2) (kpH (F 0 14) (F 5)) 0 (kpD (F 0 14)) 441)) 8 (f8)) 9 (f9)) q1 q2 q3 q4 (Or.inl hr) q5 q6) rfl (gwV mw_658 mw_655 mw_656 mw_657 mw_5) rfl (by decide +kernel) 0 rfl rfl rfl rfl Sb.w rfl rfl dX8_run_58 (fun r w1 hp58_3 => ?_)
            obtain ⟨rfl, x, y, z, f8, f9, rfl⟩ := hp58_3
            show V X 0 0 61 [(0, .ref (ad 0)), (1, vI q), (2, vI (k : Int))] [] ((mW (vG X) ad (up (up (up (up (up F 0 (up (up (up (up (up (F 0) 0 0) 14 (kpD (F 0 14) + 1)) 20 x) 22 y) 23 z)) 2 (stepF (F 0 24) (itF (F 0 24) (F 2) k))) 5 (cpF (F 2) (kpH (F 0 14) (F 5)) 0 (kpD (F 0 14)) 441)) 8 (f8)) 9 (f9))))
            refine v_iinc C M dX8_run_61 2 rfl (by decide) (z' := ((k : Int) + 1)) rfl (L' := [(2, vI ((k : Int) + 1)), (0, .ref (ad 0)), (1, vI q)]) rfl ?_
            refine v_goto (tgt := 52) C dX8_run_64 (by decide) ?_
            refine V.loc (L' := [(0, .ref (ad 0)), (1, vI q), (2, vI ((k : Int) + 1))]) [1, 2, 0] rfl ?_
            exact ih (k + 1) _ _ _ _ _ (by omega) (by omega)
      exact lp (q.toNat + 1) 0 (F 0 20) (F 0 22) (F 0 23) (F 8) (F 9) (by omega) (by omega)
    · skip
      refine v_iconst C dX8_run_29 ?_
      refine v_goto (tgt := 34) C dX8_run_30 (by decide) ?_
      refine v_put C inw_8 tyX8 tyX8_ok nmX8 0 0 rfl (by decide) (List.mem_cons_of_mem _ mw_147) rfl rfl rfl rfl (Nat.le_of_ble_eq_true rfl) dX8_run_34 (ws' := (mW (vG X) ad (up F 0 (up (F 0) 0 2)))) rfl ?_
      refine v_aload_n C dX8_run_37 rfl 0 rfl ?_
      refine v_get (v := vI 2) C inw_8 0 0 rfl (by decide) (List.mem_cons_of_mem _ mw_147) rfl rfl dX8_run_38 ?_
      refine v_if_le (tgt := 46) C dX8_run_41 (by decide) (by decide) (fun c => absurd c (by decide)) (fun _ => ?_)
      refine v_iconst C dX8_run_44 ?_
      exact v_iret C E rfl dX8_run_45 (by decide) (by decide) (⟨_, rfl, Or.inr (Or.inl ⟨by omega, rfl⟩)⟩)
  · have c8 := bI_0.mp c8
    refine v_iconst C dX8_run_11 ?_
    refine v_goto (tgt := 34) C dX8_run_12 (by decide) ?_
    refine v_put C inw_8 tyX8 tyX8_ok nmX8 0 0 rfl (by decide) (List.mem_cons_of_mem _ mw_147) rfl rfl rfl rfl (Nat.le_of_ble_eq_true rfl) dX8_run_34 (ws' := (mW (vG X) ad (up F 0 (up (F 0) 0 1)))) rfl ?_
    refine v_aload_n C dX8_run_37 rfl 0 rfl ?_
    refine v_get (v := vI 1) C inw_8 0 0 rfl (by decide) (List.mem_cons_of_mem _ mw_147) rfl rfl dX8_run_38 ?_
    refine v_if_le (tgt := 46) C dX8_run_41 (by decide) (by decide) (fun c => absurd c (by decide)) (fun _ => ?_)
    refine v_iconst C dX8_run_44 ?_
    exact v_iret C E rfl dX8_run_45 (by decide) (by decide) (⟨_, rfl, Or.inl ⟨by omega, rfl⟩⟩)
end M7
