section M15
set_option maxHeartbeats 4000000 in
set_option maxRecDepth 100000 in
theorem c_X8_parse (G : GG) (l : Launch) (ad : Nat → Nat) (F : Int → Int → Int) (w : Int) (ho : RM (F 0)) (hB1 : sB 1000 (F 1)) (hs : sm w) (hl : 0 ≤ F 0 2 ∧ F 0 2 ≤ 700) (hB : sB 1000000 (F 2)) : Ct G l yX8_parse (Cond.code yX8_parse cX8_parse 2 (some .int) :: wsL_law) 6 128 0 0 [.ref (ad 0), vI w] ((mW G ad F)) (fun r w9 => ∃ v : Int, r = some (vI v) ∧ ((¬ (0 ≤ w ∧ w ≤ F 0 2) ∧ v = 0 ∧ w9 = mW G ad (up F 0 (up (F 0) 0 1))) ∨ ((0 ≤ w ∧ w ≤ F 0 2) ∧ ¬ (paE (F 0) (F 1) (F 2) w).1 8 = 0 ∧ v = -2 - (8 * (paE (F 0) (F 1) (F 2) w).1 9 + (paE (F 0) (F 1) (F 2) w).1 8) ∧ w9 = mW G ad (up (up F 0 (paE (F 0) (F 1) (F 2) w).1) 3 (cpF (F 2) (F 3) 0 0 441))) ∨ ((0 ≤ w ∧ w ≤ F 0 2) ∧ (paE (F 0) (F 1) (F 2) w).1 8 = 0 ∧ v = (paE (F 0) (F 1) (F 2) w).2 18 + (paE (F 0) (F 1) (F 2) w).2 29 ∧ w9 = mW G ad (up (up (up (up F 0 (up (paE (F 0) (F 1) (F 2) w).1 14 0)) 2 (up (up (paE (F 0) (F 1) (F 2) w).2 25 ((paE (F 0) (F 1) (F 2) w).2 32)) 36 ((paE (F 0) (F 1) (F 2) w).2 21))) 3 (cpF (F 2) (F 3) 0 0 441)) 7 (up (up (F 7) 0 0) 1 0))))) := by
  refine Ct.of (own := RX8) (cc := cX8_parse) (maxL := 2) (ret := (some .int)) (by decide) rfl rfl (Nat.le_of_ble_eq_true rfl) (fun X C E M hG hl => ?_)
  subst hG hl
  refine v_aload_n C dX8_parse_0 rfl 0 rfl ?_
  refine v_iconst C dX8_parse_1 ?_
  refine v_put C inw_8 tyX8 tyX8_ok nmX8 0 0 rfl (by decide) (List.mem_cons_of_mem _ mw_147) rfl rfl rfl rfl (Nat.le_of_ble_eq_true rfl) dX8_parse_2 (ws' := (mW (vG X) ad (up F 0 (up (F 0) 0 0)))) rfl ?_
  refine v_iload_n C dX8_parse_5 rfl 1 rfl ?_
  refine v_iconst C dX8_parse_6 ?_
  refine v_aload_n C dX8_parse_7 rfl 0 rfl ?_
  refine v_get (v := vI (F 0 2)) C inw_8 0 2 rfl (by decide) (List.mem_cons_of_mem _ mw_148) rfl rfl dX8_parse_8 ?_
  refine v_callS (na := 3) (wy := (Cond.code yX8_within cX8_within 3 (some .boolean) :: wsL_law)) (wc := []) (wr := (mW (vG X) ad (up F 0 (up (F 0) 0 0)))) C [vI w, vI 0, vI (F 0 2)] [] (c_X8_within _ _ w 0 (F 0 2) hs (by decide) (by have := hl; first | assumption | exact ⟨by omega, by omega⟩)) rfl (gwS mw_343 mw_341 mw_342 mw_5) (by decide +kernel) rfl rfl Sb.rf rfl rfl dX8_parse_11 (fun r w1 hp11_1 => ?_)
  obtain ⟨rfl, rfl⟩ := hp11_1
  show V X 0 0 14 [(0, .ref (ad 0)), (1, vI w)] [vI (bI (0 ≤ w ∧ w ≤ (F 0 2)))] ((mW (vG X) ad (up F 0 (up (F 0) 0 0))))
  refine v_if_ne (tgt := 23) C dX8_parse_14 (by decide) sm_bI (fun c14 => ?_) (fun c14 => ?_)
  · skip
    have c14 := bI_n0.mp c14
    refine v_aload_n C dX8_parse_23 rfl 0 rfl ?_
    refine v_iload_n C dX8_parse_24 rfl 1 rfl ?_
    refine v_put C inw_8 tyX8 tyX8_ok nmX8 0 3 rfl (by decide) (List.mem_cons_of_mem _ mw_334) rfl rfl rfl rfl (Nat.le_of_ble_eq_true rfl) dX8_parse_25 (ws' := (mW (vG X) ad (up F 0 (up (up (F 0) 0 0) 3 w)))) rfl ?_
    refine v_aload_n C dX8_parse_28 rfl 0 rfl ?_
    refine v_iconst C dX8_parse_29 ?_
    refine v_put C inw_8 tyX8 tyX8_ok nmX8 0 2 rfl (by decide) (List.mem_cons_of_mem _ mw_148) rfl rfl rfl rfl (Nat.le_of_ble_eq_true rfl) dX8_parse_30 (ws' := (mW (vG X) ad (up F 0 (up (up (up (F 0) 0 0) 3 w) 2 0)))) rfl ?_
    refine v_aload_n C dX8_parse_33 rfl 0 rfl ?_
    refine v_iconst C dX8_parse_34 ?_
    refine v_put C inw_8 tyX8 tyX8_ok nmX8 0 5 rfl (by decide) (List.mem_cons_of_mem _ mw_335) rfl rfl rfl rfl (Nat.le_of_ble_eq_true rfl) dX8_parse_35 (ws' := (mW (vG X) ad (up F 0 (up (up (up (up (F 0) 0 0) 3 w) 2 0) 5 0)))) rfl ?_
    refine v_aload_n C dX8_parse_38 rfl 0 rfl ?_
    refine v_iconst C dX8_parse_39 ?_
    refine v_put C inw_8 tyX8 tyX8_ok nmX8 0 8 rfl (by decide) (List.mem_cons_of_mem _ mw_336) rfl rfl rfl rfl (Nat.le_of_ble_eq_true rfl) dX8_parse_40 (ws' := (mW (vG X) ad (up F 0 (up (up (up (up (up (F 0) 0 0) 3 w) 2 0) 5 0) 8 0)))) rfl ?_
    refine v_aload_n C dX8_parse_43 rfl 0 rfl ?_
    refine v_iconst C dX8_parse_44 ?_
    refine v_put C inw_8 tyX8 tyX8_ok nmX8 0 17 rfl (by decide) (List.mem_cons_of_mem _ mw_337) rfl rfl rfl rfl (Nat.le_of_ble_eq_true rfl) dX8_parse_45 (ws' := (mW (vG X) ad (up F 0 (up (up (up (up (up (up (F 0) 0 0) 3 w) 2 0) 5 0) 8 0) 17 0)))) rfl ?_
    refine v_aload_n C dX8_parse_48 rfl 0 rfl ?_
    refine v_iconst C dX8_parse_49 ?_
    refine v_put C inw_8 tyX8 tyX8_ok nmX8 0 18 rfl (by decide) (List.mem_cons_of_mem _ mw_338) rfl rfl rfl rfl (Nat.le_of_ble_eq_true rfl) dX8_parse_50 (ws' := (mW (vG X) ad (up F 0 (up (up (up (up (up (up (up (F 0) 0 0) 3 w) 2 0) 5 0) 8 0) 17 0) 18 0)))) rfl ?_
    have er2 : (paH (F 0) w) = (up (up (up (up (up (up (up (F 0) 0 0) 3 w) 2 0) 5 0) 8 0) 17 0) 18 0) := rfl
    rw [← er2]
    show V X 0 0 53 [(0, .ref (ad 0)), (1, vI w)] [] ((mW (vG X) ad (up F 0 (paH (F 0) w))))
    have hr1 : RM1 (paH (F 0) w) := paH_ok ho (by omega)
    refine v_aload_n C dX8_parse_53 rfl 0 rfl ?_
    refine v_get (v := .ref (ad 2)) C inw_8 0 10 rfl (by decide) (List.mem_cons_of_mem _ mw_105) rfl rfl dX8_parse_54 ?_
    refine v_iconst C dX8_parse_57 ?_
    refine v_aload_n C dX8_parse_58 rfl 0 rfl ?_
    refine v_get (v := .ref (ad 3)) C inw_8 0 11 rfl (by decide) (List.mem_cons_of_mem _ mw_106) rfl rfl dX8_parse_59 ?_
    refine v_iconst C dX8_parse_62 ?_
    refine v_callS (na := 4) (wy := (Cond.code yX8_copy cX8_copy 5 none :: wsL_law)) (wc := [((ad 2), .inl ((vG X).2 1, 441, .inl (fI (F 2)))), ((ad 3), .inl ((vG X).2 1, 441, .inl (fI (F 3))))]) (wr := [((ad 0), .inr (8, [vI ((paH (F 0) w) 0), .ref (ad 1), vI ((paH (F 0) w) 2), vI ((paH (F 0) w) 3), vI ((paH (F 0) w) 4), vI ((paH (F 0) w) 5), vI ((paH (F 0) w) 6), vI ((paH (F 0) w) 7), vI ((paH (F 0) w) 8), vI ((paH (F 0) w) 9), .ref (ad 2), .ref (ad 3), .ref (ad 4), .ref (ad 5), vI ((paH (F 0) w) 14), .ref (ad 6), .ref (ad 7), vI ((paH (F 0) w) 17), vI ((paH (F 0) w) 18), .ref (ad 8), vI ((paH (F 0) w) 20), .ref (ad 9), vI ((paH (F 0) w) 22), vI ((paH (F 0) w) 23), vI ((paH (F 0) w) 24), vI ((paH (F 0) w) 25), vI ((paH (F 0) w) 26)])), ((ad 1), .inl ((vG X).2 0, 700, .inl (fI (F 1)))), ((ad 4), .inl ((vG X).2 1, 441, .inl (fI (F 4)))), ((ad 5), .inl ((vG X).2 1, 4410, .inl (fI (F 5)))), ((ad 6), .inl ((vG X).2 1, 882, .inl (fI (F 6)))), ((ad 7), .inl ((vG X).2 3, 2, .inl (fI (F 7)))), ((ad 8), .inl ((vG X).2 1, 15, .inl (fI (F 8)))), ((ad 9), .inl ((vG X).2 1, 40, .inl (fI (F 9))))]) C [.ref (ad 2), vI 0, .ref (ad 3), vI 0] [] (c_X8_copy _ _ (ad 2) (ad 3) 441 441 (F 2) (F 3) 0 0 (by omega) (by omega) (by decide) (by omega) (by omega) (by decide)) rfl (gwS mw_350 mw_348 mw_349 mw_5) (by decide +kernel) rfl rfl (Sb.pl [2, 3, 0, 1, 4, 5, 6, 7, 8, 9] rfl rfl) rfl rfl dX8_parse_63 (fun r w1 hp63_3 => ?_)
    obtain ⟨rfl, rfl⟩ := hp63_3
    refine V.sb (ws' := (mW (vG X) ad (up (up F 0 (paH (F 0) w)) 3 (cpF (F 2) (F 3) 0 0 441)))) (Sb.pl [2, 3, 0, 1, 4, 5, 6, 7, 8, 9] rfl rfl) ?_
    show V X 0 0 66 [(0, .ref (ad 0)), (1, vI w)] [] ((mW (vG X) ad (up (up F 0 (paH (F 0) w)) 3 (cpF (F 2) (F 3) 0 0 441))))
    refine v_aload_n C dX8_parse_66 rfl 0 rfl ?_
    refine v_callV (na := 0) (wy := (Cond.code yX8_empties cX8_empties 2 none :: wsL_law)) (wc := (mW (vG X) ad (up (up F 0 (paH (F 0) w)) 3 (cpF (F 2) (F 3) 0 0 441)))) (wr := []) C [] [] (c_X8_empties _ _ ad (up (up F 0 (paH (F 0) w)) 3 (cpF (F 2) (F 3) 0 0 441))) rfl (gwV mw_117 mw_114 mw_115 mw_116 mw_5) rfl (by decide +kernel) 0 rfl rfl rfl rfl Sb.w rfl rfl dX8_parse_67 (fun r w1 hp67_4 => ?_)
    obtain ⟨rfl, rfl⟩ := hp67_4
    show V X 0 0 70 [(0, .ref (ad 0)), (1, vI w)] [] ((mW (vG X) ad (up (up (up F 0 (paH (F 0) w)) 2 (emF (F 2))) 3 (cpF (F 2) (F 3) 0 0 441))))
    obtain ⟨σ0, hσ0⟩ : ∃ z : Int → Int, z = (emF (F 2)) := ⟨_, rfl⟩
    rw [← hσ0]
    show V X 0 0 70 [(0, .ref (ad 0)), (1, vI w)] [] ((mW (vG X) ad (up (up (up F 0 (paH (F 0) w)) 2 (σ0)) 3 (cpF (F 2) (F 3) 0 0 441))))
    refine v_aload_n C dX8_parse_70 rfl 0 rfl ?_
    refine v_callV (na := 0) (wy := (Cond.code yX8_nextToken cX8_nextToken 2 none :: wsL_law)) (wc := (mW (vG X) ad (up (up (up F 0 (paH (F 0) w)) 2 (σ0)) 3 (cpF (F 2) (F 3) 0 0 441)))) (wr := []) C [] [] (c_X8_nextToken _ _ ad (up (up (up F 0 (paH (F 0) w)) 2 (σ0)) 3 (cpF (F 2) (F 3) 0 0 441)) (hr1) hB1) rfl (gwV mw_354 mw_351 mw_352 mw_353 mw_5) rfl (by decide +kernel) 0 rfl rfl rfl rfl Sb.w rfl rfl dX8_parse_71 (fun r w1 hp71_5 => ?_)
    obtain ⟨rfl, rfl⟩ := hp71_5
    show V X 0 0 74 [(0, .ref (ad 0)), (1, vI w)] [] ((mW (vG X) ad (up (up (up F 0 (ntM (paH (F 0) w) (F 1))) 2 (σ0)) 3 (cpF (F 2) (F 3) 0 0 441))))
    have rm6_ : RM (ntM (paH (F 0) w) (F 1)) := ntM_ok (hr1) hB1
    obtain ⟨t1, ht1⟩ : ∃ z : Int → Int, z = (ntM (paH (F 0) w) (F 1)) := ⟨_, rfl⟩
    rw [← ht1]
    have rmt1 : RM t1 := by rw [ht1]; exact rm6_
    show V X 0 0 74 [(0, .ref (ad 0)), (1, vI w)] [] ((mW (vG X) ad (up (up (up F 0 (t1)) 2 (σ0)) 3 (cpF (F 2) (F 3) 0 0 441))))
    refine v_aload_n C dX8_parse_74 rfl 0 rfl ?_
    refine v_aload_n C dX8_parse_75 rfl 0 rfl ?_
    refine v_ldcK (i := 4) (tx := "line") C rfl dX8_parse_76 ?_
    refine v_callV (na := 1) (wy := (Cond.code yX8_isWord cX8_isWord 4 (some .boolean) :: wsL_law)) (wc := (mW (vG X) ad (up (up (up F 0 (t1)) 2 (σ0)) 3 (cpF (F 2) (F 3) 0 0 441)))) (wr := []) C [.ref ((vG X).1.2 4)] [.ref (ad 0)] (c_X8_isWord _ _ ad (up (up (up F 0 (t1)) 2 (σ0)) 3 (cpF (F 2) (F 3) 0 0 441)) 4 sK0 rmt1 hB1 rfl) rfl (gwV mw_364 mw_361 mw_362 mw_363 mw_5) rfl (by decide +kernel) 0 rfl rfl rfl rfl Sb.w rfl rfl dX8_parse_78 (fun r w1 hp78_7 => ?_)
    obtain ⟨rfl, rfl⟩ := hp78_7
    show V X 0 0 81 [(0, .ref (ad 0)), (1, vI w)] [vI (bI (wdM (t1) (F 1) sK0)), .ref (ad 0)] ((mW (vG X) ad (up (up (up F 0 (t1)) 2 (σ0)) 3 (cpF (F 2) (F 3) 0 0 441))))
    refine v_iconst C dX8_parse_81 ?_
    refine v_callV (na := 2) (wy := (Cond.code yX8_must cX8_must 3 (some .boolean) :: wsL_law)) (wc := (mW (vG X) ad (up (up (up F 0 (t1)) 2 (σ0)) 3 (cpF (F 2) (F 3) 0 0 441)))) (wr := []) C [vI (bI (wdM (t1) (F 1) sK0)), vI 1] [] (c_X8_must _ _ ad (up (up (up F 0 (t1)) 2 (σ0)) 3 (cpF (F 2) (F 3) 0 0 441)) (bI (wdM (t1) (F 1) sK0)) 1 rmt1 hB1 bI_01 (by decide)) rfl (gwV mw_370 mw_367 mw_368 mw_369 mw_5) rfl (by decide +kernel) 0 rfl rfl rfl rfl Sb.w rfl rfl dX8_parse_82 (fun r w1 hp82_8 => ?_)
    obtain ⟨rfl, rfl⟩ := hp82_8
    show V X 0 0 85 [(0, .ref (ad 0)), (1, vI w)] [vI (bI ((t1) 8 = 0 ∧ ¬ (bI (wdM (t1) (F 1) sK0)) = 0))] ((mW (vG X) ad (up (up (up F 0 (muM (t1) (bI (wdM (t1) (F 1) sK0)) 1)) 2 (σ0)) 3 (cpF (F 2) (F 3) 0 0 441))))
    have rm9_ : RM (muM (t1) (bI (wdM (t1) (F 1) sK0)) 1) := muM_ok rmt1 (by decide)
    obtain ⟨t2, ht2⟩ : ∃ z : Int → Int, z = (muM (t1) (bI (wdM (t1) (F 1) sK0)) 1) := ⟨_, rfl⟩
    rw [← ht2]
    have rmt2 : RM t2 := by rw [ht2]; exact rm9_
    show V X 0 0 85 [(0, .ref (ad 0)), (1, vI w)] [vI (bI ((t1) 8 = 0 ∧ ¬ (bI (wdM (t1) (F 1) sK0)) = 0))] ((mW (vG X) ad (up (up (up F 0 (t2)) 2 (σ0)) 3 (cpF (F 2) (F 3) 0 0 441))))
    refine v_pop C dX8_parse_85 rfl ?_
    refine v_aload_n C dX8_parse_86 rfl 0 rfl ?_
    refine v_callV (na := 0) (wy := (Cond.code yX8_goOn cX8_goOn 1 none :: wsL_law)) (wc := (mW (vG X) ad (up (up (up F 0 (t2)) 2 (σ0)) 3 (cpF (F 2) (F 3) 0 0 441)))) (wr := []) C [] [] (c_X8_goOn _ _ ad (up (up (up F 0 (t2)) 2 (σ0)) 3 (cpF (F 2) (F 3) 0 0 441)) rmt2 hB1) rfl (gwV mw_374 mw_371 mw_372 mw_373 mw_5) rfl (by decide +kernel) 0 rfl rfl rfl rfl Sb.w rfl rfl dX8_parse_87 (fun r w1 hp87_10 => ?_)
    obtain ⟨rfl, rfl⟩ := hp87_10
    show V X 0 0 90 [(0, .ref (ad 0)), (1, vI w)] [] ((mW (vG X) ad (up (up (up F 0 (goM (t2) (F 1))) 2 (σ0)) 3 (cpF (F 2) (F 3) 0 0 441))))
    have rm11_ : RM (goM (t2) (F 1)) := goM_ok rmt2 hB1
    obtain ⟨t3, ht3⟩ : ∃ z : Int → Int, z = (goM (t2) (F 1)) := ⟨_, rfl⟩
    rw [← ht3]
    have rmt3 : RM t3 := by rw [ht3]; exact rm11_
    show V X 0 0 90 [(0, .ref (ad 0)), (1, vI w)] [] ((mW (vG X) ad (up (up (up F 0 (t3)) 2 (σ0)) 3 (cpF (F 2) (F 3) 0 0 441))))
    refine v_aload_n C dX8_parse_90 rfl 0 rfl ?_
    refine v_get (v := .ref (ad 2)) C inw_8 0 10 rfl (by decide) (List.mem_cons_of_mem _ mw_105) rfl rfl dX8_parse_91 ?_
    refine v_iconst C dX8_parse_94 ?_
    refine v_aload_n C dX8_parse_95 rfl 0 rfl ?_
    refine v_iconst C dX8_parse_96 ?_
    refine v_bipush C dX8_parse_97 (by decide +kernel) ?_
    refine v_callV (na := 2) (wy := (Cond.code yX8_takes cX8_takes 4 (some .int) :: wsL_law)) (wc := (mW (vG X) ad (up (up (up F 0 (t3)) 2 (σ0)) 3 (cpF (F 2) (F 3) 0 0 441)))) (wr := []) C [vI 1, vI 7] [vI 4, .ref (ad 2)] (c_X8_takes _ _ ad (up (up (up F 0 (t3)) 2 (σ0)) 3 (cpF (F 2) (F 3) 0 0 441)) 1 7 rmt3 hB1 (by decide)) rfl (gwV mw_378 mw_375 mw_376 mw_377 mw_5) rfl (by decide +kernel) 0 rfl rfl rfl rfl Sb.w rfl rfl dX8_parse_99 (fun r w1 hp99_12 => ?_)
    obtain ⟨rfl, rfl⟩ := hp99_12
    show V X 0 0 102 [(0, .ref (ad 0)), (1, vI w)] [vI (lkV (t3) 1 7), vI 4, .ref (ad 2)] ((mW (vG X) ad (up (up (up F 0 (tkM (t3) (F 1) 1 7)) 2 (σ0)) 3 (cpF (F 2) (F 3) 0 0 441))))
    have rm13_ : RM (tkM (t3) (F 1) 1 7) := tkM_ok rmt3 hB1
    obtain ⟨va14, vb14⟩ := lkV_in (s := (t3)) (p := 1) (q := 7) (by decide)
    obtain ⟨t4, ht4⟩ : ∃ z : Int → Int, z = (tkM (t3) (F 1) 1 7) := ⟨_, rfl⟩
    rw [← ht4]
    have rmt4 : RM t4 := by rw [ht4]; exact rm13_
    show V X 0 0 102 [(0, .ref (ad 0)), (1, vI w)] [vI (lkV (t3) 1 7), vI 4, .ref (ad 2)] ((mW (vG X) ad (up (up (up F 0 (t4)) 2 (σ0)) 3 (cpF (F 2) (F 3) 0 0 441))))
    refine v_iast C 2 rfl (by decide) (by decide) (by decide) dX8_parse_102 (ws' := (mW (vG X) ad (up (up (up F 0 (t4)) 2 (up (σ0) 4 (lkV (t3) 1 7))) 3 (cpF (F 2) (F 3) 0 0 441)))) rfl ?_
    refine v_aload_n C dX8_parse_103 rfl 0 rfl ?_
    refine v_get (v := .ref (ad 2)) C inw_8 0 10 rfl (by decide) (List.mem_cons_of_mem _ mw_105) rfl rfl dX8_parse_104 ?_
    refine v_iconst C dX8_parse_107 ?_
    refine v_aload_n C dX8_parse_108 rfl 0 rfl ?_
    refine v_iconst C dX8_parse_109 ?_
    refine v_bipush C dX8_parse_110 (by decide +kernel) ?_
    refine v_callV (na := 2) (wy := (Cond.code yX8_takes cX8_takes 4 (some .int) :: wsL_law)) (wc := (mW (vG X) ad (up (up (up F 0 (t4)) 2 (up (σ0) 4 (lkV (t3) 1 7))) 3 (cpF (F 2) (F 3) 0 0 441)))) (wr := []) C [vI 1, vI 99] [vI 5, .ref (ad 2)] (c_X8_takes _ _ ad (up (up (up F 0 (t4)) 2 (up (σ0) 4 (lkV (t3) 1 7))) 3 (cpF (F 2) (F 3) 0 0 441)) 1 99 rmt4 hB1 (by decide)) rfl (gwV mw_378 mw_375 mw_376 mw_377 mw_5) rfl (by decide +kernel) 0 rfl rfl rfl rfl Sb.w rfl rfl dX8_parse_112 (fun r w1 hp112_15 => ?_)
    obtain ⟨rfl, rfl⟩ := hp112_15
    show V X 0 0 115 [(0, .ref (ad 0)), (1, vI w)] [vI (lkV (t4) 1 99), vI 5, .ref (ad 2)] ((mW (vG X) ad (up (up (up F 0 (tkM (t4) (F 1) 1 99)) 2 (up (σ0) 4 (lkV (t3) 1 7))) 3 (cpF (F 2) (F 3) 0 0 441))))
    have rm16_ : RM (tkM (t4) (F 1) 1 99) := tkM_ok rmt4 hB1
    obtain ⟨va17, vb17⟩ := lkV_in (s := (t4)) (p := 1) (q := 99) (by decide)
    obtain ⟨t5, ht5⟩ : ∃ z : Int → Int, z = (tkM (t4) (F 1) 1 99) := ⟨_, rfl⟩
    rw [← ht5]
    have rmt5 : RM t5 := by rw [ht5]; exact rm16_
    show V X 0 0 115 [(0, .ref (ad 0)), (1, vI w)] [vI (lkV (t4) 1 99), vI 5, .ref (ad 2)] ((mW (vG X) ad (up (up (up F 0 (t5)) 2 (up (σ0) 4 (lkV (t3) 1 7))) 3 (cpF (F 2) (F 3) 0 0 441))))
    refine v_iast C 2 rfl (by decide) (by decide) (by decide) dX8_parse_115 (ws' := (mW (vG X) ad (up (up (up F 0 (t5)) 2 (up (up (σ0) 4 (lkV (t3) 1 7)) 5 (lkV (t4) 1 99))) 3 (cpF (F 2) (F 3) 0 0 441)))) rfl ?_
    obtain ⟨σ9, hσ9⟩ : ∃ z : Int → Int, z = (up (up (σ0) 4 (lkV (t3) 1 7)) 5 (lkV (t4) 1 99)) := ⟨_, rfl⟩
    rw [← hσ9]
    show V X 0 0 116 [(0, .ref (ad 0)), (1, vI w)] [] ((mW (vG X) ad (up (up (up F 0 (t5)) 2 (σ9)) 3 (cpF (F 2) (F 3) 0 0 441))))
    refine v_aload_n C dX8_parse_116 rfl 0 rfl ?_
    refine v_aload_n C dX8_parse_117 rfl 0 rfl ?_
    refine v_get (v := vI (t5 6)) C inw_8 0 6 rfl (by decide) (List.mem_cons_of_mem _ mw_339) rfl rfl dX8_parse_118 ?_
    refine v_iconst C dX8_parse_121 ?_
    suffices mrg : V X 0 0 130 [(0, .ref (ad 0)), (1, vI w)] [vI (bI ((t5 6) = 3)), .ref (ad 0)] ((mW (vG X) ad (up (up (up F 0 (t5)) 2 (σ9)) 3 (cpF (F 2) (F 3) 0 0 441)))) by
      refine v_icmp_ne (tgt := 129) C dX8_parse_122 (by decide) (by have := RM_b6 rmt5; first | assumption | exact ⟨by omega, by omega⟩) (by decide) (fun c122 => ?_) (fun c122 => ?_)
      · skip
        refine v_iconst C dX8_parse_129 ?_
        exact V.top (bI_f (by omega)).symm mrg
      · skip
        refine v_iconst C dX8_parse_125 ?_
        refine v_goto (tgt := 130) C dX8_parse_126 (by decide) ?_
        exact V.top (bI_t (by omega)).symm mrg
    refine v_iconst C dX8_parse_130 ?_
    refine v_callV (na := 2) (wy := (Cond.code yX8_must cX8_must 3 (some .boolean) :: wsL_law)) (wc := (mW (vG X) ad (up (up (up F 0 (t5)) 2 (σ9)) 3 (cpF (F 2) (F 3) 0 0 441)))) (wr := []) C [vI (bI ((t5 6) = 3)), vI 1] [] (c_X8_must _ _ ad (up (up (up F 0 (t5)) 2 (σ9)) 3 (cpF (F 2) (F 3) 0 0 441)) (bI ((t5 6) = 3)) 1 rmt5 hB1 bI_01 (by decide)) rfl (gwV mw_370 mw_367 mw_368 mw_369 mw_5) rfl (by decide +kernel) 0 rfl rfl rfl rfl Sb.w rfl rfl dX8_parse_131 (fun r w1 hp131_18 => ?_)
    obtain ⟨rfl, rfl⟩ := hp131_18
    show V X 0 0 134 [(0, .ref (ad 0)), (1, vI w)] [vI (bI ((t5) 8 = 0 ∧ ¬ (bI ((t5 6) = 3)) = 0))] ((mW (vG X) ad (up (up (up F 0 (muM (t5) (bI ((t5 6) = 3)) 1)) 2 (σ9)) 3 (cpF (F 2) (F 3) 0 0 441))))
    have rm19_ : RM (muM (t5) (bI ((t5 6) = 3)) 1) := muM_ok rmt5 (by decide)
    have ex2 : (paX (F 0) (F 1) (F 2) w).2 = (σ9) := by subst hσ9 ht5 ht4 ht3 ht2 ht1 hσ0; rfl
    suffices mrg : V X 0 0 141 [(0, .ref (ad 0)), (1, vI w)] [] ((mW (vG X) ad (up (up (up F 0 ((paX (F 0) (F 1) (F 2) w).1)) 2 ((paX (F 0) (F 1) (F 2) w).2)) 3 (cpF (F 2) (F 3) 0 0 441)))) by
      refine v_if_eq (tgt := 141) C dX8_parse_134 (by decide) sm_bI (fun c134 => ?_) (fun c134 => ?_)
      · skip
        have c134 := bI_0.mp c134
        have ex1 : (paX (F 0) (F 1) (F 2) w).1 = (muM (t5) (bI ((t5 6) = 3)) 1) := by subst hσ9 ht5 ht4 ht3 ht2 ht1 hσ0; exact if_neg c134
        rw [ex1, ex2] at mrg
        exact mrg
      · skip
        have c134 := bI_n0.mp c134
        refine v_aload_n C dX8_parse_137 rfl 0 rfl ?_
        refine v_callV (na := 0) (wy := (Cond.code yX8_nextToken cX8_nextToken 2 none :: wsL_law)) (wc := (mW (vG X) ad (up (up (up F 0 (muM (t5) (bI ((t5 6) = 3)) 1)) 2 (σ9)) 3 (cpF (F 2) (F 3) 0 0 441)))) (wr := []) C [] [] (c_X8_nextToken _ _ ad (up (up (up F 0 (muM (t5) (bI ((t5 6) = 3)) 1)) 2 (σ9)) 3 (cpF (F 2) (F 3) 0 0 441)) (rm19_.one) hB1) rfl (gwV mw_354 mw_351 mw_352 mw_353 mw_5) rfl (by decide +kernel) 0 rfl rfl rfl rfl Sb.w rfl rfl dX8_parse_138 (fun r w1 hp138_20 => ?_)
        obtain ⟨rfl, rfl⟩ := hp138_20
        show V X 0 0 141 [(0, .ref (ad 0)), (1, vI w)] [] ((mW (vG X) ad (up (up (up F 0 (ntM (muM (t5) (bI ((t5 6) = 3)) 1) (F 1))) 2 (σ9)) 3 (cpF (F 2) (F 3) 0 0 441))))
        have rm21_ : RM (ntM (muM (t5) (bI ((t5 6) = 3)) 1) (F 1)) := ntM_ok (rm19_.one) hB1
        have ex1 : (paX (F 0) (F 1) (F 2) w).1 = (ntM (muM (t5) (bI ((t5 6) = 3)) 1) (F 1)) := by subst hσ9 ht5 ht4 ht3 ht2 ht1 hσ0; exact if_pos c134
        rw [ex1, ex2] at mrg
        exact mrg
    have hx := paX_ok (n := w) ho hB1 c14 hl hB
    have lp : ∀ (n : Nat) (n0 : Nat) (s1 : Int → Int) (σ1 : Int → Int) (hn0 : n0 ≤ 700) (he1 : s1 = ((paI (F 1) (paX (F 0) (F 1) (F 2) w) n0).1)) (he2 : σ1 = ((paI (F 1) (paX (F 0) (F 1) (F 2) w) n0).2)) (hno : ∀ j : Nat, j < n0 → ¬ (fun k : Nat => ¬ (((paI (F 1) (paX (F 0) (F 1) (F 2) w) k).1) 8 = 0 ∧ ¬ ((paI (F 1) (paX (F 0) (F 1) (F 2) w) k).1) 6 = 0)) j) (h5 : s1 8 = 0 → (n0 : Int) + 1 ≤ s1 5) (hm : 701 - (n0 : Int) < (n : Int)), V X 0 0 141 [(0, .ref (ad 0)), (1, vI w)] [] ((mW (vG X) ad (up (up (up F 0 (s1)) 2 (σ1)) 3 (cpF (F 2) (F 3) 0 0 441)))) := by
      intro n
      induction n with
      | zero => intro n0 s1 σ1 hn0 he1 he2 hno h5 hm; exact absurd hm (by omega)
      | succ n ih =>
        intro n0 s1 σ1 hn0 he1 he2 hno h5 hm
        have rmI : RM s1 := by rw [he1]; exact (paI_ok (B := F 1) (x := (paX (F 0) (F 1) (F 2) w)) hB1 hx.1 hx.2.1 n0).1
        have hnI : NI σ1 := by rw [he2]; exact (paI_ok (B := F 1) (x := (paX (F 0) (F 1) (F 2) w)) hB1 hx.1 hx.2.1 n0).2
        refine v_aload_n C dX8_parse_141 rfl 0 rfl ?_
        refine v_get (v := vI (s1 8)) C inw_8 0 8 rfl (by decide) (List.mem_cons_of_mem _ mw_336) rfl rfl dX8_parse_142 ?_
        refine v_if_ne (tgt := 162) C dX8_parse_145 (by decide) (by have := RM_b8 rmI; first | assumption | exact ⟨by omega, by omega⟩) (fun c145 => ?_) (fun c145 => ?_)
        · skip
          have en : n0 = (paK (F 1) (paX (F 0) (F 1) (F 2) w)) := skN_u _ _ hno (by omega) (Or.inl (by rw [← he1]; exact fun h => c145 h.1))
          have eE1 : (paE (F 0) (F 1) (F 2) w).1 = s1 := by rw [he1, en]; rfl
          have eE2 : (paE (F 0) (F 1) (F 2) w).2 = σ1 := by rw [he2, en]; rfl
          refine v_aload_n C dX8_parse_162 rfl 0 rfl ?_
          refine v_get (v := vI (s1 8)) C inw_8 0 8 rfl (by decide) (List.mem_cons_of_mem _ mw_336) rfl rfl dX8_parse_163 ?_
          refine v_if_eq (tgt := 198) C dX8_parse_166 (by decide) (by have := RM_b8 rmI; first | assumption | exact ⟨by omega, by omega⟩) (fun c166 => ?_) (fun c166 => ?_)
          · skip
            refine v_aload_n C dX8_parse_198 rfl 0 rfl ?_
            refine v_callV (na := 0) (wy := (Cond.code yX8_begins cX8_begins 1 none :: wsL_law)) (wc := (mW (vG X) ad (up (up (up F 0 (s1)) 2 (σ1)) 3 (cpF (F 2) (F 3) 0 0 441)))) (wr := []) C [] [] (c_X8_begins _ _ ad (up (up (up F 0 (s1)) 2 (σ1)) 3 (cpF (F 2) (F 3) 0 0 441))) rfl (gwV mw_124 mw_121 mw_122 mw_123 mw_5) rfl (by decide +kernel) 0 rfl rfl rfl rfl Sb.w rfl rfl dX8_parse_199 (fun r w1 hp199_22 => ?_)
            obtain ⟨rfl, rfl⟩ := hp199_22
            show V X 0 0 202 [(0, .ref (ad 0)), (1, vI w)] [] ((mW (vG X) ad (up (up (up (up F 0 (up (s1) 14 0)) 2 (up (up (σ1) 25 (σ1 32)) 36 (σ1 21))) 3 (cpF (F 2) (F 3) 0 0 441)) 7 (up (up (F 7) 0 0) 1 0))))
            refine v_aload_n C dX8_parse_202 rfl 0 rfl ?_
            refine v_iconst C dX8_parse_203 ?_
            refine v_iconst C dX8_parse_204 ?_
            refine v_callV (na := 2) (wy := (Cond.code yX8_of cX8_of 3 (some .int) :: wsL_law)) (wc := (mW (vG X) ad (up (up (up (up F 0 (up (s1) 14 0)) 2 (up (up (σ1) 25 (σ1 32)) 36 (σ1 21))) 3 (cpF (F 2) (F 3) 0 0 441)) 7 (up (up (F 7) 0 0) 1 0)))) (wr := []) C [vI 0, vI 0] [] (c_X8_of _ _ ad (up (up (up (up F 0 (up (s1) 14 0)) 2 (up (up (σ1) 25 (σ1 32)) 36 (σ1 21))) 3 (cpF (F 2) (F 3) 0 0 441)) 7 (up (up (F 7) 0 0) 1 0)) 0 0 (by decide) (by decide)) rfl (gwV mw_129 mw_126 mw_127 mw_128 mw_5) rfl (by decide +kernel) 0 rfl rfl rfl rfl Sb.w rfl rfl dX8_parse_205 (fun r w1 hp205_23 => ?_)
            obtain ⟨rfl, rfl⟩ := hp205_23
            show V X 0 0 208 [(0, .ref (ad 0)), (1, vI w)] [vI ((up (up (σ1) 25 (σ1 32)) 36 (σ1 21)) 18)] ((mW (vG X) ad (up (up (up (up F 0 (up (s1) 14 0)) 2 (up (up (σ1) 25 (σ1 32)) 36 (σ1 21))) 3 (cpF (F 2) (F 3) 0 0 441)) 7 (up (up (F 7) 0 0) 1 0))))
            rw [up_n (show (18 : Int) ≠ 36 by decide), up_n (show (18 : Int) ≠ 25 by decide)]
            refine v_aload_n C dX8_parse_208 rfl 0 rfl ?_
            refine v_iconst C dX8_parse_209 ?_
            refine v_iconst C dX8_parse_210 ?_
            refine v_callV (na := 2) (wy := (Cond.code yX8_of cX8_of 3 (some .int) :: wsL_law)) (wc := (mW (vG X) ad (up (up (up (up F 0 (up (s1) 14 0)) 2 (up (up (σ1) 25 (σ1 32)) 36 (σ1 21))) 3 (cpF (F 2) (F 3) 0 0 441)) 7 (up (up (F 7) 0 0) 1 0)))) (wr := []) C [vI 1, vI 0] [vI (σ1 18)] (c_X8_of _ _ ad (up (up (up (up F 0 (up (s1) 14 0)) 2 (up (up (σ1) 25 (σ1 32)) 36 (σ1 21))) 3 (cpF (F 2) (F 3) 0 0 441)) 7 (up (up (F 7) 0 0) 1 0)) 1 0 (by decide) (by decide)) rfl (gwV mw_129 mw_126 mw_127 mw_128 mw_5) rfl (by decide +kernel) 0 rfl rfl rfl rfl Sb.w rfl rfl dX8_parse_211 (fun r w1 hp211_24 => ?_)
            obtain ⟨rfl, rfl⟩ := hp211_24
            show V X 0 0 214 [(0, .ref (ad 0)), (1, vI w)] [vI ((up (up (σ1) 25 (σ1 32)) 36 (σ1 21)) 29), vI (σ1 18)] ((mW (vG X) ad (up (up (up (up F 0 (up (s1) 14 0)) 2 (up (up (σ1) 25 (σ1 32)) 36 (σ1 21))) 3 (cpF (F 2) (F 3) 0 0 441)) 7 (up (up (F 7) 0 0) 1 0))))
            rw [up_n (show (29 : Int) ≠ 36 by decide), up_n (show (29 : Int) ≠ 25 by decide)]
            refine v_iadd C dX8_parse_214 ?_
            exact v_iret C E rfl dX8_parse_215 (by decide) (by decide) (⟨_, rfl, Or.inr (Or.inr ⟨c14, by rw [eE1]; exact c166, by rw [eE2], by rw [eE1, eE2] <;> rfl⟩)⟩)
          · skip
            refine v_aload_n C dX8_parse_169 rfl 0 rfl ?_
            refine v_get (v := .ref (ad 3)) C inw_8 0 11 rfl (by decide) (List.mem_cons_of_mem _ mw_106) rfl rfl dX8_parse_170 ?_
            refine v_iconst C dX8_parse_173 ?_
            refine v_aload_n C dX8_parse_174 rfl 0 rfl ?_
            refine v_get (v := .ref (ad 2)) C inw_8 0 10 rfl (by decide) (List.mem_cons_of_mem _ mw_105) rfl rfl dX8_parse_175 ?_
            refine v_iconst C dX8_parse_178 ?_
            refine v_callS (na := 4) (wy := (Cond.code yX8_copy cX8_copy 5 none :: wsL_law)) (wc := [((ad 3), .inl ((vG X).2 1, 441, .inl (fI (cpF (F 2) (F 3) 0 0 441)))), ((ad 2), .inl ((vG X).2 1, 441, .inl (fI (σ1))))]) (wr := [((ad 0), .inr (8, [vI (s1 0), .ref (ad 1), vI (s1 2), vI (s1 3), vI (s1 4), vI (s1 5), vI (s1 6), vI (s1 7), vI (s1 8), vI (s1 9), .ref (ad 2), .ref (ad 3), .ref (ad 4), .ref (ad 5), vI (s1 14), .ref (ad 6), .ref (ad 7), vI (s1 17), vI (s1 18), .ref (ad 8), vI (s1 20), .ref (ad 9), vI (s1 22), vI (s1 23), vI (s1 24), vI (s1 25), vI (s1 26)])), ((ad 1), .inl ((vG X).2 0, 700, .inl (fI (F 1)))), ((ad 4), .inl ((vG X).2 1, 441, .inl (fI (F 4)))), ((ad 5), .inl ((vG X).2 1, 4410, .inl (fI (F 5)))), ((ad 6), .inl ((vG X).2 1, 882, .inl (fI (F 6)))), ((ad 7), .inl ((vG X).2 3, 2, .inl (fI (F 7)))), ((ad 8), .inl ((vG X).2 1, 15, .inl (fI (F 8)))), ((ad 9), .inl ((vG X).2 1, 40, .inl (fI (F 9))))]) C [.ref (ad 3), vI 0, .ref (ad 2), vI 0] [] (c_X8_copy _ _ (ad 3) (ad 2) 441 441 (cpF (F 2) (F 3) 0 0 441) (σ1) 0 0 (by omega) (by omega) (by decide) (by omega) (by omega) (by decide)) rfl (gwS mw_350 mw_348 mw_349 mw_5) (by decide +kernel) rfl rfl (Sb.pl [3, 2, 0, 1, 4, 5, 6, 7, 8, 9] rfl rfl) rfl rfl dX8_parse_179 (fun r w1 hp179_25 => ?_)
            obtain ⟨rfl, rfl⟩ := hp179_25
            refine V.sb (ws' := (mW (vG X) ad (up (up (up F 0 (s1)) 2 (cpF (cpF (F 2) (F 3) 0 0 441) (σ1) 0 0 441)) 3 (cpF (F 2) (F 3) 0 0 441)))) (Sb.pl [2, 3, 1, 0, 4, 5, 6, 7, 8, 9] rfl rfl) ?_
            show V X 0 0 182 [(0, .ref (ad 0)), (1, vI w)] [] ((mW (vG X) ad (up (up (up F 0 (s1)) 2 (cpF (cpF (F 2) (F 3) 0 0 441) (σ1) 0 0 441)) 3 (cpF (F 2) (F 3) 0 0 441))))
            refine V.sb (ws' := (mW (vG X) ad (up (up (up F 0 (s1)) 2 (F 2)) 3 (cpF (F 2) (F 3) 0 0 441)))) (Sb.arr 2 rfl (fun j h0 h1 => by show cpF (cpF (F 2) (F 3) 0 0 441) σ1 0 0 441 j = F 2 j; rw [cpF_in h0 (by omega), cpF_in h0 (by omega)]) rfl) ?_
            show V X 0 0 182 [(0, .ref (ad 0)), (1, vI w)] [] ((mW (vG X) ad (up (up (up F 0 (s1)) 2 (F 2)) 3 (cpF (F 2) (F 3) 0 0 441))))
            refine v_bipush C dX8_parse_182 (by decide +kernel) ?_
            refine v_bipush C dX8_parse_184 (by decide +kernel) ?_
            refine v_aload_n C dX8_parse_186 rfl 0 rfl ?_
            refine v_get (v := vI (s1 9)) C inw_8 0 9 rfl (by decide) (List.mem_cons_of_mem _ mw_340) rfl rfl dX8_parse_187 ?_
            refine v_imul C dX8_parse_190 ?_
            refine v_aload_n C dX8_parse_191 rfl 0 rfl ?_
            refine v_get (v := vI (s1 8)) C inw_8 0 8 rfl (by decide) (List.mem_cons_of_mem _ mw_336) rfl rfl dX8_parse_192 ?_
            refine v_iadd C dX8_parse_195 ?_
            refine v_isub C dX8_parse_196 ?_
            exact v_iret C E rfl dX8_parse_197 (by decide) (by decide) (⟨_, rfl, Or.inr (Or.inl ⟨c14, by rw [eE1]; exact c166, by rw [eE1], by rw [eE1] <;> rfl⟩)⟩)
        · skip
          refine v_aload_n C dX8_parse_148 rfl 0 rfl ?_
          refine v_get (v := vI (s1 6)) C inw_8 0 6 rfl (by decide) (List.mem_cons_of_mem _ mw_339) rfl rfl dX8_parse_149 ?_
          refine v_if_eq (tgt := 162) C dX8_parse_152 (by decide) (by have := RM_b6 rmI; first | assumption | exact ⟨by omega, by omega⟩) (fun c152 => ?_) (fun c152 => ?_)
          · skip
            have en : n0 = (paK (F 1) (paX (F 0) (F 1) (F 2) w)) := skN_u _ _ hno (by omega) (Or.inl (by rw [← he1]; exact fun h => h.2 c152))
            have eE1 : (paE (F 0) (F 1) (F 2) w).1 = s1 := by rw [he1, en]; rfl
            have eE2 : (paE (F 0) (F 1) (F 2) w).2 = σ1 := by rw [he2, en]; rfl
            refine v_aload_n C dX8_parse_162 rfl 0 rfl ?_
            refine v_get (v := vI (s1 8)) C inw_8 0 8 rfl (by decide) (List.mem_cons_of_mem _ mw_336) rfl rfl dX8_parse_163 ?_
            refine v_if_eq (tgt := 198) C dX8_parse_166 (by decide) (by have := RM_b8 rmI; first | assumption | exact ⟨by omega, by omega⟩) (fun c166 => ?_) (fun c166 => ?_)
            · skip
              refine v_aload_n C dX8_parse_198 rfl 0 rfl ?_
              refine v_callV (na := 0) (wy := (Cond.code yX8_begins cX8_begins 1 none :: wsL_law)) (wc := (mW (vG X) ad (up (up (up F 0 (s1)) 2 (σ1)) 3 (cpF (F 2) (F 3) 0 0 441)))) (wr := []) C [] [] (c_X8_begins _ _ ad (up (up (up F 0 (s1)) 2 (σ1)) 3 (cpF (F 2) (F 3) 0 0 441))) rfl (gwV mw_124 mw_121 mw_122 mw_123 mw_5) rfl (by decide +kernel) 0 rfl rfl rfl rfl Sb.w rfl rfl dX8_parse_199 (fun r w1 hp199_26 => ?_)
              obtain ⟨rfl, rfl⟩ := hp199_26
              show V X 0 0 202 [(0, .ref (ad 0)), (1, vI w)] [] ((mW (vG X) ad (up (up (up (up F 0 (up (s1) 14 0)) 2 (up (up (σ1) 25 (σ1 32)) 36 (σ1 21))) 3 (cpF (F 2) (F 3) 0 0 441)) 7 (up (up (F 7) 0 0) 1 0))))
              refine v_aload_n C dX8_parse_202 rfl 0 rfl ?_
              refine v_iconst C dX8_parse_203 ?_
              refine v_iconst C dX8_parse_204 ?_
              refine v_callV (na := 2) (wy := (Cond.code yX8_of cX8_of 3 (some .int) :: wsL_law)) (wc := (mW (vG X) ad (up (up (up (up F 0 (up (s1) 14 0)) 2 (up (up (σ1) 25 (σ1 32)) 36 (σ1 21))) 3 (cpF (F 2) (F 3) 0 0 441)) 7 (up (up (F 7) 0 0) 1 0)))) (wr := []) C [vI 0, vI 0] [] (c_X8_of _ _ ad (up (up (up (up F 0 (up (s1) 14 0)) 2 (up (up (σ1) 25 (σ1 32)) 36 (σ1 21))) 3 (cpF (F 2) (F 3) 0 0 441)) 7 (up (up (F 7) 0 0) 1 0)) 0 0 (by decide) (by decide)) rfl (gwV mw_129 mw_126 mw_127 mw_128 mw_5) rfl (by decide +kernel) 0 rfl rfl rfl rfl Sb.w rfl rfl dX8_parse_205 (fun r w1 hp205_27 => ?_)
              obtain ⟨rfl, rfl⟩ := hp205_27
              show V X 0 0 208 [(0, .ref (ad 0)), (1, vI w)] [vI ((up (up (σ1) 25 (σ1 32)) 36 (σ1 21)) 18)] ((mW (vG X) ad (up (up (up (up F 0 (up (s1) 14 0)) 2 (up (up (σ1) 25 (σ1 32)) 36 (σ1 21))) 3 (cpF (F 2) (F 3) 0 0 441)) 7 (up (up (F 7) 0 0) 1 0))))
              rw [up_n (show (18 : Int) ≠ 36 by decide), up_n (show (18 : Int) ≠ 25 by decide)]
              refine v_aload_n C dX8_parse_208 rfl 0 rfl ?_
              refine v_iconst C dX8_parse_209 ?_
              refine v_iconst C dX8_parse_210 ?_
              refine v_callV (na := 2) (wy := (Cond.code yX8_of cX8_of 3 (some .int) :: wsL_law)) (wc := (mW (vG X) ad (up (up (up (up F 0 (up (s1) 14 0)) 2 (up (up (σ1) 25 (σ1 32)) 36 (σ1 21))) 3 (cpF (F 2) (F 3) 0 0 441)) 7 (up (up (F 7) 0 0) 1 0)))) (wr := []) C [vI 1, vI 0] [vI (σ1 18)] (c_X8_of _ _ ad (up (up (up (up F 0 (up (s1) 14 0)) 2 (up (up (σ1) 25 (σ1 32)) 36 (σ1 21))) 3 (cpF (F 2) (F 3) 0 0 441)) 7 (up (up (F 7) 0 0) 1 0)) 1 0 (by decide) (by decide)) rfl (gwV mw_129 mw_126 mw_127 mw_128 mw_5) rfl (by decide +kernel) 0 rfl rfl rfl rfl Sb.w rfl rfl dX8_parse_211 (fun r w1 hp211_28 => ?_)
              obtain ⟨rfl, rfl⟩ := hp211_28
              show V X 0 0 214 [(0, .ref (ad 0)), (1, vI w)] [vI ((up (up (σ1) 25 (σ1 32)) 36 (σ1 21)) 29), vI (σ1 18)] ((mW (vG X) ad (up (up (up (up F 0 (up (s1) 14 0)) 2 (up (up (σ1) 25 (σ1 32)) 36 (σ1 21))) 3 (cpF (F 2) (F 3) 0 0 441)) 7 (up (up (F 7) 0 0) 1 0))))
              rw [up_n (show (29 : Int) ≠ 36 by decide), up_n (show (29 : Int) ≠ 25 by decide)]
              refine v_iadd C dX8_parse_214 ?_
              exact v_iret C E rfl dX8_parse_215 (by decide) (by decide) (⟨_, rfl, Or.inr (Or.inr ⟨c14, by rw [eE1]; exact c166, by rw [eE2], by rw [eE1, eE2] <;> rfl⟩)⟩)
            · skip
              refine v_aload_n C dX8_parse_169 rfl 0 rfl ?_
              refine v_get (v := .ref (ad 3)) C inw_8 0 11 rfl (by decide) (List.mem_cons_of_mem _ mw_106) rfl rfl dX8_parse_170 ?_
              refine v_iconst C dX8_parse_173 ?_
              refine v_aload_n C dX8_parse_174 rfl 0 rfl ?_
              refine v_get (v := .ref (ad 2)) C inw_8 0 10 rfl (by decide) (List.mem_cons_of_mem _ mw_105) rfl rfl dX8_parse_175 ?_
              refine v_iconst C dX8_parse_178 ?_
              refine v_callS (na := 4) (wy := (Cond.code yX8_copy cX8_copy 5 none :: wsL_law)) (wc := [((ad 3), .inl ((vG X).2 1, 441, .inl (fI (cpF (F 2) (F 3) 0 0 441)))), ((ad 2), .inl ((vG X).2 1, 441, .inl (fI (σ1))))]) (wr := [((ad 0), .inr (8, [vI (s1 0), .ref (ad 1), vI (s1 2), vI (s1 3), vI (s1 4), vI (s1 5), vI (s1 6), vI (s1 7), vI (s1 8), vI (s1 9), .ref (ad 2), .ref (ad 3), .ref (ad 4), .ref (ad 5), vI (s1 14), .ref (ad 6), .ref (ad 7), vI (s1 17), vI (s1 18), .ref (ad 8), vI (s1 20), .ref (ad 9), vI (s1 22), vI (s1 23), vI (s1 24), vI (s1 25), vI (s1 26)])), ((ad 1), .inl ((vG X).2 0, 700, .inl (fI (F 1)))), ((ad 4), .inl ((vG X).2 1, 441, .inl (fI (F 4)))), ((ad 5), .inl ((vG X).2 1, 4410, .inl (fI (F 5)))), ((ad 6), .inl ((vG X).2 1, 882, .inl (fI (F 6)))), ((ad 7), .inl ((vG X).2 3, 2, .inl (fI (F 7)))), ((ad 8), .inl ((vG X).2 1, 15, .inl (fI (F 8)))), ((ad 9), .inl ((vG X).2 1, 40, .inl (fI (F 9))))]) C [.ref (ad 3), vI 0, .ref (ad 2), vI 0] [] (c_X8_copy _ _ (ad 3) (ad 2) 441 441 (cpF (F 2) (F 3) 0 0 441) (σ1) 0 0 (by omega) (by omega) (by decide) (by omega) (by omega) (by decide)) rfl (gwS mw_350 mw_348 mw_349 mw_5) (by decide +kernel) rfl rfl (Sb.pl [3, 2, 0, 1, 4, 5, 6, 7, 8, 9] rfl rfl) rfl rfl dX8_parse_179 (fun r w1 hp179_29 => ?_)
              obtain ⟨rfl, rfl⟩ := hp179_29
              refine V.sb (ws' := (mW (vG X) ad (up (up (up F 0 (s1)) 2 (cpF (cpF (F 2) (F 3) 0 0 441) (σ1) 0 0 441)) 3 (cpF (F 2) (F 3) 0 0 441)))) (Sb.pl [2, 3, 1, 0, 4, 5, 6, 7, 8, 9] rfl rfl) ?_
              show V X 0 0 182 [(0, .ref (ad 0)), (1, vI w)] [] ((mW (vG X) ad (up (up (up F 0 (s1)) 2 (cpF (cpF (F 2) (F 3) 0 0 441) (σ1) 0 0 441)) 3 (cpF (F 2) (F 3) 0 0 441))))
              refine V.sb (ws' := (mW (vG X) ad (up (up (up F 0 (s1)) 2 (F 2)) 3 (cpF (F 2) (F 3) 0 0 441)))) (Sb.arr 2 rfl (fun j h0 h1 => by show cpF (cpF (F 2) (F 3) 0 0 441) σ1 0 0 441 j = F 2 j; rw [cpF_in h0 (by omega), cpF_in h0 (by omega)]) rfl) ?_
              show V X 0 0 182 [(0, .ref (ad 0)), (1, vI w)] [] ((mW (vG X) ad (up (up (up F 0 (s1)) 2 (F 2)) 3 (cpF (F 2) (F 3) 0 0 441))))
              refine v_bipush C dX8_parse_182 (by decide +kernel) ?_
              refine v_bipush C dX8_parse_184 (by decide +kernel) ?_
              refine v_aload_n C dX8_parse_186 rfl 0 rfl ?_
              refine v_get (v := vI (s1 9)) C inw_8 0 9 rfl (by decide) (List.mem_cons_of_mem _ mw_340) rfl rfl dX8_parse_187 ?_
              refine v_imul C dX8_parse_190 ?_
              refine v_aload_n C dX8_parse_191 rfl 0 rfl ?_
              refine v_get (v := vI (s1 8)) C inw_8 0 8 rfl (by decide) (List.mem_cons_of_mem _ mw_336) rfl rfl dX8_parse_192 ?_
              refine v_iadd C dX8_parse_195 ?_
              refine v_isub C dX8_parse_196 ?_
              exact v_iret C E rfl dX8_parse_197 (by decide) (by decide) (⟨_, rfl, Or.inr (Or.inl ⟨c14, by rw [eE1]; exact c166, by rw [eE1], by rw [eE1] <;> rfl⟩)⟩)
          · skip
            have h51 := h5 c145
            have h53 := rmI.1
            refine v_aload_n C dX8_parse_155 rfl 0 rfl ?_
            refine v_callV (na := 0) (wy := (Cond.code yX8_statement cX8_statement 1 none :: wsL_law)) (wc := (mW (vG X) ad (up (up (up F 0 (s1)) 2 (σ1)) 3 (cpF (F 2) (F 3) 0 0 441)))) (wr := []) C [] [] (c_X8_statement _ _ ad (up (up (up F 0 (s1)) 2 (σ1)) 3 (cpF (F 2) (F 3) 0 0 441)) rmI hB1 hnI) rfl (gwV mw_386 mw_383 mw_384 mw_385 mw_5) rfl (by decide +kernel) 0 rfl rfl rfl rfl Sb.w rfl rfl dX8_parse_156 (fun r w1 hp156_30 => ?_)
            obtain ⟨rfl, rfl⟩ := hp156_30
            show V X 0 0 159 [(0, .ref (ad 0)), (1, vI w)] [] ((mW (vG X) ad (up (up (up F 0 (sfS (s1) (F 1) (σ1))) 2 (stN (s1) (F 1) (σ1))) 3 (cpF (F 2) (F 3) 0 0 441))))
            refine v_goto (tgt := 141) C dX8_parse_159 (by decide) ?_
            have key := ih (n0 + 1) (sfS s1 (F 1) σ1) (stN s1 (F 1) σ1) (by omega) (by rw [he1, he2]; rfl) (by rw [he1, he2]; rfl) (fun j hj => by
              by_cases e : j = n0
              · rw [e]; exact fun h => h ⟨(by rw [← he1]; exact c145), (by rw [← he1]; exact c152)⟩
              · exact hno j (by omega)) (fun h8 => Int.le_trans (show ((n0 + 1 : Nat) : Int) + 1 ≤ s1 5 + 1 by omega) (sfS_go rmI hB1 h8)) (by omega)
            exact key
    exact lp 702 0 (paX (F 0) (F 1) (F 2) w).1 (paX (F 0) (F 1) (F 2) w).2 (by omega) rfl rfl (fun j hj => absurd hj (by omega)) hx.2.2 (by omega)
  · skip
    have c14 := bI_0.mp c14
    refine v_aload_n C dX8_parse_17 rfl 0 rfl ?_
    refine v_iconst C dX8_parse_18 ?_
    refine v_callV (na := 1) (wy := (Cond.code yX8_fail cX8_fail 2 (some .int) :: wsL_law)) (wc := (mW (vG X) ad (up F 0 (up (F 0) 0 0)))) (wr := []) C [vI 1] [] (c_X8_fail _ _ ad (up F 0 (up (F 0) 0 0)) 1) rfl (gwV mw_347 mw_344 mw_345 mw_346 mw_5) rfl (by decide +kernel) 0 rfl rfl rfl rfl Sb.w rfl rfl dX8_parse_19 (fun r w1 hp19_31 => ?_)
    obtain ⟨v9, rfl, rfl, rfl⟩ := hp19_31
    show V X 0 0 22 [(0, .ref (ad 0)), (1, vI w)] [vI 0] ((mW (vG X) ad (up F 0 (up (F 0) 0 1))))
    exact v_iret C E rfl dX8_parse_22 (by decide) (by decide) (⟨_, rfl, Or.inl ⟨c14, rfl, rfl⟩⟩)
end M15
