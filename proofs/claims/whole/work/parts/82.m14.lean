section M14
set_option maxHeartbeats 4000000 in
set_option maxRecDepth 100000 in
theorem c_X8_statement (G : GG) (l : Launch) (ad : Nat → Nat) (F : Int → Int → Int) (ho : RM (F 0)) (hB1 : sB 1000 (F 1)) (hn : NI (F 2)) : Ct G l yX8_statement (Cond.code yX8_statement cX8_statement 1 none :: wsL_law) 5 108 0 0 [.ref (ad 0)] ((mW G ad F)) (fun r w => r = none ∧ w = mW G ad (up (up F 0 (sfS (F 0) (F 1) (F 2))) 2 (stN (F 0) (F 1) (F 2)))) := by
  refine Ct.of (own := RX8) (cc := cX8_statement) (maxL := 1) (ret := none) (by decide) rfl rfl (Nat.le_of_ble_eq_true rfl) (fun X C E M hG hl => ?_)
  subst hG hl
  have ho0 := ho
  obtain ⟨⟨h4a, h45, h53, h3b⟩, ⟨h6a, h6b⟩, ⟨h7a, h7b⟩, ⟨h8a, h8b⟩, ⟨h9a, h9b⟩, hw0, hw1⟩ := ho0
  have hB2 := NI_1 hn
  suffices mrg : V X 0 0 55 [(0, .ref (ad 0))] [] ((mW (vG X) ad (up (up F 0 (stS (F 0) (F 1) (F 2))) 2 (stN (F 0) (F 1) (F 2))))) by
    refine v_aload_n C dX8_statement_0 rfl 0 rfl ?_
    refine v_ldcK (i := 5) (tx := "window") C rfl dX8_statement_1 ?_
    refine v_callV (na := 1) (wy := (Cond.code yX8_isWord cX8_isWord 4 (some .boolean) :: wsL_law)) (wc := (mW (vG X) ad F)) (wr := []) C [.ref ((vG X).1.2 5)] [] (c_X8_isWord _ _ ad F 5 sK1 ho hB1 rfl) rfl (gwV mw_364 mw_361 mw_362 mw_363 mw_5) rfl (by decide +kernel) 0 rfl rfl rfl rfl Sb.w rfl rfl dX8_statement_3 (fun r w1 hp3_1 => ?_)
    obtain ⟨rfl, rfl⟩ := hp3_1
    show V X 0 0 6 [(0, .ref (ad 0))] [vI (bI (wdM (F 0) (F 1) sK1))] ((mW (vG X) ad F))
    refine v_if_eq (tgt := 16) C dX8_statement_6 (by decide) sm_bI (fun c6 => ?_) (fun c6 => ?_)
    · skip
      have c6 := bI_0.mp c6
      refine v_aload_n C dX8_statement_16 rfl 0 rfl ?_
      refine v_ldcK (i := 6) (tx := "message") C rfl dX8_statement_17 ?_
      refine v_callV (na := 1) (wy := (Cond.code yX8_isWord cX8_isWord 4 (some .boolean) :: wsL_law)) (wc := (mW (vG X) ad F)) (wr := []) C [.ref ((vG X).1.2 6)] [] (c_X8_isWord _ _ ad F 6 sK2 ho hB1 rfl) rfl (gwV mw_364 mw_361 mw_362 mw_363 mw_5) rfl (by decide +kernel) 0 rfl rfl rfl rfl Sb.w rfl rfl dX8_statement_19 (fun r w1 hp19_2 => ?_)
      obtain ⟨rfl, rfl⟩ := hp19_2
      show V X 0 0 22 [(0, .ref (ad 0))] [vI (bI (wdM (F 0) (F 1) sK2))] ((mW (vG X) ad F))
      refine v_if_eq (tgt := 32) C dX8_statement_22 (by decide) sm_bI (fun c22 => ?_) (fun c22 => ?_)
      · skip
        have c22 := bI_0.mp c22
        refine v_aload_n C dX8_statement_32 rfl 0 rfl ?_
        refine v_ldcK (i := 7) (tx := "lose") C rfl dX8_statement_33 ?_
        refine v_callV (na := 1) (wy := (Cond.code yX8_isWord cX8_isWord 4 (some .boolean) :: wsL_law)) (wc := (mW (vG X) ad F)) (wr := []) C [.ref ((vG X).1.2 7)] [] (c_X8_isWord _ _ ad F 7 sK3 ho hB1 rfl) rfl (gwV mw_364 mw_361 mw_362 mw_363 mw_5) rfl (by decide +kernel) 0 rfl rfl rfl rfl Sb.w rfl rfl dX8_statement_35 (fun r w1 hp35_3 => ?_)
        obtain ⟨rfl, rfl⟩ := hp35_3
        show V X 0 0 38 [(0, .ref (ad 0))] [vI (bI (wdM (F 0) (F 1) sK3))] ((mW (vG X) ad F))
        refine v_if_eq (tgt := 48) C dX8_statement_38 (by decide) sm_bI (fun c38 => ?_) (fun c38 => ?_)
        · skip
          have c38 := bI_0.mp c38
          refine v_aload_n C dX8_statement_48 rfl 0 rfl ?_
          refine v_iconst C dX8_statement_49 ?_
          refine v_iconst C dX8_statement_50 ?_
          refine v_callV (na := 2) (wy := (Cond.code yX8_must cX8_must 3 (some .boolean) :: wsL_law)) (wc := (mW (vG X) ad F)) (wr := []) C [vI 0, vI 1] [] (c_X8_must _ _ ad F 0 1 ho hB1 (by decide) (by decide)) rfl (gwV mw_370 mw_367 mw_368 mw_369 mw_5) rfl (by decide +kernel) 0 rfl rfl rfl rfl Sb.w rfl rfl dX8_statement_51 (fun r w1 hp51_4 => ?_)
          obtain ⟨rfl, rfl⟩ := hp51_4
          show V X 0 0 54 [(0, .ref (ad 0))] [vI (bI ((F 0) 8 = 0 ∧ ¬ 0 = 0))] ((mW (vG X) ad (up F 0 (muM (F 0) 0 1))))
          have rm5_ : RM (muM (F 0) 0 1) := muM_ok ho (by decide)
          refine v_pop C dX8_statement_54 rfl ?_
          have e0 : (stS (F 0) (F 1) (F 2)) = (muM (F 0) 0 1) := (if_neg c6).trans ((if_neg c22).trans (if_neg c38))
          have e2 : (stN (F 0) (F 1) (F 2)) = (F 2) := (if_neg c6).trans ((if_neg c22).trans (if_neg c38))
          rw [e0, e2] at mrg
          exact mrg
        · skip
          have c38 := bI_n0.mp c38
          refine v_aload_n C dX8_statement_41 rfl 0 rfl ?_
          refine v_callV (na := 0) (wy := (Cond.code yX8_loseLine cX8_loseLine 2 none :: wsL_law)) (wc := (mW (vG X) ad F)) (wr := []) C [] [] (c_X8_loseLine _ _ ad F ho hB1 (NI_1 hn) (NI_2 hn) (NI_3 hn)) rfl (gwV mw_404 mw_401 mw_402 mw_403 mw_5) rfl (by decide +kernel) 0 rfl rfl rfl rfl Sb.w rfl rfl dX8_statement_42 (fun r w1 hp42_6 => ?_)
          obtain ⟨rfl, rfl⟩ := hp42_6
          show V X 0 0 45 [(0, .ref (ad 0))] [] ((mW (vG X) ad (up (up F 0 (llS (F 0) (F 1) (F 2))) 2 (llN (F 0) (F 1) (F 2)))))
          have rm7_ : RM (llS (F 0) (F 1) (F 2)) := llS_ok ho hB1
          refine v_goto (tgt := 55) C dX8_statement_45 (by decide) ?_
          have e0 : (stS (F 0) (F 1) (F 2)) = (llS (F 0) (F 1) (F 2)) := (if_neg c6).trans ((if_neg c22).trans (if_pos c38))
          have e2 : (stN (F 0) (F 1) (F 2)) = (llN (F 0) (F 1) (F 2)) := (if_neg c6).trans ((if_neg c22).trans (if_pos c38))
          rw [e0, e2] at mrg
          exact mrg
      · skip
        have c22 := bI_n0.mp c22
        refine v_aload_n C dX8_statement_25 rfl 0 rfl ?_
        refine v_callV (na := 0) (wy := (Cond.code yX8_messageLine cX8_messageLine 6 none :: wsL_law)) (wc := (mW (vG X) ad F)) (wr := []) C [] [] (c_X8_messageLine _ _ ad F ho hB1 (NI_1 hn) (NI_4 hn)) rfl (gwV mw_394 mw_391 mw_392 mw_393 mw_5) rfl (by decide +kernel) 0 rfl rfl rfl rfl Sb.w rfl rfl dX8_statement_26 (fun r w1 hp26_8 => ?_)
        obtain ⟨rfl, rfl⟩ := hp26_8
        show V X 0 0 29 [(0, .ref (ad 0))] [] ((mW (vG X) ad (up (up F 0 (msS (F 0) (F 1) (F 2))) 2 (msN (F 0) (F 1) (F 2)))))
        have rm9_ : RM (msS (F 0) (F 1) (F 2)) := msS_ok ho hB1
        refine v_goto (tgt := 55) C dX8_statement_29 (by decide) ?_
        have e0 : (stS (F 0) (F 1) (F 2)) = (msS (F 0) (F 1) (F 2)) := (if_neg c6).trans (if_pos c22)
        have e2 : (stN (F 0) (F 1) (F 2)) = (msN (F 0) (F 1) (F 2)) := (if_neg c6).trans (if_pos c22)
        rw [e0, e2] at mrg
        exact mrg
    · skip
      have c6 := bI_n0.mp c6
      refine v_aload_n C dX8_statement_9 rfl 0 rfl ?_
      refine v_callV (na := 0) (wy := (Cond.code yX8_windowLine cX8_windowLine 2 none :: wsL_law)) (wc := (mW (vG X) ad F)) (wr := []) C [] [] (c_X8_windowLine _ _ ad F ho hB1 ) rfl (gwV mw_390 mw_387 mw_388 mw_389 mw_5) rfl (by decide +kernel) 0 rfl rfl rfl rfl Sb.w rfl rfl dX8_statement_10 (fun r w1 hp10_10 => ?_)
      obtain ⟨rfl, rfl⟩ := hp10_10
      show V X 0 0 13 [(0, .ref (ad 0))] [] ((mW (vG X) ad (up (up F 0 (wlS (F 0) (F 1))) 2 (wlN (F 0) (F 1) (F 2)))))
      have rm11_ : RM (wlS (F 0) (F 1)) := wlS_ok ho hB1
      refine v_goto (tgt := 55) C dX8_statement_13 (by decide) ?_
      have e0 : (stS (F 0) (F 1) (F 2)) = (wlS (F 0) (F 1)) := if_pos c6
      have e2 : (stN (F 0) (F 1) (F 2)) = (wlN (F 0) (F 1) (F 2)) := if_pos c6
      rw [e0, e2] at mrg
      exact mrg
  have rmS : RM (stS (F 0) (F 1) (F 2)) := stS_ok ho hB1
  refine v_aload_n C dX8_statement_55 rfl 0 rfl ?_
  refine v_aload_n C dX8_statement_56 rfl 0 rfl ?_
  refine v_get (v := vI ((stS (F 0) (F 1) (F 2)) 6)) C inw_8 0 6 rfl (by decide) (List.mem_cons_of_mem _ mw_339) rfl rfl dX8_statement_57 ?_
  refine v_iconst C dX8_statement_60 ?_
  suffices mrg : V X 0 0 69 [(0, .ref (ad 0))] [vI (bI (((stS (F 0) (F 1) (F 2)) 6) = 3)), .ref (ad 0)] ((mW (vG X) ad (up (up F 0 (stS (F 0) (F 1) (F 2))) 2 (stN (F 0) (F 1) (F 2))))) by
    refine v_icmp_ne (tgt := 68) C dX8_statement_61 (by decide) (by have := RM_b6 rmS; first | assumption | exact ⟨by omega, by omega⟩) (by decide) (fun c61 => ?_) (fun c61 => ?_)
    · skip
      refine v_iconst C dX8_statement_68 ?_
      exact V.top (bI_f (by omega)).symm mrg
    · skip
      refine v_iconst C dX8_statement_64 ?_
      refine v_goto (tgt := 69) C dX8_statement_65 (by decide) ?_
      exact V.top (bI_t (by omega)).symm mrg
  refine v_iconst C dX8_statement_69 ?_
  refine v_callV (na := 2) (wy := (Cond.code yX8_must cX8_must 3 (some .boolean) :: wsL_law)) (wc := (mW (vG X) ad (up (up F 0 (stS (F 0) (F 1) (F 2))) 2 (stN (F 0) (F 1) (F 2))))) (wr := []) C [vI (bI (((stS (F 0) (F 1) (F 2)) 6) = 3)), vI 1] [] (c_X8_must _ _ ad (up (up F 0 (stS (F 0) (F 1) (F 2))) 2 (stN (F 0) (F 1) (F 2))) (bI (((stS (F 0) (F 1) (F 2)) 6) = 3)) 1 rmS hB1 bI_01 (by decide)) rfl (gwV mw_370 mw_367 mw_368 mw_369 mw_5) rfl (by decide +kernel) 0 rfl rfl rfl rfl Sb.w rfl rfl dX8_statement_70 (fun r w1 hp70_12 => ?_)
  obtain ⟨rfl, rfl⟩ := hp70_12
  show V X 0 0 73 [(0, .ref (ad 0))] [vI (bI ((stS (F 0) (F 1) (F 2)) 8 = 0 ∧ ¬ (bI (((stS (F 0) (F 1) (F 2)) 6) = 3)) = 0))] ((mW (vG X) ad (up (up F 0 (muM (stS (F 0) (F 1) (F 2)) (bI (((stS (F 0) (F 1) (F 2)) 6) = 3)) 1)) 2 (stN (F 0) (F 1) (F 2)))))
  have rm13_ : RM (muM (stS (F 0) (F 1) (F 2)) (bI (((stS (F 0) (F 1) (F 2)) 6) = 3)) 1) := muM_ok rmS (by decide)
  refine v_if_eq (tgt := 80) C dX8_statement_73 (by decide) sm_bI (fun c73 => ?_) (fun c73 => ?_)
  · skip
    have c73 := bI_0.mp c73
    exact v_vret C E rfl dX8_statement_80 (by decide) (by decide) (⟨rfl, by rw [show (sfS (F 0) (F 1) (F 2)) = _ from if_neg c73]⟩)
  · skip
    have c73 := bI_n0.mp c73
    refine v_aload_n C dX8_statement_76 rfl 0 rfl ?_
    refine v_callV (na := 0) (wy := (Cond.code yX8_nextToken cX8_nextToken 2 none :: wsL_law)) (wc := (mW (vG X) ad (up (up F 0 (muM (stS (F 0) (F 1) (F 2)) (bI (((stS (F 0) (F 1) (F 2)) 6) = 3)) 1)) 2 (stN (F 0) (F 1) (F 2))))) (wr := []) C [] [] (c_X8_nextToken _ _ ad (up (up F 0 (muM (stS (F 0) (F 1) (F 2)) (bI (((stS (F 0) (F 1) (F 2)) 6) = 3)) 1)) 2 (stN (F 0) (F 1) (F 2))) (rm13_.one) hB1) rfl (gwV mw_354 mw_351 mw_352 mw_353 mw_5) rfl (by decide +kernel) 0 rfl rfl rfl rfl Sb.w rfl rfl dX8_statement_77 (fun r w1 hp77_14 => ?_)
    obtain ⟨rfl, rfl⟩ := hp77_14
    show V X 0 0 80 [(0, .ref (ad 0))] [] ((mW (vG X) ad (up (up F 0 (ntM (muM (stS (F 0) (F 1) (F 2)) (bI (((stS (F 0) (F 1) (F 2)) 6) = 3)) 1) (F 1))) 2 (stN (F 0) (F 1) (F 2)))))
    have rm15_ : RM (ntM (muM (stS (F 0) (F 1) (F 2)) (bI (((stS (F 0) (F 1) (F 2)) 6) = 3)) 1) (F 1)) := ntM_ok (rm13_.one) hB1
    exact v_vret C E rfl dX8_statement_80 (by decide) (by decide) (⟨rfl, by rw [show (sfS (F 0) (F 1) (F 2)) = _ from if_pos c73]⟩)
end M14
