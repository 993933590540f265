section C22
set_option maxHeartbeats 4000000 in
set_option maxRecDepth 100000 in
theorem c_X6_readStatement (G : GG) (l : Launch) (a b : Nat) (f bu : Int → Int) (ad : Nat → Nat) (F : Int → Int → Int) (K : Int → Int → Int64) (ho : RO f) (hbu : sB 1000 bu) (hF : ∀ i, sB 1000000 (F i)) : Ct G l yX6_readStatement (Cond.code yX6_readStatement cX6_readStatement 2 none :: wsL_law) 5 110 0 0 [.ref a, .ref (ad 0)] ((rdW G a b (f) (bu)) ++ (liW G ad F K)) (fun r w => r = none ∧ w = rdW G a b (rsR f bu F K) bu ++ liW G ad (rsF f bu F K) (rsK f bu F K)) := by
  refine Ct.of (own := RX6) (cc := cX6_readStatement) (maxL := 2) (ret := none) (by decide) rfl rfl (Nat.le_of_ble_eq_true rfl) (fun X C E M hG hl => ?_)
  subst hG hl
  have ho0 := ho
  obtain ⟨⟨h4a, h4b, h2b, h1b⟩, ⟨h3a, h3b⟩, h5, ⟨h6a, h6b⟩, ⟨h7a, h7b⟩, h8, h9, h0a, h0b⟩ := ho0
  refine v_aload_n C dX6_readStatement_0 rfl 0 rfl ?_
  refine v_ldcK (i := 1) (tx := "window") C rfl dX6_readStatement_1 ?_
  refine v_callV (na := 1) (wy := (Cond.code yX6_isWord cX6_isWord 3 (some .boolean) :: wsL_law)) (wc := (rdW (vG X) a b (f) (bu))) (wr := (liW (vG X) ad F K)) C [.ref ((vG X).1.2 1)] [] (c_X6_isWord _ _ a b f bu 1 sK1 ho hbu rfl) rfl (gwV mw_495 mw_492 mw_493 mw_494 mw_11) rfl (by decide +kernel) 0 rfl rfl rfl rfl Sb.rf rfl rfl dX6_readStatement_3 (fun r w1 hp3_1 => ?_)
  obtain ⟨rfl, rfl⟩ := hp3_1
  show V X 0 0 6 [(0, .ref a), (1, .ref (ad 0))] [vI (bI (isWd f bu sK1))] ((rdW (vG X) a b (f) (bu)) ++ (liW (vG X) ad F K))
  show V X 0 0 6 [(0, .ref a), (1, .ref (ad 0))] [vI (bI (isWd f bu sK1))] ((rdW (vG X) a b (f) (bu)) ++ (liW (vG X) ad F K))
  refine v_if_eq (tgt := 21) C dX6_readStatement_6 (by decide) sm_bI (fun c6 => ?_) (fun c6 => ?_)
  · skip
    have c6 := bI_0.mp c6
    refine v_aload_n C dX6_readStatement_21 rfl 0 rfl ?_
    refine v_ldcK (i := 2) (tx := "message") C rfl dX6_readStatement_22 ?_
    refine v_callV (na := 1) (wy := (Cond.code yX6_isWord cX6_isWord 3 (some .boolean) :: wsL_law)) (wc := (rdW (vG X) a b (f) (bu))) (wr := (liW (vG X) ad F K)) C [.ref ((vG X).1.2 2)] [] (c_X6_isWord _ _ a b f bu 2 sK2 ho hbu rfl) rfl (gwV mw_495 mw_492 mw_493 mw_494 mw_11) rfl (by decide +kernel) 0 rfl rfl rfl rfl Sb.rf rfl rfl dX6_readStatement_24 (fun r w1 hp24_2 => ?_)
    obtain ⟨rfl, rfl⟩ := hp24_2
    show V X 0 0 27 [(0, .ref a), (1, .ref (ad 0))] [vI (bI (isWd f bu sK2))] ((rdW (vG X) a b (f) (bu)) ++ (liW (vG X) ad F K))
    show V X 0 0 27 [(0, .ref a), (1, .ref (ad 0))] [vI (bI (isWd f bu sK2))] ((rdW (vG X) a b (f) (bu)) ++ (liW (vG X) ad F K))
    refine v_if_eq (tgt := 42) C dX6_readStatement_27 (by decide) sm_bI (fun c27 => ?_) (fun c27 => ?_)
    · skip
      have c27 := bI_0.mp c27
      refine v_aload_n C dX6_readStatement_42 rfl 0 rfl ?_
      refine v_ldcK (i := 3) (tx := "lose") C rfl dX6_readStatement_43 ?_
      refine v_callV (na := 1) (wy := (Cond.code yX6_isWord cX6_isWord 3 (some .boolean) :: wsL_law)) (wc := (rdW (vG X) a b (f) (bu))) (wr := (liW (vG X) ad F K)) C [.ref ((vG X).1.2 3)] [] (c_X6_isWord _ _ a b f bu 3 sK3 ho hbu rfl) rfl (gwV mw_495 mw_492 mw_493 mw_494 mw_11) rfl (by decide +kernel) 0 rfl rfl rfl rfl Sb.rf rfl rfl dX6_readStatement_45 (fun r w1 hp45_3 => ?_)
      obtain ⟨rfl, rfl⟩ := hp45_3
      show V X 0 0 48 [(0, .ref a), (1, .ref (ad 0))] [vI (bI (isWd f bu sK3))] ((rdW (vG X) a b (f) (bu)) ++ (liW (vG X) ad F K))
      show V X 0 0 48 [(0, .ref a), (1, .ref (ad 0))] [vI (bI (isWd f bu sK3))] ((rdW (vG X) a b (f) (bu)) ++ (liW (vG X) ad F K))
      refine v_if_eq (tgt := 81) C dX6_readStatement_48 (by decide) sm_bI (fun c48 => ?_) (fun c48 => ?_)
      · skip
        have c48 := bI_0.mp c48
        refine v_aload_n C dX6_readStatement_81 rfl 0 rfl ?_
        refine v_aload_n C dX6_readStatement_82 rfl 0 rfl ?_
        refine v_get (v := vI (f 4)) C inw_6 0 5 rfl (by decide) (List.mem_cons_of_mem _ mw_465) rfl rfl dX6_readStatement_83 ?_
        refine v_iconst C dX6_readStatement_86 ?_
        refine v_callV (na := 2) (wy := (Cond.code yX6_failAt cX6_failAt 3 none :: wsL_law)) (wc := (rdW (vG X) a b (f) (bu))) (wr := (liW (vG X) ad F K)) C [vI (f 4), vI 1] [] (c_X6_failAt _ _ a b f bu (f 4) 1 (RO_sb ho)) rfl (gwV mw_520 mw_517 mw_518 mw_519 mw_11) rfl (by decide +kernel) 0 rfl rfl rfl rfl Sb.rf rfl rfl dX6_readStatement_87 (fun r w1 hp87_4 => ?_)
        obtain ⟨rfl, rfl⟩ := hp87_4
        show V X 0 0 90 [(0, .ref a), (1, .ref (ad 0))] [] ((rdW (vG X) a b (flR f (f 4) 1) (bu)) ++ (liW (vG X) ad F K))
        show V X 0 0 90 [(0, .ref a), (1, .ref (ad 0))] [] ((rdW (vG X) a b (flR f (f 4) 1) (bu)) ++ (liW (vG X) ad F K))
        have ro5 : RO (flR f (f 4) 1) := flR_ok ho (by omega) (by omega)
        have ro5c := ro5
        obtain ⟨⟨ro54a, ro54b, ro52b, ro51b⟩, ⟨ro53a, ro53b⟩, ro55, ⟨ro56a, ro56b⟩, ⟨ro57a, ro57b⟩, ro58, ro59, ro50a, ro50b⟩ := ro5c
        exact v_vret C E rfl dX6_readStatement_90 (by decide) (by decide) (⟨rfl, by rw [show rsR f bu F K = _ from (if_neg c6).trans ((if_neg c27).trans (if_neg c48)), show rsF f bu F K = _ from (if_neg c6).trans ((if_neg c27).trans (if_neg c48)), show rsK f bu F K = _ from (if_neg c6).trans ((if_neg c27).trans (if_neg c48))]⟩)
      · skip
        have c48 := bI_n0.mp c48
        refine v_aload_n C dX6_readStatement_51 rfl 1 rfl ?_
        refine v_getN (v := vI (F 0 7)) C inw_3 2 4 rfl (by decide) nw_23 rfl rfl dX6_readStatement_52 ?_
        refine v_bipush C dX6_readStatement_55 (by decide +kernel) ?_
        suffices mrg : V X 0 0 69 [(0, .ref a), (1, .ref (ad 0))] [] ((rdW (vG X) a b (rs3 f F) (bu)) ++ (liW (vG X) ad F K)) by
          refine v_icmp_lt (tgt := 69) C dX6_readStatement_57 (by decide) (by have := hF 0 7; first | assumption | exact ⟨by omega, by omega⟩) (by decide) (fun c57 => ?_) (fun c57 => ?_)
          · skip
            have e2 : rs3 f F = f := if_pos c57
            rw [e2] at mrg
            exact mrg
          · skip
            refine v_aload_n C dX6_readStatement_60 rfl 0 rfl ?_
            refine v_aload_n C dX6_readStatement_61 rfl 0 rfl ?_
            refine v_get (v := vI (f 4)) C inw_6 0 5 rfl (by decide) (List.mem_cons_of_mem _ mw_465) rfl rfl dX6_readStatement_62 ?_
            refine v_iconst C dX6_readStatement_65 ?_
            refine v_callV (na := 2) (wy := (Cond.code yX6_failAt cX6_failAt 3 none :: wsL_law)) (wc := (rdW (vG X) a b (f) (bu))) (wr := (liW (vG X) ad F K)) C [vI (f 4), vI 4] [] (c_X6_failAt _ _ a b f bu (f 4) 4 (RO_sb ho)) rfl (gwV mw_520 mw_517 mw_518 mw_519 mw_11) rfl (by decide +kernel) 0 rfl rfl rfl rfl Sb.rf rfl rfl dX6_readStatement_66 (fun r w1 hp66_6 => ?_)
            obtain ⟨rfl, rfl⟩ := hp66_6
            show V X 0 0 69 [(0, .ref a), (1, .ref (ad 0))] [] ((rdW (vG X) a b (flR f (f 4) 4) (bu)) ++ (liW (vG X) ad F K))
            show V X 0 0 69 [(0, .ref a), (1, .ref (ad 0))] [] ((rdW (vG X) a b (flR f (f 4) 4) (bu)) ++ (liW (vG X) ad F K))
            have ro7 : RO (flR f (f 4) 4) := flR_ok ho (by omega) (by omega)
            have ro7c := ro7
            obtain ⟨⟨ro74a, ro74b, ro72b, ro71b⟩, ⟨ro73a, ro73b⟩, ro75, ⟨ro76a, ro76b⟩, ⟨ro77a, ro77b⟩, ro78, ro79, ro70a, ro70b⟩ := ro7c
            have e2 : rs3 f F = flR f (f 4) 4 := if_neg c57
            rw [e2] at mrg
            exact mrg
        have ro8 : RO (rs3 f F) := rs3_ok ho
        have ro8c := ro8
        obtain ⟨⟨ro84a, ro84b, ro82b, ro81b⟩, ⟨ro83a, ro83b⟩, ro85, ⟨ro86a, ro86b⟩, ⟨ro87a, ro87b⟩, ro88, ro89, ro80a, ro80b⟩ := ro8c
        refine v_aload_n C dX6_readStatement_69 rfl 0 rfl ?_
        refine v_callV (na := 0) (wy := (Cond.code yX6_advance cX6_advance 2 none :: wsL_law)) (wc := (rdW (vG X) a b (rs3 f F) (bu))) (wr := (liW (vG X) ad F K)) C [] [] (c_X6_advance _ _ a b (rs3 f F) bu ro8.one hbu) rfl (gwV mw_464 mw_461 mw_462 mw_463 mw_11) rfl (by decide +kernel) 0 rfl rfl rfl rfl Sb.rf rfl rfl dX6_readStatement_70 (fun r w1 hp70_9 => ?_)
        obtain ⟨rfl, rfl⟩ := hp70_9
        show V X 0 0 73 [(0, .ref a), (1, .ref (ad 0))] [] ((rdW (vG X) a b (avR (rs3 f F) bu) (bu)) ++ (liW (vG X) ad F K))
        show V X 0 0 73 [(0, .ref a), (1, .ref (ad 0))] [] ((rdW (vG X) a b (avR (rs3 f F) bu) (bu)) ++ (liW (vG X) ad F K))
        have ro10 : RO (avR (rs3 f F) bu) := avR_ok ro8.one hbu
        have ro10c := ro10
        obtain ⟨⟨ro104a, ro104b, ro102b, ro101b⟩, ⟨ro103a, ro103b⟩, ro105, ⟨ro106a, ro106b⟩, ⟨ro107a, ro107b⟩, ro108, ro109, ro100a, ro100b⟩ := ro10c
        refine v_aload_n C dX6_readStatement_73 rfl 0 rfl ?_
        refine v_aload_n C dX6_readStatement_74 rfl 1 rfl ?_
        refine v_callV (na := 1) (wy := (Cond.code yX6_readLose cX6_readLose 3 none :: wsL_law)) (wc := (rdW (vG X) a b (avR (rs3 f F) bu) (bu)) ++ (liW (vG X) ad F K)) (wr := []) C [.ref (ad 0)] [] (c_X6_readLose _ _ a b (avR (rs3 f F) bu) bu ad F K ro10 hbu ) rfl (gwV mw_550 mw_547 mw_548 mw_549 mw_11) rfl (by decide +kernel) 0 rfl rfl rfl rfl Sb.w rfl rfl dX6_readStatement_75 (fun r w1 hp75_11 => ?_)
        obtain ⟨rfl, rfl⟩ := hp75_11
        show V X 0 0 78 [(0, .ref a), (1, .ref (ad 0))] [] ((rdW (vG X) a b (rlR (avR (rs3 f F) bu) bu K) (bu)) ++ (liW (vG X) ad (rlF (avR (rs3 f F) bu) bu F K) (rlK (avR (rs3 f F) bu) bu K)))
        show V X 0 0 78 [(0, .ref a), (1, .ref (ad 0))] [] ((rdW (vG X) a b (rlR (avR (rs3 f F) bu) bu K) (bu)) ++ (liW (vG X) ad (rlF (avR (rs3 f F) bu) bu F K) (rlK (avR (rs3 f F) bu) bu K)))
        have ro12 : RO (rlR (avR (rs3 f F) bu) bu K) := rlR_ok ro10 hbu
        have ro12c := ro12
        obtain ⟨⟨ro124a, ro124b, ro122b, ro121b⟩, ⟨ro123a, ro123b⟩, ro125, ⟨ro126a, ro126b⟩, ⟨ro127a, ro127b⟩, ro128, ro129, ro120a, ro120b⟩ := ro12c
        refine v_goto (tgt := 90) C dX6_readStatement_78 (by decide) ?_
        exact v_vret C E rfl dX6_readStatement_90 (by decide) (by decide) (⟨rfl, by rw [show rsR f bu F K = _ from (if_neg c6).trans ((if_neg c27).trans (if_pos c48)), show rsF f bu F K = _ from (if_neg c6).trans ((if_neg c27).trans (if_pos c48)), show rsK f bu F K = _ from (if_neg c6).trans ((if_neg c27).trans (if_pos c48))]⟩)
    · skip
      have c27 := bI_n0.mp c27
      refine v_aload_n C dX6_readStatement_30 rfl 0 rfl ?_
      refine v_callV (na := 0) (wy := (Cond.code yX6_advance cX6_advance 2 none :: wsL_law)) (wc := (rdW (vG X) a b (f) (bu))) (wr := (liW (vG X) ad F K)) C [] [] (c_X6_advance _ _ a b f bu ho.one hbu) rfl (gwV mw_464 mw_461 mw_462 mw_463 mw_11) rfl (by decide +kernel) 0 rfl rfl rfl rfl Sb.rf rfl rfl dX6_readStatement_31 (fun r w1 hp31_13 => ?_)
      obtain ⟨rfl, rfl⟩ := hp31_13
      show V X 0 0 34 [(0, .ref a), (1, .ref (ad 0))] [] ((rdW (vG X) a b (avR f bu) (bu)) ++ (liW (vG X) ad F K))
      show V X 0 0 34 [(0, .ref a), (1, .ref (ad 0))] [] ((rdW (vG X) a b (avR f bu) (bu)) ++ (liW (vG X) ad F K))
      have ro14 : RO (avR f bu) := avR_ok ho.one hbu
      have ro14c := ro14
      obtain ⟨⟨ro144a, ro144b, ro142b, ro141b⟩, ⟨ro143a, ro143b⟩, ro145, ⟨ro146a, ro146b⟩, ⟨ro147a, ro147b⟩, ro148, ro149, ro140a, ro140b⟩ := ro14c
      refine v_aload_n C dX6_readStatement_34 rfl 0 rfl ?_
      refine v_aload_n C dX6_readStatement_35 rfl 1 rfl ?_
      refine v_callV (na := 1) (wy := (Cond.code yX6_readMessage cX6_readMessage 6 none :: wsL_law)) (wc := (rdW (vG X) a b (avR f bu) (bu)) ++ (liW (vG X) ad F K)) (wr := []) C [.ref (ad 0)] [] (c_X6_readMessage _ _ a b (avR f bu) bu ad F K ro14 hbu hF) rfl (gwV mw_542 mw_539 mw_540 mw_541 mw_11) rfl (by decide +kernel) 0 rfl rfl rfl rfl Sb.w rfl rfl dX6_readStatement_36 (fun r w1 hp36_15 => ?_)
      obtain ⟨rfl, rfl⟩ := hp36_15
      show V X 0 0 39 [(0, .ref a), (1, .ref (ad 0))] [] ((rdW (vG X) a b (rmR (avR f bu) bu F) (bu)) ++ (liW (vG X) ad (rmF (avR f bu) bu F) (rmK (avR f bu) bu F K)))
      show V X 0 0 39 [(0, .ref a), (1, .ref (ad 0))] [] ((rdW (vG X) a b (rmR (avR f bu) bu F) (bu)) ++ (liW (vG X) ad (rmF (avR f bu) bu F) (rmK (avR f bu) bu F K)))
      have ro16 : RO (rmR (avR f bu) bu F) := rmR_ok ro14 hbu
      have ro16c := ro16
      obtain ⟨⟨ro164a, ro164b, ro162b, ro161b⟩, ⟨ro163a, ro163b⟩, ro165, ⟨ro166a, ro166b⟩, ⟨ro167a, ro167b⟩, ro168, ro169, ro160a, ro160b⟩ := ro16c
      refine v_goto (tgt := 90) C dX6_readStatement_39 (by decide) ?_
      exact v_vret C E rfl dX6_readStatement_90 (by decide) (by decide) (⟨rfl, by rw [show rsR f bu F K = _ from (if_neg c6).trans (if_pos c27), show rsF f bu F K = _ from (if_neg c6).trans (if_pos c27), show rsK f bu F K = _ from (if_neg c6).trans (if_pos c27)]⟩)
  · skip
    have c6 := bI_n0.mp c6
    refine v_aload_n C dX6_readStatement_9 rfl 0 rfl ?_
    refine v_callV (na := 0) (wy := (Cond.code yX6_advance cX6_advance 2 none :: wsL_law)) (wc := (rdW (vG X) a b (f) (bu))) (wr := (liW (vG X) ad F K)) C [] [] (c_X6_advance _ _ a b f bu ho.one hbu) rfl (gwV mw_464 mw_461 mw_462 mw_463 mw_11) rfl (by decide +kernel) 0 rfl rfl rfl rfl Sb.rf rfl rfl dX6_readStatement_10 (fun r w1 hp10_17 => ?_)
    obtain ⟨rfl, rfl⟩ := hp10_17
    show V X 0 0 13 [(0, .ref a), (1, .ref (ad 0))] [] ((rdW (vG X) a b (avR f bu) (bu)) ++ (liW (vG X) ad F K))
    show V X 0 0 13 [(0, .ref a), (1, .ref (ad 0))] [] ((rdW (vG X) a b (avR f bu) (bu)) ++ (liW (vG X) ad F K))
    have ro18 : RO (avR f bu) := avR_ok ho.one hbu
    have ro18c := ro18
    obtain ⟨⟨ro184a, ro184b, ro182b, ro181b⟩, ⟨ro183a, ro183b⟩, ro185, ⟨ro186a, ro186b⟩, ⟨ro187a, ro187b⟩, ro188, ro189, ro180a, ro180b⟩ := ro18c
    refine v_aload_n C dX6_readStatement_13 rfl 0 rfl ?_
    refine v_aload_n C dX6_readStatement_14 rfl 1 rfl ?_
    refine v_callV (na := 1) (wy := (Cond.code yX6_readWindow cX6_readWindow 3 none :: wsL_law)) (wc := (rdW (vG X) a b (avR f bu) (bu)) ++ (liW (vG X) ad F K)) (wr := []) C [.ref (ad 0)] [] (c_X6_readWindow _ _ a b (avR f bu) bu ad F K ro18 hbu ) rfl (gwV mw_537 mw_534 mw_535 mw_536 mw_11) rfl (by decide +kernel) 0 rfl rfl rfl rfl Sb.w rfl rfl dX6_readStatement_15 (fun r w1 hp15_19 => ?_)
    obtain ⟨rfl, rfl⟩ := hp15_19
    show V X 0 0 18 [(0, .ref a), (1, .ref (ad 0))] [] ((rdW (vG X) a b (rwR (avR f bu) bu) (bu)) ++ (liW (vG X) ad (rwF (avR f bu) bu F) K))
    show V X 0 0 18 [(0, .ref a), (1, .ref (ad 0))] [] ((rdW (vG X) a b (rwR (avR f bu) bu) (bu)) ++ (liW (vG X) ad (rwF (avR f bu) bu F) K))
    have ro20 : RO (rwR (avR f bu) bu) := rwR_ok ro18 hbu
    have ro20c := ro20
    obtain ⟨⟨ro204a, ro204b, ro202b, ro201b⟩, ⟨ro203a, ro203b⟩, ro205, ⟨ro206a, ro206b⟩, ⟨ro207a, ro207b⟩, ro208, ro209, ro200a, ro200b⟩ := ro20c
    refine v_goto (tgt := 90) C dX6_readStatement_18 (by decide) ?_
    exact v_vret C E rfl dX6_readStatement_90 (by decide) (by decide) (⟨rfl, by rw [show rsR f bu F K = _ from if_pos c6, show rsF f bu F K = _ from if_pos c6, show rsK f bu F K = _ from if_pos c6]⟩)
set_option maxHeartbeats 4000000 in
set_option maxRecDepth 100000 in
theorem c_X6_readText (G : GG) (l : Launch) (a b : Nat) (f bu : Int → Int) (ad : Nat → Nat) (F : Int → Int → Int) (K : Int → Int → Int64) (ln : Int) (ho : RO f) (hbu : sB 1000 bu) (hln : 0 ≤ ln ∧ ln ≤ 700) (hF : ∀ i, sB 2000 (F i)) : Ct G l yX6_readText (Cond.code yX6_readText cX6_readText 4 (some .int) :: wsL_law) 6 131 0 0 [.ref a, vI ln, .ref (ad 0)] ((rdW G a b (f) (bu)) ++ (liW G ad F K)) (fun r w => r = some (vI ((itT bu (hdT f bu ln F K) (itN bu (hdT f bu ln F K))).1 7)) ∧ w = rdW G a b (itT bu (hdT f bu ln F K) (itN bu (hdT f bu ln F K))).1 bu ++ liW G ad (up (up (itT bu (hdT f bu ln F K) (itN bu (hdT f bu ln F K))).2.1 1 (up ((itT bu (hdT f bu ln F K) (itN bu (hdT f bu ln F K))).2.1 1) 7 ((itT bu (hdT f bu ln F K) (itN bu (hdT f bu ln F K))).2.1 2 3))) 2 (up ((itT bu (hdT f bu ln F K) (itN bu (hdT f bu ln F K))).2.1 2) 7 ((itT bu (hdT f bu ln F K) (itN bu (hdT f bu ln F K))).2.1 1 3))) (itT bu (hdT f bu ln F K) (itN bu (hdT f bu ln F K))).2.2) := by
  refine Ct.of (own := RX6) (cc := cX6_readText) (maxL := 4) (ret := (some .int)) (by decide) rfl rfl (Nat.le_of_ble_eq_true rfl) (fun X C E M hG hl => ?_)
  subst hG hl
  refine v_aload_n C dX6_readText_0 rfl 0 rfl ?_
  refine v_iload_n C dX6_readText_1 rfl 1 rfl ?_
  refine v_put C inw_6 tyX6 tyX6_ok nmX6 0 2 rfl (by decide) (List.mem_cons_of_mem _ mw_455) rfl rfl rfl rfl (Nat.le_of_ble_eq_true rfl) dX6_readText_2 (ws' := (rdW (vG X) a b (up (f) 1 ln) (bu)) ++ (liW (vG X) ad F K)) rfl ?_
  refine v_aload_n C dX6_readText_5 rfl 0 rfl ?_
  refine v_iconst C dX6_readText_6 ?_
  refine v_put C inw_6 tyX6 tyX6_ok nmX6 0 3 rfl (by decide) (List.mem_cons_of_mem _ mw_456) rfl rfl rfl rfl (Nat.le_of_ble_eq_true rfl) dX6_readText_7 (ws' := (rdW (vG X) a b (up (up (f) 1 ln) 2 0) (bu)) ++ (liW (vG X) ad F K)) rfl ?_
  refine v_aload_n C dX6_readText_10 rfl 0 rfl ?_
  refine v_iconst C dX6_readText_11 ?_
  refine v_put C inw_6 tyX6 tyX6_ok nmX6 0 8 rfl (by decide) (List.mem_cons_of_mem _ mw_457) rfl rfl rfl rfl (Nat.le_of_ble_eq_true rfl) dX6_readText_12 (ws' := (rdW (vG X) a b (up (up (up (f) 1 ln) 2 0) 7 0) (bu)) ++ (liW (vG X) ad F K)) rfl ?_
  refine v_aload_n C dX6_readText_15 rfl 0 rfl ?_
  refine v_iconst C dX6_readText_16 ?_
  refine v_put C inw_6 tyX6 tyX6_ok nmX6 0 9 rfl (by decide) (List.mem_cons_of_mem _ mw_458) rfl rfl rfl rfl (Nat.le_of_ble_eq_true rfl) dX6_readText_17 (ws' := (rdW (vG X) a b (up (up (up (up (f) 1 ln) 2 0) 7 0) 8 0) (bu)) ++ (liW (vG X) ad F K)) rfl ?_
  refine v_aload_n C dX6_readText_20 rfl 0 rfl ?_
  refine v_iconst C dX6_readText_21 ?_
  refine v_put C inw_6 tyX6 tyX6_ok nmX6 0 10 rfl (by decide) (List.mem_cons_of_mem _ mw_459) rfl rfl rfl rfl (Nat.le_of_ble_eq_true rfl) dX6_readText_22 (ws' := (rdW (vG X) a b (up (up (up (up (up (f) 1 ln) 2 0) 7 0) 8 0) 9 0) (bu)) ++ (liW (vG X) ad F K)) rfl ?_
  refine v_aload_n C dX6_readText_25 rfl 0 rfl ?_
  have e0 : hdR f ln = (up (up (up (up (up (f) 1 ln) 2 0) 7 0) 8 0) 9 0) := rfl
  rw [← e0]
  show V X 0 0 26 [(0, .ref a), (1, vI ln), (2, .ref (ad 0))] [.ref a] ((rdW (vG X) a b (hdR f ln) (bu)) ++ (liW (vG X) ad F K))
  have ho0 : RO1 (hdR f ln) := hdR_ok ho hln
  refine v_callV (na := 0) (wy := (Cond.code yX6_advance cX6_advance 2 none :: wsL_law)) (wc := (rdW (vG X) a b (hdR f ln) (bu))) (wr := (liW (vG X) ad F K)) C [] [] (c_X6_advance _ _ a b (hdR f ln) bu ho0 hbu) rfl (gwV mw_464 mw_461 mw_462 mw_463 mw_11) rfl (by decide +kernel) 0 rfl rfl rfl rfl Sb.rf rfl rfl dX6_readText_26 (fun r w1 hp26_1 => ?_)
  obtain ⟨rfl, rfl⟩ := hp26_1
  show V X 0 0 29 [(0, .ref a), (1, vI ln), (2, .ref (ad 0))] [] ((rdW (vG X) a b (avR (hdR f ln) bu) (bu)) ++ (liW (vG X) ad F K))
  show V X 0 0 29 [(0, .ref a), (1, vI ln), (2, .ref (ad 0))] [] ((rdW (vG X) a b (avR (hdR f ln) bu) (bu)) ++ (liW (vG X) ad F K))
  have ro2 : RO (avR (hdR f ln) bu) := avR_ok ho0 hbu
  have ro2c := ro2
  obtain ⟨⟨ro24a, ro24b, ro22b, ro21b⟩, ⟨ro23a, ro23b⟩, ro25, ⟨ro26a, ro26b⟩, ⟨ro27a, ro27b⟩, ro28, ro29, ro20a, ro20b⟩ := ro2c
  refine v_aload_n C dX6_readText_29 rfl 0 rfl ?_
  refine v_ldcK (i := 0) (tx := "line") C rfl dX6_readText_30 ?_
  refine v_callV (na := 1) (wy := (Cond.code yX6_takeWord cX6_takeWord 2 none :: wsL_law)) (wc := (rdW (vG X) a b (avR (hdR f ln) bu) (bu))) (wr := (liW (vG X) ad F K)) C [.ref ((vG X).1.2 0)] [] (c_X6_takeWord _ _ a b (avR (hdR f ln) bu) bu 0 sK0 ro2 hbu rfl) rfl (gwV mw_491 mw_488 mw_489 mw_490 mw_11) rfl (by decide +kernel) 0 rfl rfl rfl rfl Sb.rf rfl rfl dX6_readText_32 (fun r w1 hp32_3 => ?_)
  obtain ⟨rfl, rfl⟩ := hp32_3
  show V X 0 0 35 [(0, .ref a), (1, vI ln), (2, .ref (ad 0))] [] ((rdW (vG X) a b (twR (avR (hdR f ln) bu) bu sK0) (bu)) ++ (liW (vG X) ad F K))
  show V X 0 0 35 [(0, .ref a), (1, vI ln), (2, .ref (ad 0))] [] ((rdW (vG X) a b (twR (avR (hdR f ln) bu) bu sK0) (bu)) ++ (liW (vG X) ad F K))
  have ro4 : RO (twR (avR (hdR f ln) bu) bu sK0) := twR_ok ro2 hbu
  have ro4c := ro4
  obtain ⟨⟨ro44a, ro44b, ro42b, ro41b⟩, ⟨ro43a, ro43b⟩, ro45, ⟨ro46a, ro46b⟩, ⟨ro47a, ro47b⟩, ro48, ro49, ro40a, ro40b⟩ := ro4c
  refine v_aload_n C dX6_readText_35 rfl 2 rfl ?_
  refine v_aload_n C dX6_readText_36 rfl 0 rfl ?_
  refine v_iconst C dX6_readText_37 ?_
  refine v_bipush C dX6_readText_38 (by decide +kernel) ?_
  refine v_callV (na := 2) (wy := (Cond.code yX6_takeNumber cX6_takeNumber 4 (some .int) :: wsL_law)) (wc := (rdW (vG X) a b (twR (avR (hdR f ln) bu) bu sK0) (bu))) (wr := (liW (vG X) ad F K)) C [vI 1, vI 7] [.ref (ad 0)] (c_X6_takeNumber _ _ a b (twR (avR (hdR f ln) bu) bu sK0) bu 1 7 ro4 hbu (by decide)) rfl (gwV mw_524 mw_521 mw_522 mw_523 mw_11) rfl (by decide +kernel) 0 rfl rfl rfl rfl Sb.rf rfl rfl dX6_readText_40 (fun r w1 hp40_5 => ?_)
  obtain ⟨rfl, rfl⟩ := hp40_5
  show V X 0 0 43 [(0, .ref a), (1, vI ln), (2, .ref (ad 0))] [vI (tnV (twR (avR (hdR f ln) bu) bu sK0) 1 7), .ref (ad 0)] ((rdW (vG X) a b (tnR (twR (avR (hdR f ln) bu) bu sK0) bu 1 7) (bu)) ++ (liW (vG X) ad F K))
  show V X 0 0 43 [(0, .ref a), (1, vI ln), (2, .ref (ad 0))] [vI (tnV (twR (avR (hdR f ln) bu) bu sK0) 1 7), .ref (ad 0)] ((rdW (vG X) a b (tnR (twR (avR (hdR f ln) bu) bu sK0) bu 1 7) (bu)) ++ (liW (vG X) ad F K))
  have ro6 : RO (tnR (twR (avR (hdR f ln) bu) bu sK0) bu 1 7) := tnR_ok ro4 hbu (by decide)
  have ro6c := ro6
  obtain ⟨⟨ro64a, ro64b, ro62b, ro61b⟩, ⟨ro63a, ro63b⟩, ro65, ⟨ro66a, ro66b⟩, ⟨ro67a, ro67b⟩, ro68, ro69, ro60a, ro60b⟩ := ro6c
  obtain ⟨va7, vb7⟩ := tnV_in (f := (twR (avR (hdR f ln) bu) bu sK0)) (p := 1) (q := 7) ro4 (by decide)
  refine v_putN C inw_3 tyX3 tyX3_ok nmX3 2 5 rfl (by decide) nw_24 rfl rfl rfl rfl (Nat.le_of_ble_eq_true rfl) dX6_readText_43 (ws' := (rdW (vG X) a b (tnR (twR (avR (hdR f ln) bu) bu sK0) bu 1 7) (bu)) ++ (liW (vG X) ad (up F 0 (up (F 0) 4 (tnV (twR (avR (hdR f ln) bu) bu sK0) 1 7))) K)) rfl ?_
  refine v_aload_n C dX6_readText_46 rfl 2 rfl ?_
  refine v_aload_n C dX6_readText_47 rfl 0 rfl ?_
  refine v_iconst C dX6_readText_48 ?_
  refine v_bipush C dX6_readText_49 (by decide +kernel) ?_
  refine v_callV (na := 2) (wy := (Cond.code yX6_takeNumber cX6_takeNumber 4 (some .int) :: wsL_law)) (wc := (rdW (vG X) a b (tnR (twR (avR (hdR f ln) bu) bu sK0) bu 1 7) (bu))) (wr := (liW (vG X) ad (up F 0 (up (F 0) 4 (tnV (twR (avR (hdR f ln) bu) bu sK0) 1 7))) K)) C [vI 1, vI 99] [.ref (ad 0)] (c_X6_takeNumber _ _ a b (tnR (twR (avR (hdR f ln) bu) bu sK0) bu 1 7) bu 1 99 ro6 hbu (by decide)) rfl (gwV mw_524 mw_521 mw_522 mw_523 mw_11) rfl (by decide +kernel) 0 rfl rfl rfl rfl Sb.rf rfl rfl dX6_readText_51 (fun r w1 hp51_8 => ?_)
  obtain ⟨rfl, rfl⟩ := hp51_8
  show V X 0 0 54 [(0, .ref a), (1, vI ln), (2, .ref (ad 0))] [vI (tnV (tnR (twR (avR (hdR f ln) bu) bu sK0) bu 1 7) 1 99), .ref (ad 0)] ((rdW (vG X) a b (tnR (tnR (twR (avR (hdR f ln) bu) bu sK0) bu 1 7) bu 1 99) (bu)) ++ (liW (vG X) ad (up F 0 (up (F 0) 4 (tnV (twR (avR (hdR f ln) bu) bu sK0) 1 7))) K))
  show V X 0 0 54 [(0, .ref a), (1, vI ln), (2, .ref (ad 0))] [vI (tnV (tnR (twR (avR (hdR f ln) bu) bu sK0) bu 1 7) 1 99), .ref (ad 0)] ((rdW (vG X) a b (tnR (tnR (twR (avR (hdR f ln) bu) bu sK0) bu 1 7) bu 1 99) (bu)) ++ (liW (vG X) ad (up F 0 (up (F 0) 4 (tnV (twR (avR (hdR f ln) bu) bu sK0) 1 7))) K))
  have ro9 : RO (tnR (tnR (twR (avR (hdR f ln) bu) bu sK0) bu 1 7) bu 1 99) := tnR_ok ro6 hbu (by decide)
  have ro9c := ro9
  obtain ⟨⟨ro94a, ro94b, ro92b, ro91b⟩, ⟨ro93a, ro93b⟩, ro95, ⟨ro96a, ro96b⟩, ⟨ro97a, ro97b⟩, ro98, ro99, ro90a, ro90b⟩ := ro9c
  obtain ⟨va10, vb10⟩ := tnV_in (f := (tnR (twR (avR (hdR f ln) bu) bu sK0) bu 1 7)) (p := 1) (q := 99) ro6 (by decide)
  refine v_putN C inw_3 tyX3 tyX3_ok nmX3 2 6 rfl (by decide) nw_26 rfl rfl rfl rfl (Nat.le_of_ble_eq_true rfl) dX6_readText_54 (ws' := (rdW (vG X) a b (tnR (tnR (twR (avR (hdR f ln) bu) bu sK0) bu 1 7) bu 1 99) (bu)) ++ (liW (vG X) ad (up F 0 (up (up (F 0) 4 (tnV (twR (avR (hdR f ln) bu) bu sK0) 1 7)) 5 (tnV (tnR (twR (avR (hdR f ln) bu) bu sK0) bu 1 7) 1 99))) K)) rfl ?_
  refine v_aload_n C dX6_readText_57 rfl 0 rfl ?_
  refine v_callV (na := 0) (wy := (Cond.code yX6_takeSemicolon cX6_takeSemicolon 1 none :: wsL_law)) (wc := (rdW (vG X) a b (tnR (tnR (twR (avR (hdR f ln) bu) bu sK0) bu 1 7) bu 1 99) (bu))) (wr := (liW (vG X) ad (up F 0 (up (up (F 0) 4 (tnV (twR (avR (hdR f ln) bu) bu sK0) 1 7)) 5 (tnV (tnR (twR (avR (hdR f ln) bu) bu sK0) bu 1 7) 1 99))) K)) C [] [] (c_X6_takeSemicolon _ _ a b (tnR (tnR (twR (avR (hdR f ln) bu) bu sK0) bu 1 7) bu 1 99) bu ro9 hbu) rfl (gwV mw_529 mw_526 mw_527 mw_528 mw_11) rfl (by decide +kernel) 0 rfl rfl rfl rfl Sb.rf rfl rfl dX6_readText_58 (fun r w1 hp58_11 => ?_)
  obtain ⟨rfl, rfl⟩ := hp58_11
  show V X 0 0 61 [(0, .ref a), (1, vI ln), (2, .ref (ad 0))] [] ((rdW (vG X) a b (tsR (tnR (tnR (twR (avR (hdR f ln) bu) bu sK0) bu 1 7) bu 1 99) bu) (bu)) ++ (liW (vG X) ad (up F 0 (up (up (F 0) 4 (tnV (twR (avR (hdR f ln) bu) bu sK0) 1 7)) 5 (tnV (tnR (twR (avR (hdR f ln) bu) bu sK0) bu 1 7) 1 99))) K))
  show V X 0 0 61 [(0, .ref a), (1, vI ln), (2, .ref (ad 0))] [] ((rdW (vG X) a b (tsR (tnR (tnR (twR (avR (hdR f ln) bu) bu sK0) bu 1 7) bu 1 99) bu) (bu)) ++ (liW (vG X) ad (up F 0 (up (up (F 0) 4 (tnV (twR (avR (hdR f ln) bu) bu sK0) 1 7)) 5 (tnV (tnR (twR (avR (hdR f ln) bu) bu sK0) bu 1 7) 1 99))) K))
  have ro12 : RO (tsR (tnR (tnR (twR (avR (hdR f ln) bu) bu sK0) bu 1 7) bu 1 99) bu) := tsR_ok ro9 hbu
  have ro12c := ro12
  obtain ⟨⟨ro124a, ro124b, ro122b, ro121b⟩, ⟨ro123a, ro123b⟩, ro125, ⟨ro126a, ro126b⟩, ⟨ro127a, ro127b⟩, ro128, ro129, ro120a, ro120b⟩ := ro12c
  refine v_iconst C dX6_readText_61 ?_
  refine v_istore_n C M dX6_readText_62 rfl (by decide) (L' := [(3, vI 0), (0, .ref a), (1, vI ln), (2, .ref (ad 0))]) rfl ?_
  have er1 : (hdT f bu ln F K).1 = (tsR (tnR (tnR (twR (avR (hdR f ln) bu) bu sK0) bu 1 7) bu 1 99) bu) := rfl
  have er2 : (hdT f bu ln F K).2.1 = (up F 0 (up (up (F 0) 4 (tnV (twR (avR (hdR f ln) bu) bu sK0) 1 7)) 5 (tnV (tnR (twR (avR (hdR f ln) bu) bu sK0) bu 1 7) 1 99))) := rfl
  have er3 : (hdT f bu ln F K).2.2 = K := rfl
  have hro0 : RO (hdT f bu ln F K).1 := by rw [er1]; exact ro12
  have hF0 : ∀ i, sB 2000 ((hdT f bu ln F K).2.1 i) := hdT_B ho hbu hln hF
  rw [← er1, ← er2]
  show V X 0 0 63 [(3, vI 0), (0, .ref a), (1, vI ln), (2, .ref (ad 0))] [] ((rdW (vG X) a b ((hdT f bu ln F K).1) (bu)) ++ (liW (vG X) ad ((hdT f bu ln F K).2.1) K))
  show V X 0 0 63 [(3, vI 0), (0, .ref a), (1, vI ln), (2, .ref (ad 0))] [] ((rdW (vG X) a b ((hdT f bu ln F K).1) (bu)) ++ (liW (vG X) ad ((hdT f bu ln F K).2.1) ((hdT f bu ln F K).2.2)))
  refine V.loc (L' := [(0, .ref a), (1, vI ln), (2, .ref (ad 0)), (3, vI 0)]) [1, 2, 3, 0] rfl ?_
  have lp : ∀ (n : Nat) (n0 : Nat) (hn0 : n0 ≤ 700) (hno : ∀ j : Nat, j < n0 → ¬ (fun n : Nat => ¬ (n < 700 ∧ (itT bu (hdT f bu ln F K) n).1 7 = 0 ∧ ¬ (itT bu (hdT f bu ln F K) n).1 3 = 0)) j) (hm : 700 - (n0 : Int) < (n : Int)), V X 0 0 63 [(0, .ref a), (1, vI ln), (2, .ref (ad 0)), (3, vI (n0 : Int))] [] ((rdW (vG X) a b ((itT bu (hdT f bu ln F K) n0).1) (bu)) ++ (liW (vG X) ad ((itT bu (hdT f bu ln F K) n0).2.1) ((itT bu (hdT f bu ln F K) n0).2.2))) := by
    intro n
    induction n with
    | zero => intro n0 hn0 hno hm; exact absurd hm (by omega)
    | succ n ih =>
      intro n0 hn0 hno hm
      obtain ⟨hroI, hFI⟩ := itT_ok hbu hro0 hF0 n0
      have hro2 := hroI
      obtain ⟨⟨q4a, q4b, q2b, q1b⟩, ⟨q3a, q3b⟩, q5, ⟨q6a, q6b⟩, ⟨q7a, q7b⟩, q8, q9, q0a, q0b⟩ := hro2
      refine v_iload_n C dX6_readText_63 rfl 3 rfl ?_
      refine v_sipush C dX6_readText_64 (by decide +kernel) ?_
      refine v_icmp_ge (tgt := 99) C dX6_readText_67 (by decide) (by  first | assumption | exact ⟨by omega, by omega⟩) (by decide) (fun c67 => ?_) (fun c67 => ?_)
      · skip
        have en : n0 = itN bu (hdT f bu ln F K) := skN_u _ _ hno (by omega) (Or.inl (fun h => by omega))
        refine v_aload_n C dX6_readText_99 rfl 2 rfl ?_
        refine v_getN (v := .ref (ad 1)) C inw_3 2 0 rfl (by decide) nw_18 rfl rfl dX6_readText_100 ?_
        refine v_aload_n C dX6_readText_103 rfl 2 rfl ?_
        refine v_getN (v := .ref (ad 4)) C inw_3 2 1 rfl (by decide) nw_20 rfl rfl dX6_readText_104 ?_
        refine v_getN (v := vI (((itT bu (hdT f bu ln F K) n0).2.1) 2 3)) C inw_5 6 5 rfl (by decide) nw_7 rfl rfl dX6_readText_107 ?_
        refine v_putN C inw_5 tyX5 tyX5_ok nmX5 3 10 rfl (by decide) nw_12 rfl rfl rfl rfl (Nat.le_of_ble_eq_true rfl) dX6_readText_110 (ws' := (rdW (vG X) a b ((itT bu (hdT f bu ln F K) n0).1) (bu)) ++ (liW (vG X) ad (up ((itT bu (hdT f bu ln F K) n0).2.1) 1 (up (((itT bu (hdT f bu ln F K) n0).2.1) 1) 7 (((itT bu (hdT f bu ln F K) n0).2.1) 2 3))) ((itT bu (hdT f bu ln F K) n0).2.2))) rfl ?_
        refine v_aload_n C dX6_readText_113 rfl 2 rfl ?_
        refine v_getN (v := .ref (ad 4)) C inw_3 2 1 rfl (by decide) nw_20 rfl rfl dX6_readText_114 ?_
        refine v_aload_n C dX6_readText_117 rfl 2 rfl ?_
        refine v_getN (v := .ref (ad 1)) C inw_3 2 0 rfl (by decide) nw_18 rfl rfl dX6_readText_118 ?_
        refine v_getN (v := vI (((itT bu (hdT f bu ln F K) n0).2.1) 1 3)) C inw_5 3 5 rfl (by decide) nw_7 rfl rfl dX6_readText_121 ?_
        refine v_putN C inw_5 tyX5 tyX5_ok nmX5 6 10 rfl (by decide) nw_12 rfl rfl rfl rfl (Nat.le_of_ble_eq_true rfl) dX6_readText_124 (ws' := (rdW (vG X) a b ((itT bu (hdT f bu ln F K) n0).1) (bu)) ++ (liW (vG X) ad (up (up ((itT bu (hdT f bu ln F K) n0).2.1) 1 (up (((itT bu (hdT f bu ln F K) n0).2.1) 1) 7 (((itT bu (hdT f bu ln F K) n0).2.1) 2 3))) 2 (up (((itT bu (hdT f bu ln F K) n0).2.1) 2) 7 (((itT bu (hdT f bu ln F K) n0).2.1) 1 3))) ((itT bu (hdT f bu ln F K) n0).2.2))) rfl ?_
        refine v_aload_n C dX6_readText_127 rfl 0 rfl ?_
        refine v_get (v := vI (((itT bu (hdT f bu ln F K) n0).1) 7)) C inw_6 0 8 rfl (by decide) (List.mem_cons_of_mem _ mw_457) rfl rfl dX6_readText_128 ?_
        exact v_iret C E rfl dX6_readText_131 (by decide) (by decide) (⟨by rw [en], by rw [en]⟩)
      · skip
        refine v_aload_n C dX6_readText_70 rfl 0 rfl ?_
        refine v_get (v := vI (((itT bu (hdT f bu ln F K) n0).1) 7)) C inw_6 0 8 rfl (by decide) (List.mem_cons_of_mem _ mw_457) rfl rfl dX6_readText_71 ?_
        refine v_if_ne (tgt := 99) C dX6_readText_74 (by decide) (by  first | assumption | exact ⟨by omega, by omega⟩) (fun c74 => ?_) (fun c74 => ?_)
        · skip
          have en : n0 = itN bu (hdT f bu ln F K) := skN_u _ _ hno (by omega) (Or.inl (fun h => c74 h.2.1))
          refine v_aload_n C dX6_readText_99 rfl 2 rfl ?_
          refine v_getN (v := .ref (ad 1)) C inw_3 2 0 rfl (by decide) nw_18 rfl rfl dX6_readText_100 ?_
          refine v_aload_n C dX6_readText_103 rfl 2 rfl ?_
          refine v_getN (v := .ref (ad 4)) C inw_3 2 1 rfl (by decide) nw_20 rfl rfl dX6_readText_104 ?_
          refine v_getN (v := vI (((itT bu (hdT f bu ln F K) n0).2.1) 2 3)) C inw_5 6 5 rfl (by decide) nw_7 rfl rfl dX6_readText_107 ?_
          refine v_putN C inw_5 tyX5 tyX5_ok nmX5 3 10 rfl (by decide) nw_12 rfl rfl rfl rfl (Nat.le_of_ble_eq_true rfl) dX6_readText_110 (ws' := (rdW (vG X) a b ((itT bu (hdT f bu ln F K) n0).1) (bu)) ++ (liW (vG X) ad (up ((itT bu (hdT f bu ln F K) n0).2.1) 1 (up (((itT bu (hdT f bu ln F K) n0).2.1) 1) 7 (((itT bu (hdT f bu ln F K) n0).2.1) 2 3))) ((itT bu (hdT f bu ln F K) n0).2.2))) rfl ?_
          refine v_aload_n C dX6_readText_113 rfl 2 rfl ?_
          refine v_getN (v := .ref (ad 4)) C inw_3 2 1 rfl (by decide) nw_20 rfl rfl dX6_readText_114 ?_
          refine v_aload_n C dX6_readText_117 rfl 2 rfl ?_
          refine v_getN (v := .ref (ad 1)) C inw_3 2 0 rfl (by decide) nw_18 rfl rfl dX6_readText_118 ?_
          refine v_getN (v := vI (((itT bu (hdT f bu ln F K) n0).2.1) 1 3)) C inw_5 3 5 rfl (by decide) nw_7 rfl rfl dX6_readText_121 ?_
          refine v_putN C inw_5 tyX5 tyX5_ok nmX5 6 10 rfl (by decide) nw_12 rfl rfl rfl rfl (Nat.le_of_ble_eq_true rfl) dX6_readText_124 (ws' := (rdW (vG X) a b ((itT bu (hdT f bu ln F K) n0).1) (bu)) ++ (liW (vG X) ad (up (up ((itT bu (hdT f bu ln F K) n0).2.1) 1 (up (((itT bu (hdT f bu ln F K) n0).2.1) 1) 7 (((itT bu (hdT f bu ln F K) n0).2.1) 2 3))) 2 (up (((itT bu (hdT f bu ln F K) n0).2.1) 2) 7 (((itT bu (hdT f bu ln F K) n0).2.1) 1 3))) ((itT bu (hdT f bu ln F K) n0).2.2))) rfl ?_
          refine v_aload_n C dX6_readText_127 rfl 0 rfl ?_
          refine v_get (v := vI (((itT bu (hdT f bu ln F K) n0).1) 7)) C inw_6 0 8 rfl (by decide) (List.mem_cons_of_mem _ mw_457) rfl rfl dX6_readText_128 ?_
          exact v_iret C E rfl dX6_readText_131 (by decide) (by decide) (⟨by rw [en], by rw [en]⟩)
        · skip
          refine v_aload_n C dX6_readText_77 rfl 0 rfl ?_
          refine v_get (v := vI (((itT bu (hdT f bu ln F K) n0).1) 3)) C inw_6 0 4 rfl (by decide) (List.mem_cons_of_mem _ mw_460) rfl rfl dX6_readText_78 ?_
          refine v_if_eq (tgt := 99) C dX6_readText_81 (by decide) (by  first | assumption | exact ⟨by omega, by omega⟩) (fun c81 => ?_) (fun c81 => ?_)
          · skip
            have en : n0 = itN bu (hdT f bu ln F K) := skN_u _ _ hno (by omega) (Or.inl (fun h => h.2.2 c81))
            refine v_aload_n C dX6_readText_99 rfl 2 rfl ?_
            refine v_getN (v := .ref (ad 1)) C inw_3 2 0 rfl (by decide) nw_18 rfl rfl dX6_readText_100 ?_
            refine v_aload_n C dX6_readText_103 rfl 2 rfl ?_
            refine v_getN (v := .ref (ad 4)) C inw_3 2 1 rfl (by decide) nw_20 rfl rfl dX6_readText_104 ?_
            refine v_getN (v := vI (((itT bu (hdT f bu ln F K) n0).2.1) 2 3)) C inw_5 6 5 rfl (by decide) nw_7 rfl rfl dX6_readText_107 ?_
            refine v_putN C inw_5 tyX5 tyX5_ok nmX5 3 10 rfl (by decide) nw_12 rfl rfl rfl rfl (Nat.le_of_ble_eq_true rfl) dX6_readText_110 (ws' := (rdW (vG X) a b ((itT bu (hdT f bu ln F K) n0).1) (bu)) ++ (liW (vG X) ad (up ((itT bu (hdT f bu ln F K) n0).2.1) 1 (up (((itT bu (hdT f bu ln F K) n0).2.1) 1) 7 (((itT bu (hdT f bu ln F K) n0).2.1) 2 3))) ((itT bu (hdT f bu ln F K) n0).2.2))) rfl ?_
            refine v_aload_n C dX6_readText_113 rfl 2 rfl ?_
            refine v_getN (v := .ref (ad 4)) C inw_3 2 1 rfl (by decide) nw_20 rfl rfl dX6_readText_114 ?_
            refine v_aload_n C dX6_readText_117 rfl 2 rfl ?_
            refine v_getN (v := .ref (ad 1)) C inw_3 2 0 rfl (by decide) nw_18 rfl rfl dX6_readText_118 ?_
            refine v_getN (v := vI (((itT bu (hdT f bu ln F K) n0).2.1) 1 3)) C inw_5 3 5 rfl (by decide) nw_7 rfl rfl dX6_readText_121 ?_
            refine v_putN C inw_5 tyX5 tyX5_ok nmX5 6 10 rfl (by decide) nw_12 rfl rfl rfl rfl (Nat.le_of_ble_eq_true rfl) dX6_readText_124 (ws' := (rdW (vG X) a b ((itT bu (hdT f bu ln F K) n0).1) (bu)) ++ (liW (vG X) ad (up (up ((itT bu (hdT f bu ln F K) n0).2.1) 1 (up (((itT bu (hdT f bu ln F K) n0).2.1) 1) 7 (((itT bu (hdT f bu ln F K) n0).2.1) 2 3))) 2 (up (((itT bu (hdT f bu ln F K) n0).2.1) 2) 7 (((itT bu (hdT f bu ln F K) n0).2.1) 1 3))) ((itT bu (hdT f bu ln F K) n0).2.2))) rfl ?_
            refine v_aload_n C dX6_readText_127 rfl 0 rfl ?_
            refine v_get (v := vI (((itT bu (hdT f bu ln F K) n0).1) 7)) C inw_6 0 8 rfl (by decide) (List.mem_cons_of_mem _ mw_457) rfl rfl dX6_readText_128 ?_
            exact v_iret C E rfl dX6_readText_131 (by decide) (by decide) (⟨by rw [en], by rw [en]⟩)
          · skip
            refine v_aload_n C dX6_readText_84 rfl 0 rfl ?_
            refine v_aload_n C dX6_readText_85 rfl 2 rfl ?_
            refine v_callV (na := 1) (wy := (Cond.code yX6_readStatement cX6_readStatement 2 none :: wsL_law)) (wc := (rdW (vG X) a b ((itT bu (hdT f bu ln F K) n0).1) (bu)) ++ (liW (vG X) ad ((itT bu (hdT f bu ln F K) n0).2.1) ((itT bu (hdT f bu ln F K) n0).2.2))) (wr := []) C [.ref (ad 0)] [] (c_X6_readStatement _ _ a b ((itT bu (hdT f bu ln F K) n0).1) bu ad ((itT bu (hdT f bu ln F K) n0).2.1) ((itT bu (hdT f bu ln F K) n0).2.2) hroI hbu (fun i => sB_mono (by omega) (hFI i))) rfl (gwV mw_533 mw_530 mw_531 mw_532 mw_11) rfl (by decide +kernel) 0 rfl rfl rfl rfl Sb.w rfl rfl dX6_readText_86 (fun r w1 hp86_13 => ?_)
            obtain ⟨rfl, rfl⟩ := hp86_13
            show V X 0 0 89 [(0, .ref a), (1, vI ln), (2, .ref (ad 0)), (3, vI (n0 : Int))] [] ((rdW (vG X) a b (rsR ((itT bu (hdT f bu ln F K) n0).1) bu ((itT bu (hdT f bu ln F K) n0).2.1) ((itT bu (hdT f bu ln F K) n0).2.2)) (bu)) ++ (liW (vG X) ad (rsF ((itT bu (hdT f bu ln F K) n0).1) bu ((itT bu (hdT f bu ln F K) n0).2.1) ((itT bu (hdT f bu ln F K) n0).2.2)) (rsK ((itT bu (hdT f bu ln F K) n0).1) bu ((itT bu (hdT f bu ln F K) n0).2.1) ((itT bu (hdT f bu ln F K) n0).2.2))))
            show V X 0 0 89 [(0, .ref a), (1, vI ln), (2, .ref (ad 0)), (3, vI (n0 : Int))] [] ((rdW (vG X) a b (rsR ((itT bu (hdT f bu ln F K) n0).1) bu ((itT bu (hdT f bu ln F K) n0).2.1) ((itT bu (hdT f bu ln F K) n0).2.2)) (bu)) ++ (liW (vG X) ad (rsF ((itT bu (hdT f bu ln F K) n0).1) bu ((itT bu (hdT f bu ln F K) n0).2.1) ((itT bu (hdT f bu ln F K) n0).2.2)) (rsK ((itT bu (hdT f bu ln F K) n0).1) bu ((itT bu (hdT f bu ln F K) n0).2.1) ((itT bu (hdT f bu ln F K) n0).2.2))))
            have ro14 : RO (rsR ((itT bu (hdT f bu ln F K) n0).1) bu ((itT bu (hdT f bu ln F K) n0).2.1) ((itT bu (hdT f bu ln F K) n0).2.2)) := rsR_ok hroI hbu
            have ro14c := ro14
            obtain ⟨⟨ro144a, ro144b, ro142b, ro141b⟩, ⟨ro143a, ro143b⟩, ro145, ⟨ro146a, ro146b⟩, ⟨ro147a, ro147b⟩, ro148, ro149, ro140a, ro140b⟩ := ro14c
            refine v_aload_n C dX6_readText_89 rfl 0 rfl ?_
            refine v_callV (na := 0) (wy := (Cond.code yX6_takeSemicolon cX6_takeSemicolon 1 none :: wsL_law)) (wc := (rdW (vG X) a b (rsR ((itT bu (hdT f bu ln F K) n0).1) bu ((itT bu (hdT f bu ln F K) n0).2.1) ((itT bu (hdT f bu ln F K) n0).2.2)) (bu))) (wr := (liW (vG X) ad (rsF ((itT bu (hdT f bu ln F K) n0).1) bu ((itT bu (hdT f bu ln F K) n0).2.1) ((itT bu (hdT f bu ln F K) n0).2.2)) (rsK ((itT bu (hdT f bu ln F K) n0).1) bu ((itT bu (hdT f bu ln F K) n0).2.1) ((itT bu (hdT f bu ln F K) n0).2.2)))) C [] [] (c_X6_takeSemicolon _ _ a b (rsR ((itT bu (hdT f bu ln F K) n0).1) bu ((itT bu (hdT f bu ln F K) n0).2.1) ((itT bu (hdT f bu ln F K) n0).2.2)) bu ro14 hbu) rfl (gwV mw_529 mw_526 mw_527 mw_528 mw_11) rfl (by decide +kernel) 0 rfl rfl rfl rfl Sb.rf rfl rfl dX6_readText_90 (fun r w1 hp90_15 => ?_)
            obtain ⟨rfl, rfl⟩ := hp90_15
            show V X 0 0 93 [(0, .ref a), (1, vI ln), (2, .ref (ad 0)), (3, vI (n0 : Int))] [] ((rdW (vG X) a b (tsR (rsR ((itT bu (hdT f bu ln F K) n0).1) bu ((itT bu (hdT f bu ln F K) n0).2.1) ((itT bu (hdT f bu ln F K) n0).2.2)) bu) (bu)) ++ (liW (vG X) ad (rsF ((itT bu (hdT f bu ln F K) n0).1) bu ((itT bu (hdT f bu ln F K) n0).2.1) ((itT bu (hdT f bu ln F K) n0).2.2)) (rsK ((itT bu (hdT f bu ln F K) n0).1) bu ((itT bu (hdT f bu ln F K) n0).2.1) ((itT bu (hdT f bu ln F K) n0).2.2))))
            show V X 0 0 93 [(0, .ref a), (1, vI ln), (2, .ref (ad 0)), (3, vI (n0 : Int))] [] ((rdW (vG X) a b (tsR (rsR ((itT bu (hdT f bu ln F K) n0).1) bu ((itT bu (hdT f bu ln F K) n0).2.1) ((itT bu (hdT f bu ln F K) n0).2.2)) bu) (bu)) ++ (liW (vG X) ad (rsF ((itT bu (hdT f bu ln F K) n0).1) bu ((itT bu (hdT f bu ln F K) n0).2.1) ((itT bu (hdT f bu ln F K) n0).2.2)) (rsK ((itT bu (hdT f bu ln F K) n0).1) bu ((itT bu (hdT f bu ln F K) n0).2.1) ((itT bu (hdT f bu ln F K) n0).2.2))))
            have ro16 : RO (tsR (rsR ((itT bu (hdT f bu ln F K) n0).1) bu ((itT bu (hdT f bu ln F K) n0).2.1) ((itT bu (hdT f bu ln F K) n0).2.2)) bu) := tsR_ok ro14 hbu
            have ro16c := ro16
            obtain ⟨⟨ro164a, ro164b, ro162b, ro161b⟩, ⟨ro163a, ro163b⟩, ro165, ⟨ro166a, ro166b⟩, ⟨ro167a, ro167b⟩, ro168, ro169, ro160a, ro160b⟩ := ro16c
            refine v_iinc C M dX6_readText_93 3 rfl (by decide) (z' := ((n0 : Int) + 1)) rfl (L' := [(3, vI ((n0 : Int) + 1)), (0, .ref a), (1, vI ln), (2, .ref (ad 0))]) rfl ?_
            refine v_goto (tgt := 63) C dX6_readText_96 (by decide) ?_
            refine V.loc (L' := [(0, .ref a), (1, vI ln), (2, .ref (ad 0)), (3, vI ((n0 : Int) + 1))]) [1, 2, 3, 0] rfl ?_
            have key := ih (n0 + 1) (by omega) (fun j hj => by
              by_cases e : j = n0
              · rw [e]; exact fun h => h ⟨by omega, c74, c81⟩
              · exact hno j (by omega)) (by omega)
            rw [show itT bu (hdT f bu ln F K) (n0 + 1) = rsT bu (itT bu (hdT f bu ln F K) n0) from rfl, show ((n0 + 1 : Nat) : Int) = (n0 : Int) + 1 by omega] at key
            exact key
  exact lp 701 0 (by omega) (fun j hj => absurd hj (by omega)) (by omega)
end C22
