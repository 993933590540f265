section M11
set_option maxHeartbeats 4000000 in
set_option maxRecDepth 100000 in
theorem c_X8_must (G : GG) (l : Launch) (ad : Nat → Nat) (F : Int → Int → Int) (c k : Int) (ho : RM (F 0)) (hB1 : sB 1000 (F 1)) (hc : c = 0 ∨ c = 1) (hk : 1 ≤ k ∧ k ≤ 4) : Ct G l yX8_must (Cond.code yX8_must cX8_must 3 (some .boolean) :: wsL_law) 0 0 0 0 [.ref (ad 0), vI c, vI k] ((mW G ad F)) (fun r w => r = some (vI (bI ((F 0) 8 = 0 ∧ ¬ c = 0))) ∧ w = mW G ad (up F 0 (muM (F 0) c k))) := by
  refine Ct.of (own := RX8) (cc := cX8_must) (maxL := 3) (ret := (some .boolean)) (by decide) rfl rfl (Nat.le_of_ble_eq_true rfl) (fun X C E M hG hl => ?_)
  subst hG hl
  have ho0 := ho
  obtain ⟨⟨h4a, h45, h53, h3b⟩, ⟨h6a, h6b⟩, ⟨h7a, h7b⟩, ⟨h8a, h8b⟩, ⟨h9a, h9b⟩, hw0, hw1⟩ := ho0
  refine v_aload_n C dX8_must_0 rfl 0 rfl ?_
  refine v_get (v := vI (F 0 8)) C inw_8 0 8 rfl (by decide) (List.mem_cons_of_mem _ mw_336) rfl rfl dX8_must_1 ?_
  refine v_if_ne (tgt := 24) C dX8_must_4 (by decide) (by  first | assumption | exact ⟨by omega, by omega⟩) (fun c4 => ?_) (fun c4 => ?_)
  · skip
    refine v_aload_n C dX8_must_24 rfl 0 rfl ?_
    refine v_get (v := vI (F 0 8)) C inw_8 0 8 rfl (by decide) (List.mem_cons_of_mem _ mw_336) rfl rfl dX8_must_25 ?_
    refine v_if_ne (tgt := 35) C dX8_must_28 (by decide) (by  first | assumption | exact ⟨by omega, by omega⟩) (fun c28 => ?_) (fun c28 => ?_)
    · skip
      refine v_iconst C dX8_must_35 ?_
      exact v_zret C E rfl rfl dX8_must_36 (by decide) (by decide) (⟨by rw [bI_f (fun h => c4 h.1)], by rw [show up F 0 (muM (F 0) c k) = F from (congrArg (up F 0) ((muM_e c4))).trans up_same]⟩)
    · skip
      exact absurd c28 c4
  · skip
    refine v_iload_n C dX8_must_7 rfl 1 rfl ?_
    refine v_if_ne (tgt := 24) C dX8_must_8 (by decide) ⟨by omega, by omega⟩ (fun c8 => ?_) (fun c8 => ?_)
    · skip
      refine v_aload_n C dX8_must_24 rfl 0 rfl ?_
      refine v_get (v := vI (F 0 8)) C inw_8 0 8 rfl (by decide) (List.mem_cons_of_mem _ mw_336) rfl rfl dX8_must_25 ?_
      refine v_if_ne (tgt := 35) C dX8_must_28 (by decide) (by  first | assumption | exact ⟨by omega, by omega⟩) (fun c28 => ?_) (fun c28 => ?_)
      · skip
        exact absurd c4 c28
      · skip
        refine v_iconst C dX8_must_31 ?_
        refine v_goto (tgt := 36) C dX8_must_32 (by decide) ?_
        exact v_zret C E rfl rfl dX8_must_36 (by decide) (by decide) (⟨by rw [bI_t ⟨c4, c8⟩], by rw [show up F 0 (muM (F 0) c k) = F from (congrArg (up F 0) ((if_neg c8))).trans up_same]⟩)
    · skip
      refine v_aload_n C dX8_must_11 rfl 0 rfl ?_
      refine v_iload_n C dX8_must_12 rfl 2 rfl ?_
      refine v_put C inw_8 tyX8 tyX8_ok nmX8 0 8 rfl (by decide) (List.mem_cons_of_mem _ mw_336) rfl rfl rfl rfl (Nat.le_of_ble_eq_true rfl) dX8_must_13 (ws' := (mW (vG X) ad (up F 0 (up (F 0) 8 k)))) rfl ?_
      refine v_aload_n C dX8_must_16 rfl 0 rfl ?_
      refine v_aload_n C dX8_must_17 rfl 0 rfl ?_
      refine v_get (v := vI (F 0 4)) C inw_8 0 4 rfl (by decide) (List.mem_cons_of_mem _ mw_355) rfl rfl dX8_must_18 ?_
      refine v_put C inw_8 tyX8 tyX8_ok nmX8 0 9 rfl (by decide) (List.mem_cons_of_mem _ mw_340) rfl rfl rfl rfl (Nat.le_of_ble_eq_true rfl) dX8_must_21 (ws' := (mW (vG X) ad (up F 0 (up (up (F 0) 8 k) 9 (F 0 4))))) rfl ?_
      refine v_aload_n C dX8_must_24 rfl 0 rfl ?_
      refine v_get (v := vI k) C inw_8 0 8 rfl (by decide) (List.mem_cons_of_mem _ mw_336) rfl rfl dX8_must_25 ?_
      refine v_if_ne (tgt := 35) C dX8_must_28 (by decide) ⟨by omega, by omega⟩ (fun c28 => ?_) (fun c28 => ?_)
      · skip
        refine v_iconst C dX8_must_35 ?_
        exact v_zret C E rfl rfl dX8_must_36 (by decide) (by decide) (⟨by rw [bI_f (fun h => h.2 c8)], by rw [show (muM (F 0) c k) = (up (up (F 0) 8 k) 9 (F 0 4)) from (if_pos c8).trans (if_pos c4)]⟩)
      · skip
        exact absurd c28 (by omega)
set_option maxHeartbeats 4000000 in
set_option maxRecDepth 100000 in
theorem c_X8_goOn (G : GG) (l : Launch) (ad : Nat → Nat) (F : Int → Int → Int) (ho : RM (F 0)) (hB1 : sB 1000 (F 1))  : Ct G l yX8_goOn (Cond.code yX8_goOn cX8_goOn 1 none :: wsL_law) 2 43 0 0 [.ref (ad 0)] ((mW G ad F)) (fun r w => r = none ∧ w = mW G ad (up F 0 (goM (F 0) (F 1)))) := by
  refine Ct.of (own := RX8) (cc := cX8_goOn) (maxL := 1) (ret := none) (by decide) rfl rfl (Nat.le_of_ble_eq_true rfl) (fun X C E M hG hl => ?_)
  subst hG hl
  have ho0 := ho
  obtain ⟨⟨h4a, h45, h53, h3b⟩, ⟨h6a, h6b⟩, ⟨h7a, h7b⟩, ⟨h8a, h8b⟩, ⟨h9a, h9b⟩, hw0, hw1⟩ := ho0
  refine v_aload_n C dX8_goOn_0 rfl 0 rfl ?_
  refine v_get (v := vI (F 0 8)) C inw_8 0 8 rfl (by decide) (List.mem_cons_of_mem _ mw_336) rfl rfl dX8_goOn_1 ?_
  refine v_if_ne (tgt := 11) C dX8_goOn_4 (by decide) (by  first | assumption | exact ⟨by omega, by omega⟩) (fun c4 => ?_) (fun c4 => ?_)
  · skip
    exact v_vret C E rfl dX8_goOn_11 (by decide) (by decide) (⟨rfl, by rw [show up F 0 (goM (F 0) (F 1)) = F from (congrArg (up F 0) ((if_neg c4))).trans up_same]⟩)
  · skip
    refine v_aload_n C dX8_goOn_7 rfl 0 rfl ?_
    refine v_callV (na := 0) (wy := (Cond.code yX8_nextToken cX8_nextToken 2 none :: wsL_law)) (wc := (mW (vG X) ad F)) (wr := []) C [] [] (c_X8_nextToken _ _ ad F (ho.one) hB1) rfl (gwV mw_354 mw_351 mw_352 mw_353 mw_5) rfl (by decide +kernel) 0 rfl rfl rfl rfl Sb.w rfl rfl dX8_goOn_8 (fun r w1 hp8_1 => ?_)
    obtain ⟨rfl, rfl⟩ := hp8_1
    show V X 0 0 11 [(0, .ref (ad 0))] [] ((mW (vG X) ad (up F 0 (ntM (F 0) (F 1)))))
    have rm2_ : RM (ntM (F 0) (F 1)) := ntM_ok (ho.one) hB1
    exact v_vret C E rfl dX8_goOn_11 (by decide) (by decide) (⟨rfl, by rw [show (goM (F 0) (F 1)) = (ntM (F 0) (F 1)) from (if_pos c4)]⟩)
set_option maxHeartbeats 4000000 in
set_option maxRecDepth 100000 in
theorem c_X8_look (G : GG) (l : Launch) (ad : Nat → Nat) (F : Int → Int → Int) (p q : Int) (ho : RM (F 0)) (hB1 : sB 1000 (F 1)) (hp : 0 ≤ p ∧ p ≤ q ∧ q ≤ 1000) : Ct G l yX8_look (Cond.code yX8_look cX8_look 3 (some .int) :: wsL_law) 1 22 0 0 [.ref (ad 0), vI p, vI q] ((mW G ad F)) (fun r w => r = some (vI (lkV (F 0) p q)) ∧ w = mW G ad (up F 0 (lkM (F 0) p q))) := by
  refine Ct.of (own := RX8) (cc := cX8_look) (maxL := 3) (ret := (some .int)) (by decide) rfl rfl (Nat.le_of_ble_eq_true rfl) (fun X C E M hG hl => ?_)
  subst hG hl
  have ho0 := ho
  obtain ⟨⟨h4a, h45, h53, h3b⟩, ⟨h6a, h6b⟩, ⟨h7a, h7b⟩, ⟨h8a, h8b⟩, ⟨h9a, h9b⟩, hw0, hw1⟩ := ho0
  refine v_aload_n C dX8_look_0 rfl 0 rfl ?_
  refine v_aload_n C dX8_look_1 rfl 0 rfl ?_
  refine v_get (v := vI (F 0 6)) C inw_8 0 6 rfl (by decide) (List.mem_cons_of_mem _ mw_339) rfl rfl dX8_look_2 ?_
  refine v_iconst C dX8_look_5 ?_
  suffices mrg : V X 0 0 14 [(0, .ref (ad 0)), (1, vI p), (2, vI q)] [vI (bI ((F 0 6) = 2)), .ref (ad 0)] ((mW (vG X) ad F)) by
    refine v_icmp_ne (tgt := 13) C dX8_look_6 (by decide) (by  first | assumption | exact ⟨by omega, by omega⟩) (by decide) (fun c6 => ?_) (fun c6 => ?_)
    · skip
      refine v_iconst C dX8_look_13 ?_
      exact V.top (bI_f (by omega)).symm mrg
    · skip
      refine v_iconst C dX8_look_9 ?_
      refine v_goto (tgt := 14) C dX8_look_10 (by decide) ?_
      exact V.top (bI_t (by omega)).symm mrg
  refine v_iconst C dX8_look_14 ?_
  refine v_callV (na := 2) (wy := (Cond.code yX8_must cX8_must 3 (some .boolean) :: wsL_law)) (wc := (mW (vG X) ad F)) (wr := []) C [vI (bI ((F 0 6) = 2)), vI 1] [] (c_X8_must _ _ ad F (bI ((F 0 6) = 2)) 1 ho hB1 bI_01 (by decide)) rfl (gwV mw_370 mw_367 mw_368 mw_369 mw_5) rfl (by decide +kernel) 0 rfl rfl rfl rfl Sb.w rfl rfl dX8_look_15 (fun r w1 hp15_1 => ?_)
  obtain ⟨rfl, rfl⟩ := hp15_1
  show V X 0 0 18 [(0, .ref (ad 0)), (1, vI p), (2, vI q)] [vI (bI ((F 0) 8 = 0 ∧ ¬ (bI ((F 0 6) = 2)) = 0))] ((mW (vG X) ad (up F 0 (muM (F 0) (bI ((F 0 6) = 2)) 1))))
  have rm2_ : RM (muM (F 0) (bI ((F 0 6) = 2)) 1) := muM_ok ho (by decide)
  refine v_if_eq (tgt := 45) C dX8_look_18 (by decide) sm_bI (fun c18 => ?_) (fun c18 => ?_)
  · skip
    have c18 := bI_0.mp c18
    refine v_iload_n C dX8_look_45 rfl 1 rfl ?_
    exact v_iret C E rfl dX8_look_46 (by decide) (by decide) (⟨by rw [(lk1 (p := p) (q := q) c18).2], by rw [show (lkM (F 0) p q) = (muM (F 0) (bI ((F 0 6) = 2)) 1) from (lk1 c18).1]⟩)
  · skip
    have c18 := bI_n0.mp c18
    have em := lk2 c18
    rw [em]
    show V X 0 0 21 [(0, .ref (ad 0)), (1, vI p), (2, vI q)] [] ((mW (vG X) ad (up F 0 (F 0))))
    refine v_aload_n C dX8_look_21 rfl 0 rfl ?_
    refine v_aload_n C dX8_look_22 rfl 0 rfl ?_
    refine v_get (v := vI ((F 0) 7)) C inw_8 0 7 rfl (by decide) (List.mem_cons_of_mem _ mw_356) rfl rfl dX8_look_23 ?_
    refine v_iload_n C dX8_look_26 rfl 1 rfl ?_
    refine v_iload_n C dX8_look_27 rfl 2 rfl ?_
    refine v_callS (na := 3) (wy := (Cond.code yX8_within cX8_within 3 (some .boolean) :: wsL_law)) (wc := []) (wr := (mW (vG X) ad (up F 0 (F 0)))) C [vI ((F 0) 7), vI p, vI q] [.ref (ad 0)] (c_X8_within _ _ ((F 0) 7) p q (by first | assumption | exact ⟨by omega, by omega⟩) ⟨by omega, by omega⟩ ⟨by omega, by omega⟩) rfl (gwS mw_343 mw_341 mw_342 mw_5) (by decide +kernel) rfl rfl Sb.rf rfl rfl dX8_look_28 (fun r w1 hp28_3 => ?_)
    obtain ⟨rfl, rfl⟩ := hp28_3
    show V X 0 0 31 [(0, .ref (ad 0)), (1, vI p), (2, vI q)] [vI (bI (p ≤ ((F 0) 7) ∧ ((F 0) 7) ≤ q)), .ref (ad 0)] ((mW (vG X) ad (up F 0 (F 0))))
    refine v_iconst C dX8_look_31 ?_
    refine v_callV (na := 2) (wy := (Cond.code yX8_must cX8_must 3 (some .boolean) :: wsL_law)) (wc := (mW (vG X) ad (up F 0 (F 0)))) (wr := []) C [vI (bI (p ≤ ((F 0) 7) ∧ ((F 0) 7) ≤ q)), vI 3] [] (c_X8_must _ _ ad (up F 0 (F 0)) (bI (p ≤ ((F 0) 7) ∧ ((F 0) 7) ≤ q)) 3 ho hB1 bI_01 (by decide)) rfl (gwV mw_370 mw_367 mw_368 mw_369 mw_5) rfl (by decide +kernel) 0 rfl rfl rfl rfl Sb.w rfl rfl dX8_look_32 (fun r w1 hp32_4 => ?_)
    obtain ⟨rfl, rfl⟩ := hp32_4
    show V X 0 0 35 [(0, .ref (ad 0)), (1, vI p), (2, vI q)] [vI (bI ((F 0) 8 = 0 ∧ ¬ (bI (p ≤ ((F 0) 7) ∧ ((F 0) 7) ≤ q)) = 0))] ((mW (vG X) ad (up F 0 (muM (F 0) (bI (p ≤ ((F 0) 7) ∧ ((F 0) 7) ≤ q)) 3))))
    have rm5_ : RM (muM (F 0) (bI (p ≤ ((F 0) 7) ∧ ((F 0) 7) ≤ q)) 3) := muM_ok ho (by decide)
    refine v_if_eq (tgt := 45) C dX8_look_35 (by decide) sm_bI (fun c35 => ?_) (fun c35 => ?_)
    · skip
      have c35 := bI_0.mp c35
      refine v_iload_n C dX8_look_45 rfl 1 rfl ?_
      exact v_iret C E rfl dX8_look_46 (by decide) (by decide) (⟨by rw [(lk3 (p := p) (q := q) c18 c35).2], by rw [show (lkM (F 0) p q) = (muM (F 0) (bI (p ≤ ((F 0) 7) ∧ ((F 0) 7) ≤ q)) 3) from (lk3 c18 c35).1]⟩)
    · skip
      have c35 := bI_n0.mp c35
      refine v_aload_n C dX8_look_38 rfl 0 rfl ?_
      refine v_get (v := vI ((muM (F 0) (bI (p ≤ ((F 0) 7) ∧ ((F 0) 7) ≤ q)) 3) 7)) C inw_8 0 7 rfl (by decide) (List.mem_cons_of_mem _ mw_356) rfl rfl dX8_look_39 ?_
      refine v_goto (tgt := 46) C dX8_look_42 (by decide) ?_
      exact v_iret C E rfl dX8_look_46 (by decide) (by decide) (⟨by rw [(lk4 (p := p) (q := q) c18 c35).2], by rw [show (lkM (F 0) p q) = (muM (F 0) (bI (p ≤ ((F 0) 7) ∧ ((F 0) 7) ≤ q)) 3) from (lk4 c18 c35).1]⟩)
set_option maxHeartbeats 4000000 in
set_option maxRecDepth 100000 in
theorem c_X8_takes (G : GG) (l : Launch) (ad : Nat → Nat) (F : Int → Int → Int) (p q : Int) (ho : RM (F 0)) (hB1 : sB 1000 (F 1)) (hp : 0 ≤ p ∧ p ≤ q ∧ q ≤ 1000) : Ct G l yX8_takes (Cond.code yX8_takes cX8_takes 4 (some .int) :: wsL_law) 3 63 0 0 [.ref (ad 0), vI p, vI q] ((mW G ad F)) (fun r w => r = some (vI (lkV (F 0) p q)) ∧ w = mW G ad (up F 0 (tkM (F 0) (F 1) p q))) := by
  refine Ct.of (own := RX8) (cc := cX8_takes) (maxL := 4) (ret := (some .int)) (by decide) rfl rfl (Nat.le_of_ble_eq_true rfl) (fun X C E M hG hl => ?_)
  subst hG hl
  have ho0 := ho
  obtain ⟨⟨h4a, h45, h53, h3b⟩, ⟨h6a, h6b⟩, ⟨h7a, h7b⟩, ⟨h8a, h8b⟩, ⟨h9a, h9b⟩, hw0, hw1⟩ := ho0
  refine v_aload_n C dX8_takes_0 rfl 0 rfl ?_
  refine v_iload_n C dX8_takes_1 rfl 1 rfl ?_
  refine v_iload_n C dX8_takes_2 rfl 2 rfl ?_
  refine v_callV (na := 2) (wy := (Cond.code yX8_look cX8_look 3 (some .int) :: wsL_law)) (wc := (mW (vG X) ad F)) (wr := []) C [vI p, vI q] [] (c_X8_look _ _ ad F p q ho hB1 hp) rfl (gwV mw_382 mw_379 mw_380 mw_381 mw_5) rfl (by decide +kernel) 0 rfl rfl rfl rfl Sb.w rfl rfl dX8_takes_3 (fun r w1 hp3_1 => ?_)
  obtain ⟨rfl, rfl⟩ := hp3_1
  show V X 0 0 6 [(0, .ref (ad 0)), (1, vI p), (2, vI q)] [vI (lkV (F 0) p q)] ((mW (vG X) ad (up F 0 (lkM (F 0) p q))))
  have rm2_ : RM (lkM (F 0) p q) := lkM_ok ho
  obtain ⟨va3, vb3⟩ := lkV_in (s := (F 0)) (p := p) (q := q) hp
  refine v_istore_n C M dX8_takes_6 rfl (by decide) (L' := [(3, vI (lkV (F 0) p q)), (0, .ref (ad 0)), (1, vI p), (2, vI q)]) rfl ?_
  refine v_aload_n C dX8_takes_7 rfl 1 rfl ?_
  refine v_callV (na := 0) (wy := (Cond.code yX8_goOn cX8_goOn 1 none :: wsL_law)) (wc := (mW (vG X) ad (up F 0 (lkM (F 0) p q)))) (wr := []) C [] [] (c_X8_goOn _ _ ad (up F 0 (lkM (F 0) p q)) rm2_ hB1) rfl (gwV mw_374 mw_371 mw_372 mw_373 mw_5) rfl (by decide +kernel) 0 rfl rfl rfl rfl Sb.w rfl rfl dX8_takes_8 (fun r w1 hp8_4 => ?_)
  obtain ⟨rfl, rfl⟩ := hp8_4
  show V X 0 0 11 [(3, vI (lkV (F 0) p q)), (0, .ref (ad 0)), (1, vI p), (2, vI q)] [] ((mW (vG X) ad (up F 0 (goM (lkM (F 0) p q) (F 1)))))
  have rm5_ : RM (goM (lkM (F 0) p q) (F 1)) := goM_ok rm2_ hB1
  refine v_iload_n C dX8_takes_11 rfl 0 rfl ?_
  exact v_iret C E rfl dX8_takes_12 (by decide) (by decide) (⟨rfl, rfl⟩)
set_option maxHeartbeats 4000000 in
set_option maxRecDepth 100000 in
theorem c_X8_isWord (G : GG) (l : Launch) (ad : Nat → Nat) (F : Int → Int → Int) (i : Nat) (b0 : List Int32) (ho : RM (F 0)) (hB1 : sB 1000 (F 1)) (hi : strB[i]? = some b0) : Ct G l yX8_isWord (Cond.code yX8_isWord cX8_isWord 4 (some .boolean) :: wsL_law) 4 85 0 0 [.ref (ad 0), .ref (G.1.2 i)] ((mW G ad F)) (fun r w => r = some (vI (bI (wdM (F 0) (F 1) b0))) ∧ w = mW G ad F) := by
  refine Ct.of (own := RX8) (cc := cX8_isWord) (maxL := 4) (ret := (some .boolean)) (by decide) rfl rfl (Nat.le_of_ble_eq_true rfl) (fun X C E M hG hl => ?_)
  subst hG hl
  have ho0 := ho
  obtain ⟨⟨h4a, h45, h53, h3b⟩, ⟨h6a, h6b⟩, ⟨h7a, h7b⟩, ⟨h8a, h8b⟩, ⟨h9a, h9b⟩, hw0, hw1⟩ := ho0
  have hb9 := strB_ok hi
  refine v_aload_n C dX8_isWord_0 rfl 0 rfl ?_
  refine v_get (v := vI (F 0 8)) C inw_8 0 8 rfl (by decide) (List.mem_cons_of_mem _ mw_336) rfl rfl dX8_isWord_1 ?_
  refine v_if_ne (tgt := 35) C dX8_isWord_4 (by decide) (by  first | assumption | exact ⟨by omega, by omega⟩) (fun c4 => ?_) (fun c4 => ?_)
  · skip
    refine v_iconst C dX8_isWord_35 ?_
    refine v_istore_n C M dX8_isWord_36 rfl (by decide) (L' := [(2, vI 0), (0, .ref (ad 0)), (1, .ref ((vG X).1.2 i))]) rfl ?_
    refine v_iconst C dX8_isWord_37 ?_
    refine v_istore_n C M dX8_isWord_38 rfl (by decide) (L' := [(3, vI 0), (2, vI 0), (0, .ref (ad 0)), (1, .ref ((vG X).1.2 i))]) rfl ?_
    refine v_iload_n C dX8_isWord_39 rfl 0 rfl ?_
    refine v_aload_n C dX8_isWord_40 rfl 3 rfl ?_
    refine v_callK (na := 0) (wy := (Cond.code yJ0_length_8abf5 cJ0_length_8abf5 1 (some .int) :: wsL_law)) (wc := []) (wr := (mW (vG X) ad F)) C [] [vI 0] (c_J0_length_8abf5 _ _ i b0 hi) rfl (gwV mw_239 mw_365 mw_236 mw_237 mw_238) rfl (by decide +kernel) hi rfl rfl Sb.rf rfl rfl dX8_isWord_41 (fun r w1 hp41_1 => ?_)
    obtain ⟨rfl, rfl⟩ := hp41_1
    show V X 0 0 44 [(3, vI 0), (2, vI 0), (0, .ref (ad 0)), (1, .ref ((vG X).1.2 i))] [vI (b0.length : Int), vI 0] ((mW (vG X) ad F))
    refine v_icmp_ge (tgt := 82) C dX8_isWord_44 (by decide) (by decide) (by  first | assumption | exact ⟨by omega, by omega⟩) (fun c44 => ?_) (fun c44 => ?_)
    · skip
      refine v_iload_n C dX8_isWord_82 rfl 1 rfl ?_
      exact v_zret C E rfl rfl dX8_isWord_83 (by decide) (by decide) (⟨by rw [bI_f (fun h => c4 h.1)], rfl⟩)
    · skip
      refine v_iload_n C dX8_isWord_47 rfl 1 rfl ?_
      refine v_if_eq (tgt := 82) C dX8_isWord_48 (by decide) (by decide) (fun _ => ?_) (fun c => absurd (by decide) c)
      refine v_iload_n C dX8_isWord_82 rfl 1 rfl ?_
      exact v_zret C E rfl rfl dX8_isWord_83 (by decide) (by decide) (⟨by rw [bI_f (fun h => c4 h.1)], rfl⟩)
  · skip
    refine v_aload_n C dX8_isWord_7 rfl 0 rfl ?_
    refine v_get (v := vI (F 0 6)) C inw_8 0 6 rfl (by decide) (List.mem_cons_of_mem _ mw_339) rfl rfl dX8_isWord_8 ?_
    refine v_iconst C dX8_isWord_11 ?_
    refine v_icmp_ne (tgt := 35) C dX8_isWord_12 (by decide) (by  first | assumption | exact ⟨by omega, by omega⟩) (by decide) (fun c12 => ?_) (fun c12 => ?_)
    · skip
      refine v_iconst C dX8_isWord_35 ?_
      refine v_istore_n C M dX8_isWord_36 rfl (by decide) (L' := [(2, vI 0), (0, .ref (ad 0)), (1, .ref ((vG X).1.2 i))]) rfl ?_
      refine v_iconst C dX8_isWord_37 ?_
      refine v_istore_n C M dX8_isWord_38 rfl (by decide) (L' := [(3, vI 0), (2, vI 0), (0, .ref (ad 0)), (1, .ref ((vG X).1.2 i))]) rfl ?_
      refine v_iload_n C dX8_isWord_39 rfl 0 rfl ?_
      refine v_aload_n C dX8_isWord_40 rfl 3 rfl ?_
      refine v_callK (na := 0) (wy := (Cond.code yJ0_length_8abf5 cJ0_length_8abf5 1 (some .int) :: wsL_law)) (wc := []) (wr := (mW (vG X) ad F)) C [] [vI 0] (c_J0_length_8abf5 _ _ i b0 hi) rfl (gwV mw_239 mw_365 mw_236 mw_237 mw_238) rfl (by decide +kernel) hi rfl rfl Sb.rf rfl rfl dX8_isWord_41 (fun r w1 hp41_2 => ?_)
      obtain ⟨rfl, rfl⟩ := hp41_2
      show V X 0 0 44 [(3, vI 0), (2, vI 0), (0, .ref (ad 0)), (1, .ref ((vG X).1.2 i))] [vI (b0.length : Int), vI 0] ((mW (vG X) ad F))
      refine v_icmp_ge (tgt := 82) C dX8_isWord_44 (by decide) (by decide) (by  first | assumption | exact ⟨by omega, by omega⟩) (fun c44 => ?_) (fun c44 => ?_)
      · skip
        refine v_iload_n C dX8_isWord_82 rfl 1 rfl ?_
        exact v_zret C E rfl rfl dX8_isWord_83 (by decide) (by decide) (⟨by rw [bI_f (fun h => c12 h.2.1)], rfl⟩)
      · skip
        refine v_iload_n C dX8_isWord_47 rfl 1 rfl ?_
        refine v_if_eq (tgt := 82) C dX8_isWord_48 (by decide) (by decide) (fun _ => ?_) (fun c => absurd (by decide) c)
        refine v_iload_n C dX8_isWord_82 rfl 1 rfl ?_
        exact v_zret C E rfl rfl dX8_isWord_83 (by decide) (by decide) (⟨by rw [bI_f (fun h => c12 h.2.1)], rfl⟩)
    · skip
      refine v_aload_n C dX8_isWord_15 rfl 0 rfl ?_
      refine v_get (v := vI (F 0 5)) C inw_8 0 5 rfl (by decide) (List.mem_cons_of_mem _ mw_335) rfl rfl dX8_isWord_16 ?_
      refine v_aload_n C dX8_isWord_19 rfl 0 rfl ?_
      refine v_get (v := vI (F 0 4)) C inw_8 0 4 rfl (by decide) (List.mem_cons_of_mem _ mw_355) rfl rfl dX8_isWord_20 ?_
      refine v_isub C dX8_isWord_23 ?_
      refine v_aload_n C dX8_isWord_24 rfl 1 rfl ?_
      refine v_callK (na := 0) (wy := (Cond.code yJ0_length_8abf5 cJ0_length_8abf5 1 (some .int) :: wsL_law)) (wc := []) (wr := (mW (vG X) ad F)) C [] [vI ((F 0 5) - (F 0 4))] (c_J0_length_8abf5 _ _ i b0 hi) rfl (gwV mw_239 mw_365 mw_236 mw_237 mw_238) rfl (by decide +kernel) hi rfl rfl Sb.rf rfl rfl dX8_isWord_25 (fun r w1 hp25_3 => ?_)
      obtain ⟨rfl, rfl⟩ := hp25_3
      show V X 0 0 28 [(0, .ref (ad 0)), (1, .ref ((vG X).1.2 i))] [vI (b0.length : Int), vI ((F 0 5) - (F 0 4))] ((mW (vG X) ad F))
      refine v_icmp_ne (tgt := 35) C dX8_isWord_28 (by decide) (by  first | assumption | exact ⟨by omega, by omega⟩) (by  first | assumption | exact ⟨by omega, by omega⟩) (fun c28 => ?_) (fun c28 => ?_)
      · skip
        refine v_iconst C dX8_isWord_35 ?_
        refine v_istore_n C M dX8_isWord_36 rfl (by decide) (L' := [(2, vI 0), (0, .ref (ad 0)), (1, .ref ((vG X).1.2 i))]) rfl ?_
        refine v_iconst C dX8_isWord_37 ?_
        refine v_istore_n C M dX8_isWord_38 rfl (by decide) (L' := [(3, vI 0), (2, vI 0), (0, .ref (ad 0)), (1, .ref ((vG X).1.2 i))]) rfl ?_
        refine v_iload_n C dX8_isWord_39 rfl 0 rfl ?_
        refine v_aload_n C dX8_isWord_40 rfl 3 rfl ?_
        refine v_callK (na := 0) (wy := (Cond.code yJ0_length_8abf5 cJ0_length_8abf5 1 (some .int) :: wsL_law)) (wc := []) (wr := (mW (vG X) ad F)) C [] [vI 0] (c_J0_length_8abf5 _ _ i b0 hi) rfl (gwV mw_239 mw_365 mw_236 mw_237 mw_238) rfl (by decide +kernel) hi rfl rfl Sb.rf rfl rfl dX8_isWord_41 (fun r w1 hp41_4 => ?_)
        obtain ⟨rfl, rfl⟩ := hp41_4
        show V X 0 0 44 [(3, vI 0), (2, vI 0), (0, .ref (ad 0)), (1, .ref ((vG X).1.2 i))] [vI (b0.length : Int), vI 0] ((mW (vG X) ad F))
        refine v_icmp_ge (tgt := 82) C dX8_isWord_44 (by decide) (by decide) (by  first | assumption | exact ⟨by omega, by omega⟩) (fun c44 => ?_) (fun c44 => ?_)
        · skip
          refine v_iload_n C dX8_isWord_82 rfl 1 rfl ?_
          exact v_zret C E rfl rfl dX8_isWord_83 (by decide) (by decide) (⟨by rw [bI_f (fun h => c28 h.2.2.1)], rfl⟩)
        · skip
          refine v_iload_n C dX8_isWord_47 rfl 1 rfl ?_
          refine v_if_eq (tgt := 82) C dX8_isWord_48 (by decide) (by decide) (fun _ => ?_) (fun c => absurd (by decide) c)
          refine v_iload_n C dX8_isWord_82 rfl 1 rfl ?_
          exact v_zret C E rfl rfl dX8_isWord_83 (by decide) (by decide) (⟨by rw [bI_f (fun h => c28 h.2.2.1)], rfl⟩)
      · skip
        refine v_iconst C dX8_isWord_31 ?_
        refine v_goto (tgt := 36) C dX8_isWord_32 (by decide) ?_
        refine v_istore_n C M dX8_isWord_36 rfl (by decide) (L' := [(2, vI 1), (0, .ref (ad 0)), (1, .ref ((vG X).1.2 i))]) rfl ?_
        refine v_iconst C dX8_isWord_37 ?_
        refine v_istore_n C M dX8_isWord_38 rfl (by decide) (L' := [(3, vI 0), (2, vI 1), (0, .ref (ad 0)), (1, .ref ((vG X).1.2 i))]) rfl ?_
        refine V.loc (L' := [(0, .ref (ad 0)), (1, .ref ((vG X).1.2 i)), (2, vI 1), (3, vI 0)]) [2, 3, 1, 0] rfl ?_
        have lp : ∀ (n : Nat) (n0 : Nat) (hn0 : n0 ≤ b0.length) (hno : ∀ j : Nat, j < n0 → (F 1) ((F 0) 4 + (j : Int)) = chK b0 (j : Int)) (hm : (b0.length : Int) - (n0 : Int) < (n : Int)), V X 0 0 39 [(0, .ref (ad 0)), (1, .ref ((vG X).1.2 i)), (2, vI 1), (3, vI (n0 : Int))] [] ((mW (vG X) ad F)) := by
          intro n
          induction n with
          | zero => intro n0 hn0 hno hm; exact absurd hm (by omega)
          | succ n ih =>
            intro n0 hn0 hno hm
            refine v_iload_n C dX8_isWord_39 rfl 3 rfl ?_
            refine v_aload_n C dX8_isWord_40 rfl 1 rfl ?_
            refine v_callK (na := 0) (wy := (Cond.code yJ0_length_8abf5 cJ0_length_8abf5 1 (some .int) :: wsL_law)) (wc := []) (wr := (mW (vG X) ad F)) C [] [vI (n0 : Int)] (c_J0_length_8abf5 _ _ i b0 hi) rfl (gwV mw_239 mw_365 mw_236 mw_237 mw_238) rfl (by decide +kernel) hi rfl rfl Sb.rf rfl rfl dX8_isWord_41 (fun r w1 hp41_5 => ?_)
            obtain ⟨rfl, rfl⟩ := hp41_5
            show V X 0 0 44 [(0, .ref (ad 0)), (1, .ref ((vG X).1.2 i)), (2, vI 1), (3, vI (n0 : Int))] [vI (b0.length : Int), vI (n0 : Int)] ((mW (vG X) ad F))
            refine v_icmp_ge (tgt := 82) C dX8_isWord_44 (by decide) (by  first | assumption | exact ⟨by omega, by omega⟩) (by  first | assumption | exact ⟨by omega, by omega⟩) (fun c44 => ?_) (fun c44 => ?_)
            · skip
              refine v_iload_n C dX8_isWord_82 rfl 2 rfl ?_
              have en : n0 = b0.length := by omega
              exact v_zret C E rfl rfl dX8_isWord_83 (by decide) (by decide) (⟨by rw [bI_t (show wdM (F 0) (F 1) b0 from ⟨c4, c12, c28, eqK_t.mpr (fun j hj => hno j (by omega))⟩)], rfl⟩)
            · skip
              have hk : 0 ≤ chK b0 (n0 : Int) ∧ chK b0 (n0 : Int) < 128 := hb9.2 (n0 : Int).toNat (by omega)
              refine v_iload_n C dX8_isWord_47 rfl 2 rfl ?_
              refine v_if_eq (tgt := 82) C dX8_isWord_48 (by decide) (by decide) (fun c => absurd c (by decide)) (fun _ => ?_)
              refine v_aload_n C dX8_isWord_51 rfl 0 rfl ?_
              refine v_get (v := .ref (ad 1)) C inw_8 0 1 rfl (by decide) (List.mem_cons_of_mem _ mw_104) rfl rfl dX8_isWord_52 ?_
              refine v_aload_n C dX8_isWord_55 rfl 0 rfl ?_
              refine v_get (v := vI (F 0 4)) C inw_8 0 4 rfl (by decide) (List.mem_cons_of_mem _ mw_355) rfl rfl dX8_isWord_56 ?_
              refine v_iload_n C dX8_isWord_59 rfl 3 rfl ?_
              refine v_iadd C dX8_isWord_60 ?_
              refine v_bald C 1 rfl (by  omega) (by  omega) (by decide) dX8_isWord_61 ?_
              refine v_aload_n C dX8_isWord_62 rfl 1 rfl ?_
              refine v_iload_n C dX8_isWord_63 rfl 3 rfl ?_
              refine v_callK (na := 1) (wy := (Cond.code yJ0_charAt_5068e cJ0_charAt_5068e 2 (some .char) :: wsL_law)) (wc := []) (wr := (mW (vG X) ad F)) C [vI (n0 : Int)] [vI (F 1 ((F 0 4) + (n0 : Int)))] (c_J0_charAt_5068e _ _ i b0 (n0 : Int) hi (by omega) (by omega)) rfl (gwV mw_250 mw_366 mw_248 mw_249 mw_238) rfl (by decide +kernel) hi rfl rfl Sb.rf rfl rfl dX8_isWord_64 (fun r w1 hp64_6 => ?_)
              obtain ⟨rfl, rfl⟩ := hp64_6
              show V X 0 0 67 [(0, .ref (ad 0)), (1, .ref ((vG X).1.2 i)), (2, vI 1), (3, vI (n0 : Int))] [vI (chK b0 (n0 : Int)), vI (F 1 ((F 0 4) + (n0 : Int)))] ((mW (vG X) ad F))
              refine v_icmp_ne (tgt := 74) C dX8_isWord_67 (by decide) (by have := hB1 ((F 0 4) + (n0 : Int)); first | assumption | exact ⟨by omega, by omega⟩) (by  first | assumption | exact ⟨by omega, by omega⟩) (fun c67 => ?_) (fun c67 => ?_)
              · skip
                refine v_iconst C dX8_isWord_74 ?_
                refine v_istore_n C M dX8_isWord_75 rfl (by decide) (L' := [(2, vI 0), (0, .ref (ad 0)), (1, .ref ((vG X).1.2 i)), (3, vI (n0 : Int))]) rfl ?_
                refine v_iinc C M dX8_isWord_76 3 rfl (by decide) (z' := ((n0 : Int) + 1)) rfl (L' := [(3, vI ((n0 : Int) + 1)), (2, vI 0), (0, .ref (ad 0)), (1, .ref ((vG X).1.2 i))]) rfl ?_
                refine v_goto (tgt := 39) C dX8_isWord_79 (by decide) ?_
                refine V.loc (L' := [(0, .ref (ad 0)), (1, .ref ((vG X).1.2 i)), (2, vI 0), (3, vI ((n0 : Int) + 1))]) [2, 3, 1, 0] rfl ?_
                refine v_iload_n C dX8_isWord_39 rfl 3 rfl ?_
                refine v_aload_n C dX8_isWord_40 rfl 1 rfl ?_
                refine v_callK (na := 0) (wy := (Cond.code yJ0_length_8abf5 cJ0_length_8abf5 1 (some .int) :: wsL_law)) (wc := []) (wr := (mW (vG X) ad F)) C [] [vI ((n0 : Int) + 1)] (c_J0_length_8abf5 _ _ i b0 hi) rfl (gwV mw_239 mw_365 mw_236 mw_237 mw_238) rfl (by decide +kernel) hi rfl rfl Sb.rf rfl rfl dX8_isWord_41 (fun r w1 hp41_7 => ?_)
                obtain ⟨rfl, rfl⟩ := hp41_7
                show V X 0 0 44 [(0, .ref (ad 0)), (1, .ref ((vG X).1.2 i)), (2, vI 0), (3, vI ((n0 : Int) + 1))] [vI (b0.length : Int), vI ((n0 : Int) + 1)] ((mW (vG X) ad F))
                refine v_icmp_ge (tgt := 82) C dX8_isWord_44 (by decide) (by  first | assumption | exact ⟨by omega, by omega⟩) (by  first | assumption | exact ⟨by omega, by omega⟩) (fun c44 => ?_) (fun c44 => ?_)
                · skip
                  refine v_iload_n C dX8_isWord_82 rfl 2 rfl ?_
                  exact v_zret C E rfl rfl dX8_isWord_83 (by decide) (by decide) (⟨by rw [bI_f (fun h => c67 (eqK_t.mp h.2.2.2 n0 (by omega)))], rfl⟩)
                · skip
                  refine v_iload_n C dX8_isWord_47 rfl 2 rfl ?_
                  refine v_if_eq (tgt := 82) C dX8_isWord_48 (by decide) (by decide) (fun _ => ?_) (fun c => absurd (by decide) c)
                  refine v_iload_n C dX8_isWord_82 rfl 2 rfl ?_
                  exact v_zret C E rfl rfl dX8_isWord_83 (by decide) (by decide) (⟨by rw [bI_f (fun h => c67 (eqK_t.mp h.2.2.2 n0 (by omega)))], rfl⟩)
              · skip
                refine v_iconst C dX8_isWord_70 ?_
                refine v_goto (tgt := 75) C dX8_isWord_71 (by decide) ?_
                refine v_istore_n C M dX8_isWord_75 rfl (by decide) (L' := [(2, vI 1), (0, .ref (ad 0)), (1, .ref ((vG X).1.2 i)), (3, vI (n0 : Int))]) rfl ?_
                refine v_iinc C M dX8_isWord_76 3 rfl (by decide) (z' := ((n0 : Int) + 1)) rfl (L' := [(3, vI ((n0 : Int) + 1)), (2, vI 1), (0, .ref (ad 0)), (1, .ref ((vG X).1.2 i))]) rfl ?_
                refine v_goto (tgt := 39) C dX8_isWord_79 (by decide) ?_
                refine V.loc (L' := [(0, .ref (ad 0)), (1, .ref ((vG X).1.2 i)), (2, vI 1), (3, vI ((n0 : Int) + 1))]) [2, 3, 1, 0] rfl ?_
                have key := ih (n0 + 1) (by omega) (fun j hj => by
                  by_cases e : j = n0
                  · rw [e]; exact c67
                  · exact hno j (by omega)) (by omega)
                rw [show ((n0 + 1 : Nat) : Int) = (n0 : Int) + 1 by omega] at key
                exact key
        exact lp (b0.length + 1) 0 (by omega) (fun j hj => absurd hj (by omega)) (by omega)
end M11
