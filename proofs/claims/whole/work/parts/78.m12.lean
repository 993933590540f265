section M12
set_option maxHeartbeats 4000000 in
set_option maxRecDepth 100000 in
theorem c_X8_windowLine (G : GG) (l : Launch) (ad : Nat → Nat) (F : Int → Int → Int) (ho : RM (F 0)) (hB1 : sB 1000 (F 1))  : Ct G l yX8_windowLine (Cond.code yX8_windowLine cX8_windowLine 2 none :: wsL_law) 4 86 0 0 [.ref (ad 0)] ((mW G ad F)) (fun r w => r = none ∧ w = mW G ad (up (up F 0 (wlS (F 0) (F 1))) 2 (wlN (F 0) (F 1) (F 2)))) := by
  refine Ct.of (own := RX8) (cc := cX8_windowLine) (maxL := 2) (ret := none) (by decide) rfl rfl (Nat.le_of_ble_eq_true rfl) (fun X C E M hG hl => ?_)
  subst hG hl
  have ho0 := ho
  obtain ⟨⟨h4a, h45, h53, h3b⟩, ⟨h6a, h6b⟩, ⟨h7a, h7b⟩, ⟨h8a, h8b⟩, ⟨h9a, h9b⟩, hw0, hw1⟩ := ho0
  refine v_aload_n C dX8_windowLine_0 rfl 0 rfl ?_
  refine v_callV (na := 0) (wy := (Cond.code yX8_goOn cX8_goOn 1 none :: wsL_law)) (wc := (mW (vG X) ad F)) (wr := []) C [] [] (c_X8_goOn _ _ ad F ho hB1) rfl (gwV mw_374 mw_371 mw_372 mw_373 mw_5) rfl (by decide +kernel) 0 rfl rfl rfl rfl Sb.w rfl rfl dX8_windowLine_1 (fun r w1 hp1_1 => ?_)
  obtain ⟨rfl, rfl⟩ := hp1_1
  show V X 0 0 4 [(0, .ref (ad 0))] [] ((mW (vG X) ad (up F 0 (goM (F 0) (F 1)))))
  have rm2_ : RM (goM (F 0) (F 1)) := goM_ok ho hB1
  refine v_aload_n C dX8_windowLine_4 rfl 0 rfl ?_
  refine v_iconst C dX8_windowLine_5 ?_
  refine v_iconst C dX8_windowLine_6 ?_
  refine v_callV (na := 2) (wy := (Cond.code yX8_look cX8_look 3 (some .int) :: wsL_law)) (wc := (mW (vG X) ad (up F 0 (goM (F 0) (F 1))))) (wr := []) C [vI 0, vI 1] [] (c_X8_look _ _ ad (up F 0 (goM (F 0) (F 1))) 0 1 rm2_ hB1 (by decide)) rfl (gwV mw_382 mw_379 mw_380 mw_381 mw_5) rfl (by decide +kernel) 0 rfl rfl rfl rfl Sb.w rfl rfl dX8_windowLine_7 (fun r w1 hp7_3 => ?_)
  obtain ⟨rfl, rfl⟩ := hp7_3
  show V X 0 0 10 [(0, .ref (ad 0))] [vI (lkV (goM (F 0) (F 1)) 0 1)] ((mW (vG X) ad (up F 0 (lkM (goM (F 0) (F 1)) 0 1))))
  have rm4_ : RM (lkM (goM (F 0) (F 1)) 0 1) := lkM_ok rm2_
  obtain ⟨va5, vb5⟩ := lkV_in (s := (goM (F 0) (F 1))) (p := 0) (q := 1) (by decide)
  have est : (wlst (F 0) (F 1)) = lkV (goM (F 0) (F 1)) 0 1 := rfl
  rw [← est]
  show V X 0 0 10 [(0, .ref (ad 0))] [vI (wlst (F 0) (F 1))] ((mW (vG X) ad (up F 0 (lkM (goM (F 0) (F 1)) 0 1))))
  rw [← est] at va5 vb5
  have er6 : (wl2 (F 0) (F 1)) = (lkM (goM (F 0) (F 1)) 0 1) := rfl
  rw [← er6]
  show V X 0 0 10 [(0, .ref (ad 0))] [vI (wlst (F 0) (F 1))] ((mW (vG X) ad (up F 0 (wl2 (F 0) (F 1)))))
  have rm7_ : RM (wl2 (F 0) (F 1)) := lkM_ok (goM_ok ho hB1)
  refine v_istore_n C M dX8_windowLine_10 rfl (by decide) (L' := [(1, vI (wlst (F 0) (F 1))), (0, .ref (ad 0))]) rfl ?_
  have hs01 : (wlst (F 0) (F 1)) = 0 ∨ (wlst (F 0) (F 1)) = 1 := by omega
  rcases hs01 with es | es
  · skip
    rw [es]
    show V X 0 0 11 [(1, vI 0), (0, .ref (ad 0))] [] ((mW (vG X) ad (up F 0 (wl2 (F 0) (F 1)))))
    refine v_aload_n C dX8_windowLine_11 rfl 1 rfl ?_
    refine v_iload_n C dX8_windowLine_12 rfl 0 rfl ?_
    refine v_if_ne (tgt := 31) C dX8_windowLine_13 (by decide) (by decide) (fun c => absurd (by decide) c) (fun _ => ?_)
    refine v_aload_n C dX8_windowLine_16 rfl 1 rfl ?_
    refine v_get (v := vI ((wl2 (F 0) (F 1)) 17)) C inw_8 0 17 rfl (by decide) (List.mem_cons_of_mem _ mw_337) rfl rfl dX8_windowLine_17 ?_
    suffices mrg : V X 0 0 43 [(1, vI 0), (0, .ref (ad 0))] [vI (bI (((wl2 (F 0) (F 1)) 17) = 0)), .ref (ad 0)] ((mW (vG X) ad (up F 0 (wl2 (F 0) (F 1))))) by
      refine v_if_ne (tgt := 27) C dX8_windowLine_20 (by decide) (by have := RM_b17 rm7_; first | assumption | exact ⟨by omega, by omega⟩) (fun c20 => ?_) (fun c20 => ?_)
      · skip
        refine v_iconst C dX8_windowLine_27 ?_
        refine v_goto (tgt := 43) C dX8_windowLine_28 (by decide) ?_
        exact V.top (bI_f (by omega)).symm mrg
      · skip
        refine v_iconst C dX8_windowLine_23 ?_
        refine v_goto (tgt := 43) C dX8_windowLine_24 (by decide) ?_
        exact V.top (bI_t (by omega)).symm mrg
    refine v_iconst C dX8_windowLine_43 ?_
    refine v_callV (na := 2) (wy := (Cond.code yX8_must cX8_must 3 (some .boolean) :: wsL_law)) (wc := (mW (vG X) ad (up F 0 (wl2 (F 0) (F 1))))) (wr := []) C [vI (bI (((wl2 (F 0) (F 1)) 17) = 0)), vI 2] [] (c_X8_must _ _ ad (up F 0 (wl2 (F 0) (F 1))) (bI (((wl2 (F 0) (F 1)) 17) = 0)) 2 rm7_ hB1 bI_01 (by decide)) rfl (gwV mw_370 mw_367 mw_368 mw_369 mw_5) rfl (by decide +kernel) 0 rfl rfl rfl rfl Sb.w rfl rfl dX8_windowLine_44 (fun r w1 hp44_8 => ?_)
    obtain ⟨rfl, rfl⟩ := hp44_8
    show V X 0 0 47 [(1, vI 0), (0, .ref (ad 0))] [vI (bI ((wl2 (F 0) (F 1)) 8 = 0 ∧ ¬ (bI (((wl2 (F 0) (F 1)) 17) = 0)) = 0))] ((mW (vG X) ad (up F 0 (muM (wl2 (F 0) (F 1)) (bI (((wl2 (F 0) (F 1)) 17) = 0)) 2))))
    have rm9_ : RM (muM (wl2 (F 0) (F 1)) (bI (((wl2 (F 0) (F 1)) 17) = 0)) 2) := muM_ok rm7_ (by decide)
    have ec : (wlc (F 0) (F 1)) = (bI (((wl2 (F 0) (F 1)) 17) = 0)) := if_pos es
    refine v_if_ne (tgt := 51) C dX8_windowLine_47 (by decide) sm_bI (fun c47 => ?_) (fun c47 => ?_)
    · skip
      have c47 := bI_n0.mp c47
      rw [← ec] at c47
      have er10 : (wl3 (F 0) (F 1)) = (muM (wl2 (F 0) (F 1)) (bI (((wl2 (F 0) (F 1)) 17) = 0)) 2) := by unfold wl3; rw [ec]
      rw [← er10]
      show V X 0 0 51 [(1, vI 0), (0, .ref (ad 0))] [] ((mW (vG X) ad (up F 0 (wl3 (F 0) (F 1)))))
      have rm11_ : RM (wl3 (F 0) (F 1)) := muM_ok (lkM_ok (goM_ok ho hB1)) (by decide)
      refine v_aload_n C dX8_windowLine_51 rfl 1 rfl ?_
      refine v_aload_n C dX8_windowLine_52 rfl 1 rfl ?_
      refine v_get (v := vI ((wl3 (F 0) (F 1)) 17)) C inw_8 0 17 rfl (by decide) (List.mem_cons_of_mem _ mw_337) rfl rfl dX8_windowLine_53 ?_
      suffices mrg : V X 0 0 68 [(1, vI 0), (0, .ref (ad 0))] [vI (if ((wl3 (F 0) (F 1)) 17) = 0 then 1 else 1), .ref (ad 0)] ((mW (vG X) ad (up F 0 (wl3 (F 0) (F 1))))) by
        refine v_if_ne (tgt := 63) C dX8_windowLine_56 (by decide) (by have := RM_b17 rm11_; first | assumption | exact ⟨by omega, by omega⟩) (fun c56 => ?_) (fun c56 => ?_)
        · skip
          refine v_iconst C dX8_windowLine_63 ?_
          refine v_goto (tgt := 68) C dX8_windowLine_64 (by decide) ?_
          exact V.top (if_neg c56).symm mrg
        · skip
          refine v_iload_n C dX8_windowLine_59 rfl 0 rfl ?_
          refine v_if_ne (tgt := 67) C dX8_windowLine_60 (by decide) (by decide) (fun c => absurd (by decide) c) (fun _ => ?_)
          refine v_iconst C dX8_windowLine_63 ?_
          refine v_goto (tgt := 68) C dX8_windowLine_64 (by decide) ?_
          exact V.top (if_pos c56).symm mrg
      rw [ite_self]
      show V X 0 0 68 [(1, vI 0), (0, .ref (ad 0))] [vI 1, .ref (ad 0)] ((mW (vG X) ad (up F 0 (wl3 (F 0) (F 1)))))
      refine v_put C inw_8 tyX8 tyX8_ok nmX8 0 17 rfl (by decide) (List.mem_cons_of_mem _ mw_337) rfl rfl rfl rfl (Nat.le_of_ble_eq_true rfl) dX8_windowLine_68 (ws' := (mW (vG X) ad (up F 0 (up (wl3 (F 0) (F 1)) 17 1)))) rfl ?_
      refine v_aload_n C dX8_windowLine_71 rfl 1 rfl ?_
      refine v_aload_n C dX8_windowLine_72 rfl 1 rfl ?_
      refine v_get (v := vI ((wl3 (F 0) (F 1)) 18)) C inw_8 0 18 rfl (by decide) (List.mem_cons_of_mem _ mw_338) rfl rfl dX8_windowLine_73 ?_
      suffices mrg : V X 0 0 89 [(1, vI 0), (0, .ref (ad 0))] [vI (bI (¬ ((wl3 (F 0) (F 1)) 18) = 0)), .ref (ad 0)] ((mW (vG X) ad (up F 0 (up (wl3 (F 0) (F 1)) 17 1)))) by
        refine v_if_ne (tgt := 84) C dX8_windowLine_76 (by decide) (by have := RM_b18 rm11_; first | assumption | exact ⟨by omega, by omega⟩) (fun c76 => ?_) (fun c76 => ?_)
        · skip
          refine v_iconst C dX8_windowLine_84 ?_
          refine v_goto (tgt := 89) C dX8_windowLine_85 (by decide) ?_
          exact V.top (bI_t c76).symm mrg
        · skip
          refine v_iload_n C dX8_windowLine_79 rfl 0 rfl ?_
          refine v_iconst C dX8_windowLine_80 ?_
          refine v_icmp_ne (tgt := 88) C dX8_windowLine_81 (by decide) (by decide) (by decide) (fun _ => ?_) (fun c => absurd c (by decide))
          refine v_iconst C dX8_windowLine_88 ?_
          exact V.top (bI_f (fun x => x c76)).symm mrg
      refine v_put C inw_8 tyX8 tyX8_ok nmX8 0 18 rfl (by decide) (List.mem_cons_of_mem _ mw_338) rfl rfl nb_bI fb_bI (Nat.le_of_ble_eq_true rfl) dX8_windowLine_89 (ws' := (mW (vG X) ad (up F 0 (up (up (wl3 (F 0) (F 1)) 17 1) 18 (bI (¬ ((wl3 (F 0) (F 1)) 18) = 0)))))) rfl ?_
      have er12 : (wl4 (wlst (F 0) (F 1)) (wl3 (F 0) (F 1))) = (up (up (wl3 (F 0) (F 1)) 17 1) 18 (bI (¬ ((wl3 (F 0) (F 1)) 18) = 0))) := if_pos es
      rw [← er12]
      show V X 0 0 92 [(1, vI 0), (0, .ref (ad 0))] [] ((mW (vG X) ad (up F 0 (wl4 (wlst (F 0) (F 1)) (wl3 (F 0) (F 1))))))
      have rm13_ : RM (wl4 (wlst (F 0) (F 1)) (wl3 (F 0) (F 1))) := wl4_ok (muM_ok (lkM_ok (goM_ok ho hB1)) (by decide))
      refine v_aload_n C dX8_windowLine_92 rfl 1 rfl ?_
      refine v_callV (na := 0) (wy := (Cond.code yX8_goOn cX8_goOn 1 none :: wsL_law)) (wc := (mW (vG X) ad (up F 0 (wl4 (wlst (F 0) (F 1)) (wl3 (F 0) (F 1)))))) (wr := []) C [] [] (c_X8_goOn _ _ ad (up F 0 (wl4 (wlst (F 0) (F 1)) (wl3 (F 0) (F 1)))) rm13_ hB1) rfl (gwV mw_374 mw_371 mw_372 mw_373 mw_5) rfl (by decide +kernel) 0 rfl rfl rfl rfl Sb.w rfl rfl dX8_windowLine_93 (fun r w1 hp93_14 => ?_)
      obtain ⟨rfl, rfl⟩ := hp93_14
      show V X 0 0 96 [(1, vI 0), (0, .ref (ad 0))] [] ((mW (vG X) ad (up F 0 (goM (wl4 (wlst (F 0) (F 1)) (wl3 (F 0) (F 1))) (F 1)))))
      have rm15_ : RM (goM (wl4 (wlst (F 0) (F 1)) (wl3 (F 0) (F 1))) (F 1)) := goM_ok rm13_ hB1
      refine v_aload_n C dX8_windowLine_96 rfl 1 rfl ?_
      refine v_get (v := .ref (ad 2)) C inw_8 0 10 rfl (by decide) (List.mem_cons_of_mem _ mw_105) rfl rfl dX8_windowLine_97 ?_
      refine v_iload_n C dX8_windowLine_100 rfl 0 rfl ?_
      refine v_iconst C dX8_windowLine_101 ?_
      refine v_callS (na := 2) (wy := (Cond.code yX8_at cX8_at 2 (some .int) :: wsL_law)) (wc := []) (wr := (mW (vG X) ad (up F 0 (goM (wl4 (wlst (F 0) (F 1)) (wl3 (F 0) (F 1))) (F 1))))) C [vI 0, vI 3] [.ref (ad 2)] (c_X8_at _ _ 0 3 ) rfl (gwS mw_120 mw_118 mw_119 mw_5) (by decide +kernel) rfl rfl Sb.rf rfl rfl dX8_windowLine_102 (fun r w1 hp102_16 => ?_)
      obtain ⟨rfl, rfl⟩ := hp102_16
      show V X 0 0 105 [(1, vI 0), (0, .ref (ad 0))] [vI 21, .ref (ad 2)] ((mW (vG X) ad (up F 0 (goM (wl4 (wlst (F 0) (F 1)) (wl3 (F 0) (F 1))) (F 1)))))
      refine v_aload_n C dX8_windowLine_105 rfl 1 rfl ?_
      refine v_iconst C dX8_windowLine_106 ?_
      refine v_bipush C dX8_windowLine_107 (by decide +kernel) ?_
      refine v_callV (na := 2) (wy := (Cond.code yX8_takes cX8_takes 4 (some .int) :: wsL_law)) (wc := (mW (vG X) ad (up F 0 (goM (wl4 (wlst (F 0) (F 1)) (wl3 (F 0) (F 1))) (F 1))))) (wr := []) C [vI 1, vI 9] [vI 21, .ref (ad 2)] (c_X8_takes _ _ ad (up F 0 (goM (wl4 (wlst (F 0) (F 1)) (wl3 (F 0) (F 1))) (F 1))) 1 9 rm15_ hB1 (by decide)) rfl (gwV mw_378 mw_375 mw_376 mw_377 mw_5) rfl (by decide +kernel) 0 rfl rfl rfl rfl Sb.w rfl rfl dX8_windowLine_109 (fun r w1 hp109_17 => ?_)
      obtain ⟨rfl, rfl⟩ := hp109_17
      show V X 0 0 112 [(1, vI 0), (0, .ref (ad 0))] [vI (lkV (goM (wl4 (wlst (F 0) (F 1)) (wl3 (F 0) (F 1))) (F 1)) 1 9), vI 21, .ref (ad 2)] ((mW (vG X) ad (up F 0 (tkM (goM (wl4 (wlst (F 0) (F 1)) (wl3 (F 0) (F 1))) (F 1)) (F 1) 1 9))))
      have rm18_ : RM (tkM (goM (wl4 (wlst (F 0) (F 1)) (wl3 (F 0) (F 1))) (F 1)) (F 1) 1 9) := tkM_ok rm15_ hB1
      obtain ⟨va19, vb19⟩ := lkV_in (s := (goM (wl4 (wlst (F 0) (F 1)) (wl3 (F 0) (F 1))) (F 1))) (p := 1) (q := 9) (by decide)
      refine v_iast C 2 rfl (by decide) (by decide) (by decide) dX8_windowLine_112 (ws' := (mW (vG X) ad (up (up F 0 (tkM (goM (wl4 (wlst (F 0) (F 1)) (wl3 (F 0) (F 1))) (F 1)) (F 1) 1 9)) 2 (up (F 2) 21 (lkV (goM (wl4 (wlst (F 0) (F 1)) (wl3 (F 0) (F 1))) (F 1)) 1 9))))) rfl ?_
      exact v_vret C E rfl dX8_windowLine_113 (by decide) (by decide) (⟨rfl, by rw [show (wlS (F 0) (F 1)) = _ from if_pos c47, show (wlN (F 0) (F 1) (F 2)) = _ from if_pos c47, show 18 + 11 * (wlst (F 0) (F 1)) + 3 = 21 by omega] <;> rfl⟩)
    · skip
      have c47 := bI_0.mp c47
      rw [← ec] at c47
      have er20 : (wl3 (F 0) (F 1)) = (muM (wl2 (F 0) (F 1)) (bI (((wl2 (F 0) (F 1)) 17) = 0)) 2) := by unfold wl3; rw [ec]
      rw [← er20]
      show V X 0 0 50 [(1, vI 0), (0, .ref (ad 0))] [] ((mW (vG X) ad (up F 0 (wl3 (F 0) (F 1)))))
      exact v_vret C E rfl dX8_windowLine_50 (by decide) (by decide) (⟨rfl, by rw [show (wlS (F 0) (F 1)) = _ from if_neg c47, show (wlN (F 0) (F 1) (F 2)) = _ from if_neg c47] <;> rfl⟩)
  · skip
    rw [es]
    show V X 0 0 11 [(1, vI 1), (0, .ref (ad 0))] [] ((mW (vG X) ad (up F 0 (wl2 (F 0) (F 1)))))
    refine v_aload_n C dX8_windowLine_11 rfl 1 rfl ?_
    refine v_iload_n C dX8_windowLine_12 rfl 0 rfl ?_
    refine v_if_ne (tgt := 31) C dX8_windowLine_13 (by decide) (by decide) (fun _ => ?_) (fun c => absurd c (by decide))
    refine v_aload_n C dX8_windowLine_31 rfl 1 rfl ?_
    refine v_get (v := vI ((wl2 (F 0) (F 1)) 18)) C inw_8 0 18 rfl (by decide) (List.mem_cons_of_mem _ mw_338) rfl rfl dX8_windowLine_32 ?_
    suffices mrg : V X 0 0 43 [(1, vI 1), (0, .ref (ad 0))] [vI (bI (((wl2 (F 0) (F 1)) 18) = 0)), .ref (ad 0)] ((mW (vG X) ad (up F 0 (wl2 (F 0) (F 1))))) by
      refine v_if_ne (tgt := 42) C dX8_windowLine_35 (by decide) (by have := RM_b18 rm7_; first | assumption | exact ⟨by omega, by omega⟩) (fun c35 => ?_) (fun c35 => ?_)
      · skip
        refine v_iconst C dX8_windowLine_42 ?_
        exact V.top (bI_f (by omega)).symm mrg
      · skip
        refine v_iconst C dX8_windowLine_38 ?_
        refine v_goto (tgt := 43) C dX8_windowLine_39 (by decide) ?_
        exact V.top (bI_t (by omega)).symm mrg
    refine v_iconst C dX8_windowLine_43 ?_
    refine v_callV (na := 2) (wy := (Cond.code yX8_must cX8_must 3 (some .boolean) :: wsL_law)) (wc := (mW (vG X) ad (up F 0 (wl2 (F 0) (F 1))))) (wr := []) C [vI (bI (((wl2 (F 0) (F 1)) 18) = 0)), vI 2] [] (c_X8_must _ _ ad (up F 0 (wl2 (F 0) (F 1))) (bI (((wl2 (F 0) (F 1)) 18) = 0)) 2 rm7_ hB1 bI_01 (by decide)) rfl (gwV mw_370 mw_367 mw_368 mw_369 mw_5) rfl (by decide +kernel) 0 rfl rfl rfl rfl Sb.w rfl rfl dX8_windowLine_44 (fun r w1 hp44_21 => ?_)
    obtain ⟨rfl, rfl⟩ := hp44_21
    show V X 0 0 47 [(1, vI 1), (0, .ref (ad 0))] [vI (bI ((wl2 (F 0) (F 1)) 8 = 0 ∧ ¬ (bI (((wl2 (F 0) (F 1)) 18) = 0)) = 0))] ((mW (vG X) ad (up F 0 (muM (wl2 (F 0) (F 1)) (bI (((wl2 (F 0) (F 1)) 18) = 0)) 2))))
    have rm22_ : RM (muM (wl2 (F 0) (F 1)) (bI (((wl2 (F 0) (F 1)) 18) = 0)) 2) := muM_ok rm7_ (by decide)
    have ec : (wlc (F 0) (F 1)) = (bI (((wl2 (F 0) (F 1)) 18) = 0)) := if_neg (show ¬ (wlst (F 0) (F 1)) = 0 by omega)
    refine v_if_ne (tgt := 51) C dX8_windowLine_47 (by decide) sm_bI (fun c47 => ?_) (fun c47 => ?_)
    · skip
      have c47 := bI_n0.mp c47
      rw [← ec] at c47
      have er23 : (wl3 (F 0) (F 1)) = (muM (wl2 (F 0) (F 1)) (bI (((wl2 (F 0) (F 1)) 18) = 0)) 2) := by unfold wl3; rw [ec]
      rw [← er23]
      show V X 0 0 51 [(1, vI 1), (0, .ref (ad 0))] [] ((mW (vG X) ad (up F 0 (wl3 (F 0) (F 1)))))
      have rm24_ : RM (wl3 (F 0) (F 1)) := muM_ok (lkM_ok (goM_ok ho hB1)) (by decide)
      refine v_aload_n C dX8_windowLine_51 rfl 1 rfl ?_
      refine v_aload_n C dX8_windowLine_52 rfl 1 rfl ?_
      refine v_get (v := vI ((wl3 (F 0) (F 1)) 17)) C inw_8 0 17 rfl (by decide) (List.mem_cons_of_mem _ mw_337) rfl rfl dX8_windowLine_53 ?_
      suffices mrg : V X 0 0 68 [(1, vI 1), (0, .ref (ad 0))] [vI (bI (¬ ((wl3 (F 0) (F 1)) 17) = 0)), .ref (ad 0)] ((mW (vG X) ad (up F 0 (wl3 (F 0) (F 1))))) by
        refine v_if_ne (tgt := 63) C dX8_windowLine_56 (by decide) (by have := RM_b17 rm24_; first | assumption | exact ⟨by omega, by omega⟩) (fun c56 => ?_) (fun c56 => ?_)
        · skip
          refine v_iconst C dX8_windowLine_63 ?_
          refine v_goto (tgt := 68) C dX8_windowLine_64 (by decide) ?_
          exact V.top (bI_t c56).symm mrg
        · skip
          refine v_iload_n C dX8_windowLine_59 rfl 0 rfl ?_
          refine v_if_ne (tgt := 67) C dX8_windowLine_60 (by decide) (by decide) (fun _ => ?_) (fun c => absurd c (by decide))
          refine v_iconst C dX8_windowLine_67 ?_
          exact V.top (bI_f (fun x => x c56)).symm mrg
      refine v_put C inw_8 tyX8 tyX8_ok nmX8 0 17 rfl (by decide) (List.mem_cons_of_mem _ mw_337) rfl rfl nb_bI fb_bI (Nat.le_of_ble_eq_true rfl) dX8_windowLine_68 (ws' := (mW (vG X) ad (up F 0 (up (wl3 (F 0) (F 1)) 17 (bI (¬ ((wl3 (F 0) (F 1)) 17) = 0)))))) rfl ?_
      refine v_aload_n C dX8_windowLine_71 rfl 1 rfl ?_
      refine v_aload_n C dX8_windowLine_72 rfl 1 rfl ?_
      refine v_get (v := vI ((wl3 (F 0) (F 1)) 18)) C inw_8 0 18 rfl (by decide) (List.mem_cons_of_mem _ mw_338) rfl rfl dX8_windowLine_73 ?_
      suffices mrg : V X 0 0 89 [(1, vI 1), (0, .ref (ad 0))] [vI (if ((wl3 (F 0) (F 1)) 18) = 0 then 1 else 1), .ref (ad 0)] ((mW (vG X) ad (up F 0 (up (wl3 (F 0) (F 1)) 17 (bI (¬ ((wl3 (F 0) (F 1)) 17) = 0)))))) by
        refine v_if_ne (tgt := 84) C dX8_windowLine_76 (by decide) (by have := RM_b18 rm24_; first | assumption | exact ⟨by omega, by omega⟩) (fun c76 => ?_) (fun c76 => ?_)
        · skip
          refine v_iconst C dX8_windowLine_84 ?_
          refine v_goto (tgt := 89) C dX8_windowLine_85 (by decide) ?_
          exact V.top (if_neg c76).symm mrg
        · skip
          refine v_iload_n C dX8_windowLine_79 rfl 0 rfl ?_
          refine v_iconst C dX8_windowLine_80 ?_
          refine v_icmp_ne (tgt := 88) C dX8_windowLine_81 (by decide) (by decide) (by decide) (fun c => absurd (by decide) c) (fun _ => ?_)
          refine v_iconst C dX8_windowLine_84 ?_
          refine v_goto (tgt := 89) C dX8_windowLine_85 (by decide) ?_
          exact V.top (if_pos c76).symm mrg
      rw [ite_self]
      show V X 0 0 89 [(1, vI 1), (0, .ref (ad 0))] [vI 1, .ref (ad 0)] ((mW (vG X) ad (up F 0 (up (wl3 (F 0) (F 1)) 17 (bI (¬ ((wl3 (F 0) (F 1)) 17) = 0))))))
      refine v_put C inw_8 tyX8 tyX8_ok nmX8 0 18 rfl (by decide) (List.mem_cons_of_mem _ mw_338) rfl rfl rfl rfl (Nat.le_of_ble_eq_true rfl) dX8_windowLine_89 (ws' := (mW (vG X) ad (up F 0 (up (up (wl3 (F 0) (F 1)) 17 (bI (¬ ((wl3 (F 0) (F 1)) 17) = 0))) 18 1)))) rfl ?_
      have er25 : (wl4 (wlst (F 0) (F 1)) (wl3 (F 0) (F 1))) = (up (up (wl3 (F 0) (F 1)) 17 (bI (¬ ((wl3 (F 0) (F 1)) 17) = 0))) 18 1) := if_neg (show ¬ (wlst (F 0) (F 1)) = 0 by omega)
      rw [← er25]
      show V X 0 0 92 [(1, vI 1), (0, .ref (ad 0))] [] ((mW (vG X) ad (up F 0 (wl4 (wlst (F 0) (F 1)) (wl3 (F 0) (F 1))))))
      have rm26_ : RM (wl4 (wlst (F 0) (F 1)) (wl3 (F 0) (F 1))) := wl4_ok (muM_ok (lkM_ok (goM_ok ho hB1)) (by decide))
      refine v_aload_n C dX8_windowLine_92 rfl 1 rfl ?_
      refine v_callV (na := 0) (wy := (Cond.code yX8_goOn cX8_goOn 1 none :: wsL_law)) (wc := (mW (vG X) ad (up F 0 (wl4 (wlst (F 0) (F 1)) (wl3 (F 0) (F 1)))))) (wr := []) C [] [] (c_X8_goOn _ _ ad (up F 0 (wl4 (wlst (F 0) (F 1)) (wl3 (F 0) (F 1)))) rm26_ hB1) rfl (gwV mw_374 mw_371 mw_372 mw_373 mw_5) rfl (by decide +kernel) 0 rfl rfl rfl rfl Sb.w rfl rfl dX8_windowLine_93 (fun r w1 hp93_27 => ?_)
      obtain ⟨rfl, rfl⟩ := hp93_27
      show V X 0 0 96 [(1, vI 1), (0, .ref (ad 0))] [] ((mW (vG X) ad (up F 0 (goM (wl4 (wlst (F 0) (F 1)) (wl3 (F 0) (F 1))) (F 1)))))
      have rm28_ : RM (goM (wl4 (wlst (F 0) (F 1)) (wl3 (F 0) (F 1))) (F 1)) := goM_ok rm26_ hB1
      refine v_aload_n C dX8_windowLine_96 rfl 1 rfl ?_
      refine v_get (v := .ref (ad 2)) C inw_8 0 10 rfl (by decide) (List.mem_cons_of_mem _ mw_105) rfl rfl dX8_windowLine_97 ?_
      refine v_iload_n C dX8_windowLine_100 rfl 0 rfl ?_
      refine v_iconst C dX8_windowLine_101 ?_
      refine v_callS (na := 2) (wy := (Cond.code yX8_at cX8_at 2 (some .int) :: wsL_law)) (wc := []) (wr := (mW (vG X) ad (up F 0 (goM (wl4 (wlst (F 0) (F 1)) (wl3 (F 0) (F 1))) (F 1))))) C [vI 1, vI 3] [.ref (ad 2)] (c_X8_at _ _ 1 3 ) rfl (gwS mw_120 mw_118 mw_119 mw_5) (by decide +kernel) rfl rfl Sb.rf rfl rfl dX8_windowLine_102 (fun r w1 hp102_29 => ?_)
      obtain ⟨rfl, rfl⟩ := hp102_29
      show V X 0 0 105 [(1, vI 1), (0, .ref (ad 0))] [vI 32, .ref (ad 2)] ((mW (vG X) ad (up F 0 (goM (wl4 (wlst (F 0) (F 1)) (wl3 (F 0) (F 1))) (F 1)))))
      refine v_aload_n C dX8_windowLine_105 rfl 1 rfl ?_
      refine v_iconst C dX8_windowLine_106 ?_
      refine v_bipush C dX8_windowLine_107 (by decide +kernel) ?_
      refine v_callV (na := 2) (wy := (Cond.code yX8_takes cX8_takes 4 (some .int) :: wsL_law)) (wc := (mW (vG X) ad (up F 0 (goM (wl4 (wlst (F 0) (F 1)) (wl3 (F 0) (F 1))) (F 1))))) (wr := []) C [vI 1, vI 9] [vI 32, .ref (ad 2)] (c_X8_takes _ _ ad (up F 0 (goM (wl4 (wlst (F 0) (F 1)) (wl3 (F 0) (F 1))) (F 1))) 1 9 rm28_ hB1 (by decide)) rfl (gwV mw_378 mw_375 mw_376 mw_377 mw_5) rfl (by decide +kernel) 0 rfl rfl rfl rfl Sb.w rfl rfl dX8_windowLine_109 (fun r w1 hp109_30 => ?_)
      obtain ⟨rfl, rfl⟩ := hp109_30
      show V X 0 0 112 [(1, vI 1), (0, .ref (ad 0))] [vI (lkV (goM (wl4 (wlst (F 0) (F 1)) (wl3 (F 0) (F 1))) (F 1)) 1 9), vI 32, .ref (ad 2)] ((mW (vG X) ad (up F 0 (tkM (goM (wl4 (wlst (F 0) (F 1)) (wl3 (F 0) (F 1))) (F 1)) (F 1) 1 9))))
      have rm31_ : RM (tkM (goM (wl4 (wlst (F 0) (F 1)) (wl3 (F 0) (F 1))) (F 1)) (F 1) 1 9) := tkM_ok rm28_ hB1
      obtain ⟨va32, vb32⟩ := lkV_in (s := (goM (wl4 (wlst (F 0) (F 1)) (wl3 (F 0) (F 1))) (F 1))) (p := 1) (q := 9) (by decide)
      refine v_iast C 2 rfl (by decide) (by decide) (by decide) dX8_windowLine_112 (ws' := (mW (vG X) ad (up (up F 0 (tkM (goM (wl4 (wlst (F 0) (F 1)) (wl3 (F 0) (F 1))) (F 1)) (F 1) 1 9)) 2 (up (F 2) 32 (lkV (goM (wl4 (wlst (F 0) (F 1)) (wl3 (F 0) (F 1))) (F 1)) 1 9))))) rfl ?_
      exact v_vret C E rfl dX8_windowLine_113 (by decide) (by decide) (⟨rfl, by rw [show (wlS (F 0) (F 1)) = _ from if_pos c47, show (wlN (F 0) (F 1) (F 2)) = _ from if_pos c47, show 18 + 11 * (wlst (F 0) (F 1)) + 3 = 32 by omega] <;> rfl⟩)
    · skip
      have c47 := bI_0.mp c47
      rw [← ec] at c47
      have er33 : (wl3 (F 0) (F 1)) = (muM (wl2 (F 0) (F 1)) (bI (((wl2 (F 0) (F 1)) 18) = 0)) 2) := by unfold wl3; rw [ec]
      rw [← er33]
      show V X 0 0 50 [(1, vI 1), (0, .ref (ad 0))] [] ((mW (vG X) ad (up F 0 (wl3 (F 0) (F 1)))))
      exact v_vret C E rfl dX8_windowLine_50 (by decide) (by decide) (⟨rfl, by rw [show (wlS (F 0) (F 1)) = _ from if_neg c47, show (wlN (F 0) (F 1) (F 2)) = _ from if_neg c47] <;> rfl⟩)
set_option maxHeartbeats 4000000 in
set_option maxRecDepth 100000 in
theorem c_X8_loseLine (G : GG) (l : Launch) (ad : Nat → Nat) (F : Int → Int → Int) (ho : RM (F 0)) (hB1 : sB 1000 (F 1)) (hB2 : sB 1073741824 (F 2)) (h70 : 0 ≤ F 2 7) (h7 : F 2 7 ≤ 40) : Ct G l yX8_loseLine (Cond.code yX8_loseLine cX8_loseLine 2 none :: wsL_law) 3 63 0 0 [.ref (ad 0)] ((mW G ad F)) (fun r w => r = none ∧ w = mW G ad (up (up F 0 (llS (F 0) (F 1) (F 2))) 2 (llN (F 0) (F 1) (F 2)))) := by
  refine Ct.of (own := RX8) (cc := cX8_loseLine) (maxL := 2) (ret := none) (by decide) rfl rfl (Nat.le_of_ble_eq_true rfl) (fun X C E M hG hl => ?_)
  subst hG hl
  have ho0 := ho
  obtain ⟨⟨h4a, h45, h53, h3b⟩, ⟨h6a, h6b⟩, ⟨h7a, h7b⟩, ⟨h8a, h8b⟩, ⟨h9a, h9b⟩, hw0, hw1⟩ := ho0
  have h740 := h7
  have h7 : F 2 7 ≤ 41 := by omega
  refine v_aload_n C dX8_loseLine_0 rfl 0 rfl ?_
  refine v_aload_n C dX8_loseLine_1 rfl 0 rfl ?_
  refine v_get (v := .ref (ad 2)) C inw_8 0 10 rfl (by decide) (List.mem_cons_of_mem _ mw_105) rfl rfl dX8_loseLine_2 ?_
  refine v_bipush C dX8_loseLine_5 (by decide +kernel) ?_
  refine v_iald C 2 rfl (by decide) (by decide) (by decide) dX8_loseLine_7 ?_
  refine v_bipush C dX8_loseLine_8 (by decide +kernel) ?_
  suffices mrg : V X 0 0 18 [(0, .ref (ad 0))] [vI (bI ((F 2 7) < 20)), .ref (ad 0)] ((mW (vG X) ad F)) by
    refine v_icmp_ge (tgt := 17) C dX8_loseLine_10 (by decide) (by have := hB2 7; first | assumption | exact ⟨by omega, by omega⟩) (by decide) (fun c10 => ?_) (fun c10 => ?_)
    · skip
      refine v_iconst C dX8_loseLine_17 ?_
      exact V.top (bI_f (by omega)).symm mrg
    · skip
      refine v_iconst C dX8_loseLine_13 ?_
      refine v_goto (tgt := 18) C dX8_loseLine_14 (by decide) ?_
      exact V.top (bI_t (by omega)).symm mrg
  refine v_iconst C dX8_loseLine_18 ?_
  refine v_callV (na := 2) (wy := (Cond.code yX8_must cX8_must 3 (some .boolean) :: wsL_law)) (wc := (mW (vG X) ad F)) (wr := []) C [vI (bI ((F 2 7) < 20)), vI 4] [] (c_X8_must _ _ ad F (bI ((F 2 7) < 20)) 4 ho hB1 bI_01 (by decide)) rfl (gwV mw_370 mw_367 mw_368 mw_369 mw_5) rfl (by decide +kernel) 0 rfl rfl rfl rfl Sb.w rfl rfl dX8_loseLine_19 (fun r w1 hp19_1 => ?_)
  obtain ⟨rfl, rfl⟩ := hp19_1
  show V X 0 0 22 [(0, .ref (ad 0))] [vI (bI ((F 0) 8 = 0 ∧ ¬ (bI ((F 2 7) < 20)) = 0))] ((mW (vG X) ad (up F 0 (muM (F 0) (bI ((F 2 7) < 20)) 4))))
  have rm2_ : RM (muM (F 0) (bI ((F 2 7) < 20)) 4) := muM_ok ho (by decide)
  refine v_if_ne (tgt := 26) C dX8_loseLine_22 (by decide) sm_bI (fun c22 => ?_) (fun c22 => ?_)
  · skip
    have c22 := bI_n0.mp c22
    refine v_aload_n C dX8_loseLine_26 rfl 0 rfl ?_
    refine v_callV (na := 0) (wy := (Cond.code yX8_goOn cX8_goOn 1 none :: wsL_law)) (wc := (mW (vG X) ad (up F 0 (muM (F 0) (bI ((F 2 7) < 20)) 4)))) (wr := []) C [] [] (c_X8_goOn _ _ ad (up F 0 (muM (F 0) (bI ((F 2 7) < 20)) 4)) rm2_ hB1) rfl (gwV mw_374 mw_371 mw_372 mw_373 mw_5) rfl (by decide +kernel) 0 rfl rfl rfl rfl Sb.w rfl rfl dX8_loseLine_27 (fun r w1 hp27_3 => ?_)
    obtain ⟨rfl, rfl⟩ := hp27_3
    show V X 0 0 30 [(0, .ref (ad 0))] [] ((mW (vG X) ad (up F 0 (goM (muM (F 0) (bI ((F 2 7) < 20)) 4) (F 1)))))
    have rm4_ : RM (goM (muM (F 0) (bI ((F 2 7) < 20)) 4) (F 1)) := goM_ok rm2_ hB1
    refine v_aload_n C dX8_loseLine_30 rfl 0 rfl ?_
    refine v_iconst C dX8_loseLine_31 ?_
    refine v_sipush C dX8_loseLine_32 (by decide +kernel) ?_
    refine v_callV (na := 2) (wy := (Cond.code yX8_look cX8_look 3 (some .int) :: wsL_law)) (wc := (mW (vG X) ad (up F 0 (goM (muM (F 0) (bI ((F 2 7) < 20)) 4) (F 1))))) (wr := []) C [vI 0, vI 499] [] (c_X8_look _ _ ad (up F 0 (goM (muM (F 0) (bI ((F 2 7) < 20)) 4) (F 1))) 0 499 rm4_ hB1 (by decide)) rfl (gwV mw_382 mw_379 mw_380 mw_381 mw_5) rfl (by decide +kernel) 0 rfl rfl rfl rfl Sb.w rfl rfl dX8_loseLine_35 (fun r w1 hp35_5 => ?_)
    obtain ⟨rfl, rfl⟩ := hp35_5
    show V X 0 0 38 [(0, .ref (ad 0))] [vI (lkV (goM (muM (F 0) (bI ((F 2 7) < 20)) 4) (F 1)) 0 499)] ((mW (vG X) ad (up F 0 (lkM (goM (muM (F 0) (bI ((F 2 7) < 20)) 4) (F 1)) 0 499))))
    have rm6_ : RM (lkM (goM (muM (F 0) (bI ((F 2 7) < 20)) 4) (F 1)) 0 499) := lkM_ok rm4_
    obtain ⟨va7, vb7⟩ := lkV_in (s := (goM (muM (F 0) (bI ((F 2 7) < 20)) 4) (F 1))) (p := 0) (q := 499) (by decide)
    have efr : (llf (F 0) (F 1) (F 2)) = lkV (goM (muM (F 0) (bI (F 2 7 < 20)) 4) (F 1)) 0 499 := rfl
    rw [← efr]
    show V X 0 0 38 [(0, .ref (ad 0))] [vI (llf (F 0) (F 1) (F 2))] ((mW (vG X) ad (up F 0 (lkM (goM (muM (F 0) (bI ((F 2 7) < 20)) 4) (F 1)) 0 499))))
    rw [← efr] at va7 vb7
    have er8 : (ll3 (F 0) (F 1) (F 2)) = (lkM (goM (muM (F 0) (bI ((F 2 7) < 20)) 4) (F 1)) 0 499) := rfl
    rw [← er8]
    show V X 0 0 38 [(0, .ref (ad 0))] [vI (llf (F 0) (F 1) (F 2))] ((mW (vG X) ad (up F 0 (ll3 (F 0) (F 1) (F 2)))))
    have rm9_ : RM (ll3 (F 0) (F 1) (F 2)) := lkM_ok (goM_ok (muM_ok ho (by decide)) hB1)
    refine v_istore_n C M dX8_loseLine_38 rfl (by decide) (L' := [(1, vI (llf (F 0) (F 1) (F 2))), (0, .ref (ad 0))]) rfl ?_
    refine v_aload_n C dX8_loseLine_39 rfl 1 rfl ?_
    refine v_aload_n C dX8_loseLine_40 rfl 1 rfl ?_
    refine v_iload_n C dX8_loseLine_41 rfl 0 rfl ?_
    refine v_callV (na := 1) (wy := (Cond.code yX8_isLost cX8_isLost 4 (some .boolean) :: wsL_law)) (wc := (mW (vG X) ad (up F 0 (ll3 (F 0) (F 1) (F 2))))) (wr := []) C [vI (llf (F 0) (F 1) (F 2))] [.ref (ad 0)] (c_X8_isLost _ _ ad (up F 0 (ll3 (F 0) (F 1) (F 2))) (llf (F 0) (F 1) (F 2)) hB2 ⟨by omega, by omega⟩ h70 h7) rfl (gwV mw_408 mw_405 mw_406 mw_407 mw_5) rfl (by decide +kernel) 0 rfl rfl rfl rfl Sb.w rfl rfl dX8_loseLine_42 (fun r w1 hp42_10 => ?_)
    obtain ⟨rfl, rfl⟩ := hp42_10
    show V X 0 0 45 [(1, vI (llf (F 0) (F 1) (F 2))), (0, .ref (ad 0))] [vI (lz (F 2) (llf (F 0) (F 1) (F 2))), .ref (ad 0)] ((mW (vG X) ad (up F 0 (ll3 (F 0) (F 1) (F 2)))))
    have lz11 := lz_01 (F 2) (llf (F 0) (F 1) (F 2))
    suffices mrg : V X 0 0 53 [(1, vI (llf (F 0) (F 1) (F 2))), (0, .ref (ad 0))] [vI (bI ((lz (F 2) (llf (F 0) (F 1) (F 2))) = 0)), .ref (ad 0)] ((mW (vG X) ad (up F 0 (ll3 (F 0) (F 1) (F 2))))) by
      refine v_if_ne (tgt := 52) C dX8_loseLine_45 (by decide) (by  first | assumption | exact ⟨by omega, by omega⟩) (fun c45 => ?_) (fun c45 => ?_)
      · skip
        refine v_iconst C dX8_loseLine_52 ?_
        exact V.top (bI_f (by omega)).symm mrg
      · skip
        refine v_iconst C dX8_loseLine_48 ?_
        refine v_goto (tgt := 53) C dX8_loseLine_49 (by decide) ?_
        exact V.top (bI_t (by omega)).symm mrg
    refine v_iconst C dX8_loseLine_53 ?_
    refine v_callV (na := 2) (wy := (Cond.code yX8_must cX8_must 3 (some .boolean) :: wsL_law)) (wc := (mW (vG X) ad (up F 0 (ll3 (F 0) (F 1) (F 2))))) (wr := []) C [vI (bI ((lz (F 2) (llf (F 0) (F 1) (F 2))) = 0)), vI 2] [] (c_X8_must _ _ ad (up F 0 (ll3 (F 0) (F 1) (F 2))) (bI ((lz (F 2) (llf (F 0) (F 1) (F 2))) = 0)) 2 rm9_ hB1 bI_01 (by decide)) rfl (gwV mw_370 mw_367 mw_368 mw_369 mw_5) rfl (by decide +kernel) 0 rfl rfl rfl rfl Sb.w rfl rfl dX8_loseLine_54 (fun r w1 hp54_12 => ?_)
    obtain ⟨rfl, rfl⟩ := hp54_12
    show V X 0 0 57 [(1, vI (llf (F 0) (F 1) (F 2))), (0, .ref (ad 0))] [vI (bI ((ll3 (F 0) (F 1) (F 2)) 8 = 0 ∧ ¬ (bI ((lz (F 2) (llf (F 0) (F 1) (F 2))) = 0)) = 0))] ((mW (vG X) ad (up F 0 (muM (ll3 (F 0) (F 1) (F 2)) (bI ((lz (F 2) (llf (F 0) (F 1) (F 2))) = 0)) 2))))
    have rm13_ : RM (muM (ll3 (F 0) (F 1) (F 2)) (bI ((lz (F 2) (llf (F 0) (F 1) (F 2))) = 0)) 2) := muM_ok rm9_ (by decide)
    refine v_if_ne (tgt := 61) C dX8_loseLine_57 (by decide) sm_bI (fun c57 => ?_) (fun c57 => ?_)
    · skip
      have c57 := bI_n0.mp c57
      refine v_aload_n C dX8_loseLine_61 rfl 1 rfl ?_
      refine v_get (v := .ref (ad 2)) C inw_8 0 10 rfl (by decide) (List.mem_cons_of_mem _ mw_105) rfl rfl dX8_loseLine_62 ?_
      refine v_sipush C dX8_loseLine_65 (by decide +kernel) ?_
      refine v_aload_n C dX8_loseLine_68 rfl 1 rfl ?_
      refine v_get (v := .ref (ad 2)) C inw_8 0 10 rfl (by decide) (List.mem_cons_of_mem _ mw_105) rfl rfl dX8_loseLine_69 ?_
      refine v_bipush C dX8_loseLine_72 (by decide +kernel) ?_
      refine v_iald C 2 rfl (by decide) (by decide) (by decide) dX8_loseLine_74 ?_
      show V X 0 0 75 [(1, vI (llf (F 0) (F 1) (F 2))), (0, .ref (ad 0))] [vI (F 2 7), vI 400, .ref (ad 2)] ((mW (vG X) ad (up F 0 (muM (ll3 (F 0) (F 1) (F 2)) (bI ((lz (F 2) (llf (F 0) (F 1) (F 2))) = 0)) 2))))
      refine v_iadd C dX8_loseLine_75 ?_
      refine v_iload_n C dX8_loseLine_76 rfl 0 rfl ?_
      refine v_iast C 2 rfl (by have := hB2 7; omega) (by have := hB2 7; omega) (by decide) dX8_loseLine_77 (ws' := (mW (vG X) ad (up (up F 0 (muM (ll3 (F 0) (F 1) (F 2)) (bI ((lz (F 2) (llf (F 0) (F 1) (F 2))) = 0)) 2)) 2 (up (F 2) (400 + (F 2 7)) (llf (F 0) (F 1) (F 2)))))) rfl ?_
      refine v_aload_n C dX8_loseLine_78 rfl 1 rfl ?_
      refine v_get (v := .ref (ad 2)) C inw_8 0 10 rfl (by decide) (List.mem_cons_of_mem _ mw_105) rfl rfl dX8_loseLine_79 ?_
      refine v_bipush C dX8_loseLine_82 (by decide +kernel) ?_
      refine v_dup2 C dX8_loseLine_84 rfl rfl ?_
      refine v_iald C 2 rfl (by decide) (by decide) (by decide) dX8_loseLine_85 ?_
      show V X 0 0 86 [(1, vI (llf (F 0) (F 1) (F 2))), (0, .ref (ad 0))] [vI ((up (F 2) (400 + (F 2 7)) (llf (F 0) (F 1) (F 2))) 7), vI 7, .ref (ad 2)] ((mW (vG X) ad (up (up F 0 (muM (ll3 (F 0) (F 1) (F 2)) (bI ((lz (F 2) (llf (F 0) (F 1) (F 2))) = 0)) 2)) 2 (up (F 2) (400 + (F 2 7)) (llf (F 0) (F 1) (F 2))))))
      rw [up_n (show (7 : Int) ≠ (400 + (F 2 7)) by have := hB2 7; omega)]
      refine v_iconst C dX8_loseLine_86 ?_
      refine v_iadd C dX8_loseLine_87 ?_
      refine v_iast C 2 rfl (by decide) (by decide) (by decide) dX8_loseLine_88 (ws' := (mW (vG X) ad (up (up F 0 (muM (ll3 (F 0) (F 1) (F 2)) (bI ((lz (F 2) (llf (F 0) (F 1) (F 2))) = 0)) 2)) 2 (up (up (F 2) (400 + (F 2 7)) (llf (F 0) (F 1) (F 2))) 7 ((F 2 7) + 1))))) rfl ?_
      refine v_aload_n C dX8_loseLine_89 rfl 1 rfl ?_
      refine v_callV (na := 0) (wy := (Cond.code yX8_goOn cX8_goOn 1 none :: wsL_law)) (wc := (mW (vG X) ad (up (up F 0 (muM (ll3 (F 0) (F 1) (F 2)) (bI ((lz (F 2) (llf (F 0) (F 1) (F 2))) = 0)) 2)) 2 (up (up (F 2) (400 + (F 2 7)) (llf (F 0) (F 1) (F 2))) 7 ((F 2 7) + 1))))) (wr := []) C [] [] (c_X8_goOn _ _ ad (up (up F 0 (muM (ll3 (F 0) (F 1) (F 2)) (bI ((lz (F 2) (llf (F 0) (F 1) (F 2))) = 0)) 2)) 2 (up (up (F 2) (400 + (F 2 7)) (llf (F 0) (F 1) (F 2))) 7 ((F 2 7) + 1))) rm13_ hB1) rfl (gwV mw_374 mw_371 mw_372 mw_373 mw_5) rfl (by decide +kernel) 0 rfl rfl rfl rfl Sb.w rfl rfl dX8_loseLine_90 (fun r w1 hp90_14 => ?_)
      obtain ⟨rfl, rfl⟩ := hp90_14
      show V X 0 0 93 [(1, vI (llf (F 0) (F 1) (F 2))), (0, .ref (ad 0))] [] ((mW (vG X) ad (up (up F 0 (goM (muM (ll3 (F 0) (F 1) (F 2)) (bI ((lz (F 2) (llf (F 0) (F 1) (F 2))) = 0)) 2) (F 1))) 2 (up (up (F 2) (400 + (F 2 7)) (llf (F 0) (F 1) (F 2))) 7 ((F 2 7) + 1)))))
      have rm15_ : RM (goM (muM (ll3 (F 0) (F 1) (F 2)) (bI ((lz (F 2) (llf (F 0) (F 1) (F 2))) = 0)) 2) (F 1)) := goM_ok rm13_ hB1
      exact v_vret C E rfl dX8_loseLine_93 (by decide) (by decide) (⟨rfl, by rw [show (llS (F 0) (F 1) (F 2)) = _ from (if_pos c22).trans (if_pos c57), show (llN (F 0) (F 1) (F 2)) = _ from (if_pos c22).trans (if_pos c57)] <;> rfl⟩)
    · skip
      have c57 := bI_0.mp c57
      exact v_vret C E rfl dX8_loseLine_60 (by decide) (by decide) (⟨rfl, by rw [show (llS (F 0) (F 1) (F 2)) = _ from (if_pos c22).trans (if_neg c57), show (llN (F 0) (F 1) (F 2)) = _ from (if_pos c22).trans (if_neg c57)] <;> rfl⟩)
  · skip
    have c22 := bI_0.mp c22
    exact v_vret C E rfl dX8_loseLine_25 (by decide) (by decide) (⟨rfl, by rw [show (llS (F 0) (F 1) (F 2)) = _ from if_neg c22, show (llN (F 0) (F 1) (F 2)) = _ from if_neg c22] <;> rfl⟩)
end M12
