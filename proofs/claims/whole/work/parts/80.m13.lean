section M13
set_option maxHeartbeats 4000000 in
set_option maxRecDepth 100000 in
theorem c_X8_messageLine (G : GG) (l : Launch) (ad : Nat → Nat) (F : Int → Int → Int) (ho : RM (F 0)) (hB1 : sB 1000 (F 1)) (hB2 : sB 1073741824 (F 2)) (hM : ∀ s, (s = 0 ∨ s = 1) → 0 ≤ F 2 (18 + 11 * s + 0) ∧ F 2 (18 + 11 * s + 0) ≤ 20) : Ct G l yX8_messageLine (Cond.code yX8_messageLine cX8_messageLine 6 none :: wsL_law) 3 63 0 0 [.ref (ad 0)] ((mW G ad F)) (fun r w => r = none ∧ w = mW G ad (up (up F 0 (msS (F 0) (F 1) (F 2))) 2 (msN (F 0) (F 1) (F 2)))) := by
  refine Ct.of (own := RX8) (cc := cX8_messageLine) (maxL := 6) (ret := none) (by decide) rfl rfl (Nat.le_of_ble_eq_true rfl) (fun X C E M hG hl => ?_)
  subst hG hl
  have ho0 := ho
  obtain ⟨⟨h4a, h45, h53, h3b⟩, ⟨h6a, h6b⟩, ⟨h7a, h7b⟩, ⟨h8a, h8b⟩, ⟨h9a, h9b⟩, hw0, hw1⟩ := ho0
  have hM0 : 0 ≤ F 2 18 ∧ F 2 18 ≤ 20 := hM 0 (Or.inl rfl)
  have hM1 : 0 ≤ F 2 29 ∧ F 2 29 ≤ 20 := hM 1 (Or.inr rfl)
  refine v_aload_n C dX8_messageLine_0 rfl 0 rfl ?_
  refine v_callV (na := 0) (wy := (Cond.code yX8_goOn cX8_goOn 1 none :: wsL_law)) (wc := (mW (vG X) ad F)) (wr := []) C [] [] (c_X8_goOn _ _ ad F ho hB1) rfl (gwV mw_374 mw_371 mw_372 mw_373 mw_5) rfl (by decide +kernel) 0 rfl rfl rfl rfl Sb.w rfl rfl dX8_messageLine_1 (fun r w1 hp1_1 => ?_)
  obtain ⟨rfl, rfl⟩ := hp1_1
  show V X 0 0 4 [(0, .ref (ad 0))] [] ((mW (vG X) ad (up F 0 (goM (F 0) (F 1)))))
  have rm2_ : RM (goM (F 0) (F 1)) := goM_ok ho hB1
  refine v_aload_n C dX8_messageLine_4 rfl 0 rfl ?_
  refine v_iconst C dX8_messageLine_5 ?_
  refine v_iconst C dX8_messageLine_6 ?_
  refine v_callV (na := 2) (wy := (Cond.code yX8_look cX8_look 3 (some .int) :: wsL_law)) (wc := (mW (vG X) ad (up F 0 (goM (F 0) (F 1))))) (wr := []) C [vI 0, vI 1] [] (c_X8_look _ _ ad (up F 0 (goM (F 0) (F 1))) 0 1 rm2_ hB1 (by decide)) rfl (gwV mw_382 mw_379 mw_380 mw_381 mw_5) rfl (by decide +kernel) 0 rfl rfl rfl rfl Sb.w rfl rfl dX8_messageLine_7 (fun r w1 hp7_3 => ?_)
  obtain ⟨rfl, rfl⟩ := hp7_3
  show V X 0 0 10 [(0, .ref (ad 0))] [vI (lkV (goM (F 0) (F 1)) 0 1)] ((mW (vG X) ad (up F 0 (lkM (goM (F 0) (F 1)) 0 1))))
  have rm4_ : RM (lkM (goM (F 0) (F 1)) 0 1) := lkM_ok rm2_
  obtain ⟨va5, vb5⟩ := lkV_in (s := (goM (F 0) (F 1))) (p := 0) (q := 1) (by decide)
  have est : (wlst (F 0) (F 1)) = lkV (goM (F 0) (F 1)) 0 1 := rfl
  rw [← est]
  show V X 0 0 10 [(0, .ref (ad 0))] [vI (wlst (F 0) (F 1))] ((mW (vG X) ad (up F 0 (lkM (goM (F 0) (F 1)) 0 1))))
  rw [← est] at va5 vb5
  have er6 : (wl2 (F 0) (F 1)) = (lkM (goM (F 0) (F 1)) 0 1) := rfl
  rw [← er6]
  show V X 0 0 10 [(0, .ref (ad 0))] [vI (wlst (F 0) (F 1))] ((mW (vG X) ad (up F 0 (wl2 (F 0) (F 1)))))
  have rm7_ : RM (wl2 (F 0) (F 1)) := lkM_ok (goM_ok ho hB1)
  refine v_istore_n C M dX8_messageLine_10 rfl (by decide) (L' := [(1, vI (wlst (F 0) (F 1))), (0, .ref (ad 0))]) rfl ?_
  have hs01 : (wlst (F 0) (F 1)) = 0 ∨ (wlst (F 0) (F 1)) = 1 := by omega
  rcases hs01 with es | es
  · skip
    rw [es]
    show V X 0 0 11 [(1, vI 0), (0, .ref (ad 0))] [] ((mW (vG X) ad (up F 0 (wl2 (F 0) (F 1)))))
    refine v_aload_n C dX8_messageLine_11 rfl 1 rfl ?_
    refine v_iload_n C dX8_messageLine_12 rfl 0 rfl ?_
    refine v_iconst C dX8_messageLine_13 ?_
    refine v_callV (na := 2) (wy := (Cond.code yX8_of cX8_of 3 (some .int) :: wsL_law)) (wc := (mW (vG X) ad (up F 0 (wl2 (F 0) (F 1))))) (wr := []) C [vI 0, vI 0] [] (c_X8_of _ _ ad (up F 0 (wl2 (F 0) (F 1))) 0 0 (by decide) (by decide)) rfl (gwV mw_129 mw_126 mw_127 mw_128 mw_5) rfl (by decide +kernel) 0 rfl rfl rfl rfl Sb.w rfl rfl dX8_messageLine_14 (fun r w1 hp14_8 => ?_)
    obtain ⟨rfl, rfl⟩ := hp14_8
    show V X 0 0 17 [(1, vI 0), (0, .ref (ad 0))] [vI (F 2 18)] ((mW (vG X) ad (up F 0 (wl2 (F 0) (F 1)))))
    refine v_istore_n C M dX8_messageLine_17 rfl (by decide) (L' := [(2, vI (F 2 18)), (1, vI 0), (0, .ref (ad 0))]) rfl ?_
    refine v_aload_n C dX8_messageLine_18 rfl 2 rfl ?_
    refine v_iload_n C dX8_messageLine_19 rfl 0 rfl ?_
    refine v_bipush C dX8_messageLine_20 (by decide +kernel) ?_
    suffices mrg : V X 0 0 30 [(2, vI (F 2 18)), (1, vI 0), (0, .ref (ad 0))] [vI (bI ((F 2 18) < 20)), .ref (ad 0)] ((mW (vG X) ad (up F 0 (wl2 (F 0) (F 1))))) by
      refine v_icmp_ge (tgt := 29) C dX8_messageLine_22 (by decide) (by have := hB2 18; first | assumption | exact ⟨by omega, by omega⟩) (by decide) (fun c22 => ?_) (fun c22 => ?_)
      · skip
        refine v_iconst C dX8_messageLine_29 ?_
        exact V.top (bI_f (by omega)).symm mrg
      · skip
        refine v_iconst C dX8_messageLine_25 ?_
        refine v_goto (tgt := 30) C dX8_messageLine_26 (by decide) ?_
        exact V.top (bI_t (by omega)).symm mrg
    have em : F 2 (18 + 11 * (wlst (F 0) (F 1)) + 0) = F 2 18 := by rw [show 18 + 11 * (wlst (F 0) (F 1)) + 0 = 18 by omega]
    refine v_iconst C dX8_messageLine_30 ?_
    refine v_callV (na := 2) (wy := (Cond.code yX8_must cX8_must 3 (some .boolean) :: wsL_law)) (wc := (mW (vG X) ad (up F 0 (wl2 (F 0) (F 1))))) (wr := []) C [vI (bI ((F 2 18) < 20)), vI 4] [] (c_X8_must _ _ ad (up F 0 (wl2 (F 0) (F 1))) (bI ((F 2 18) < 20)) 4 rm7_ hB1 bI_01 (by decide)) rfl (gwV mw_370 mw_367 mw_368 mw_369 mw_5) rfl (by decide +kernel) 0 rfl rfl rfl rfl Sb.w rfl rfl dX8_messageLine_31 (fun r w1 hp31_9 => ?_)
    obtain ⟨rfl, rfl⟩ := hp31_9
    show V X 0 0 34 [(2, vI (F 2 18)), (1, vI 0), (0, .ref (ad 0))] [vI (bI ((wl2 (F 0) (F 1)) 8 = 0 ∧ ¬ (bI ((F 2 18) < 20)) = 0))] ((mW (vG X) ad (up F 0 (muM (wl2 (F 0) (F 1)) (bI ((F 2 18) < 20)) 4))))
    have rm10_ : RM (muM (wl2 (F 0) (F 1)) (bI ((F 2 18) < 20)) 4) := muM_ok rm7_ (by decide)
    refine v_if_ne (tgt := 38) C dX8_messageLine_34 (by decide) sm_bI (fun c34 => ?_) (fun c34 => ?_)
    · skip
      have c34 := bI_n0.mp c34
      have hm20 : F 2 18 < 20 := bI_n0.mp c34.2
      rw [← em] at c34
      have er11 : (me3 (F 0) (F 1) (F 2)) = (muM (wl2 (F 0) (F 1)) (bI ((F 2 18) < 20)) 4) := by unfold me3; rw [em]
      rw [← er11]
      show V X 0 0 38 [(2, vI (F 2 18)), (1, vI 0), (0, .ref (ad 0))] [] ((mW (vG X) ad (up F 0 (me3 (F 0) (F 1) (F 2)))))
      have rm12_ : RM (me3 (F 0) (F 1) (F 2)) := muM_ok (lkM_ok (goM_ok ho hB1)) (by decide)
      refine v_aload_n C dX8_messageLine_38 rfl 2 rfl ?_
      refine v_callV (na := 0) (wy := (Cond.code yX8_goOn cX8_goOn 1 none :: wsL_law)) (wc := (mW (vG X) ad (up F 0 (me3 (F 0) (F 1) (F 2))))) (wr := []) C [] [] (c_X8_goOn _ _ ad (up F 0 (me3 (F 0) (F 1) (F 2))) rm12_ hB1) rfl (gwV mw_374 mw_371 mw_372 mw_373 mw_5) rfl (by decide +kernel) 0 rfl rfl rfl rfl Sb.w rfl rfl dX8_messageLine_39 (fun r w1 hp39_13 => ?_)
      obtain ⟨rfl, rfl⟩ := hp39_13
      show V X 0 0 42 [(2, vI (F 2 18)), (1, vI 0), (0, .ref (ad 0))] [] ((mW (vG X) ad (up F 0 (goM (me3 (F 0) (F 1) (F 2)) (F 1)))))
      have rm14_ : RM (goM (me3 (F 0) (F 1) (F 2)) (F 1)) := goM_ok rm12_ hB1
      refine v_iconst C dX8_messageLine_42 ?_
      refine v_istore_n C M dX8_messageLine_43 rfl (by decide) (L' := [(3, vI 0), (2, vI (F 2 18)), (1, vI 0), (0, .ref (ad 0))]) rfl ?_
      refine v_aload_n C dX8_messageLine_44 rfl 3 rfl ?_
      refine v_aload_n C dX8_messageLine_45 rfl 3 rfl ?_
      refine v_get (v := vI ((goM (me3 (F 0) (F 1) (F 2)) (F 1)) 6)) C inw_8 0 6 rfl (by decide) (List.mem_cons_of_mem _ mw_339) rfl rfl dX8_messageLine_46 ?_
      refine v_iconst C dX8_messageLine_49 ?_
      suffices mrg : V X 0 0 58 [(3, vI 0), (2, vI (F 2 18)), (1, vI 0), (0, .ref (ad 0))] [vI (bI (((goM (me3 (F 0) (F 1) (F 2)) (F 1)) 6) = 2)), .ref (ad 0)] ((mW (vG X) ad (up F 0 (goM (me3 (F 0) (F 1) (F 2)) (F 1))))) by
        refine v_icmp_ne (tgt := 57) C dX8_messageLine_50 (by decide) (by have := RM_b6 rm14_; first | assumption | exact ⟨by omega, by omega⟩) (by decide) (fun c50 => ?_) (fun c50 => ?_)
        · skip
          refine v_iconst C dX8_messageLine_57 ?_
          exact V.top (bI_f (by omega)).symm mrg
        · skip
          refine v_iconst C dX8_messageLine_53 ?_
          refine v_goto (tgt := 58) C dX8_messageLine_54 (by decide) ?_
          exact V.top (bI_t (by omega)).symm mrg
      refine v_iconst C dX8_messageLine_58 ?_
      refine v_callV (na := 2) (wy := (Cond.code yX8_must cX8_must 3 (some .boolean) :: wsL_law)) (wc := (mW (vG X) ad (up F 0 (goM (me3 (F 0) (F 1) (F 2)) (F 1))))) (wr := []) C [vI (bI (((goM (me3 (F 0) (F 1) (F 2)) (F 1)) 6) = 2)), vI 1] [] (c_X8_must _ _ ad (up F 0 (goM (me3 (F 0) (F 1) (F 2)) (F 1))) (bI (((goM (me3 (F 0) (F 1) (F 2)) (F 1)) 6) = 2)) 1 rm14_ hB1 bI_01 (by decide)) rfl (gwV mw_370 mw_367 mw_368 mw_369 mw_5) rfl (by decide +kernel) 0 rfl rfl rfl rfl Sb.w rfl rfl dX8_messageLine_59 (fun r w1 hp59_15 => ?_)
      obtain ⟨rfl, rfl⟩ := hp59_15
      show V X 0 0 62 [(3, vI 0), (2, vI (F 2 18)), (1, vI 0), (0, .ref (ad 0))] [vI (bI ((goM (me3 (F 0) (F 1) (F 2)) (F 1)) 8 = 0 ∧ ¬ (bI (((goM (me3 (F 0) (F 1) (F 2)) (F 1)) 6) = 2)) = 0))] ((mW (vG X) ad (up F 0 (muM (goM (me3 (F 0) (F 1) (F 2)) (F 1)) (bI (((goM (me3 (F 0) (F 1) (F 2)) (F 1)) 6) = 2)) 1))))
      have rm16_ : RM (muM (goM (me3 (F 0) (F 1) (F 2)) (F 1)) (bI (((goM (me3 (F 0) (F 1) (F 2)) (F 1)) 6) = 2)) 1) := muM_ok rm14_ (by decide)
      have er17 : (me5 (F 0) (F 1) (F 2)) = (muM (goM (me3 (F 0) (F 1) (F 2)) (F 1)) (bI (((goM (me3 (F 0) (F 1) (F 2)) (F 1)) 6) = 2)) 1) := rfl
      rw [← er17]
      show V X 0 0 62 [(3, vI 0), (2, vI (F 2 18)), (1, vI 0), (0, .ref (ad 0))] [vI (bI ((goM (me3 (F 0) (F 1) (F 2)) (F 1)) 8 = 0 ∧ ¬ (bI (((goM (me3 (F 0) (F 1) (F 2)) (F 1)) 6) = 2)) = 0))] ((mW (vG X) ad (up F 0 (me5 (F 0) (F 1) (F 2)))))
      have rm18_ : RM (me5 (F 0) (F 1) (F 2)) := muM_ok (goM_ok (muM_ok (lkM_ok (goM_ok ho hB1)) (by decide)) hB1) (by decide)
      refine V.top (show _ = bI ((mlS (me5 (F 0) (F 1) (F 2)) (F 1) 0) 8 = 0 ∧ (mlS (me5 (F 0) (F 1) (F 2)) (F 1) 0) 6 = 2) from me5_g) ?_
      show V X 0 0 62 [(3, vI 0), (2, vI (F 2 18)), (1, vI 0), (0, .ref (ad 0))] [vI (bI ((mlS (me5 (F 0) (F 1) (F 2)) (F 1) 0) 8 = 0 ∧ (mlS (me5 (F 0) (F 1) (F 2)) (F 1) 0) 6 = 2))] ((mW (vG X) ad (up F 0 (me5 (F 0) (F 1) (F 2)))))
      refine v_istore C M dX8_messageLine_62 (by decide) (L' := [(4, vI (bI ((mlS (me5 (F 0) (F 1) (F 2)) (F 1) 0) 8 = 0 ∧ (mlS (me5 (F 0) (F 1) (F 2)) (F 1) 0) 6 = 2))), (3, vI 0), (2, vI (F 2 18)), (1, vI 0), (0, .ref (ad 0))]) rfl ?_
      refine V.loc (L' := [(0, .ref (ad 0)), (1, vI 0), (2, vI (F 2 18)), (3, vI 0), (4, vI (bI ((mlS (me5 (F 0) (F 1) (F 2)) (F 1) 0) 8 = 0 ∧ (mlS (me5 (F 0) (F 1) (F 2)) (F 1) 0) 6 = 2)))]) [4, 3, 2, 1, 0] rfl ?_
      have lp : ∀ (n : Nat) (n0 : Nat) (hn0 : n0 ≤ 9) (hno : ∀ j : Nat, j < n0 → ¬ (fun k : Nat => ¬ ((mlS (me5 (F 0) (F 1) (F 2)) (F 1) k) 8 = 0 ∧ (mlS (me5 (F 0) (F 1) (F 2)) (F 1) k) 6 = 2)) j) (hm : 10 - (n0 : Int) < (n : Int)), V X 0 0 64 [(0, .ref (ad 0)), (1, vI 0), (2, vI (F 2 18)), (3, vI (n0 : Int)), (4, vI (bI ((mlS (me5 (F 0) (F 1) (F 2)) (F 1) n0) 8 = 0 ∧ (mlS (me5 (F 0) (F 1) (F 2)) (F 1) n0) 6 = 2)))] [] ((mW (vG X) ad (up (up F 0 (mlS (me5 (F 0) (F 1) (F 2)) (F 1) n0)) 2 (mlN (me5 (F 0) (F 1) (F 2)) (F 1) 0 (F 2 18) (F 2) n0)))) := by
        intro n
        induction n with
        | zero => intro n0 hn0 hno hm; exact absurd hm (by omega)
        | succ n ih =>
          intro n0 hn0 hno hm
          have rm19_ : RM (mlS (me5 (F 0) (F 1) (F 2)) (F 1) n0) := mlS_ok (me5_ok ho hB1) hB1 n0
          refine v_iload C dX8_messageLine_64 4 rfl ?_
          refine v_if_eq (tgt := 143) C dX8_messageLine_66 (by decide) sm_bI (fun c66 => ?_) (fun c66 => ?_)
          · skip
            have c66 := bI_0.mp c66
            have en : n0 = (mlK (me5 (F 0) (F 1) (F 2)) (F 1)) := skN_u _ _ hno (by omega) (Or.inl c66)
            refine v_aload_n C dX8_messageLine_143 rfl 0 rfl ?_
            refine v_get (v := vI ((mlS (me5 (F 0) (F 1) (F 2)) (F 1) n0) 8)) C inw_8 0 8 rfl (by decide) (List.mem_cons_of_mem _ mw_336) rfl rfl dX8_messageLine_144 ?_
            refine v_if_eq (tgt := 151) C dX8_messageLine_147 (by decide) (by have := RM_b8 rm19_; first | assumption | exact ⟨by omega, by omega⟩) (fun c147 => ?_) (fun c147 => ?_)
            · skip
              refine v_aload_n C dX8_messageLine_151 rfl 0 rfl ?_
              refine v_get (v := .ref (ad 2)) C inw_8 0 10 rfl (by decide) (List.mem_cons_of_mem _ mw_105) rfl rfl dX8_messageLine_152 ?_
              refine v_iload_n C dX8_messageLine_155 rfl 1 rfl ?_
              refine v_iload_n C dX8_messageLine_156 rfl 2 rfl ?_
              refine v_callS (na := 2) (wy := (Cond.code yX8_lengthAt cX8_lengthAt 2 (some .int) :: wsL_law)) (wc := []) (wr := (mW (vG X) ad (up (up F 0 (mlS (me5 (F 0) (F 1) (F 2)) (F 1) n0)) 2 (mlN (me5 (F 0) (F 1) (F 2)) (F 1) 0 (F 2 18) (F 2) n0)))) C [vI 0, vI (F 2 18)] [.ref (ad 2)] (c_X8_lengthAt _ _ 0 (F 2 18) ) rfl (gwS mw_400 mw_398 mw_399 mw_5) (by decide +kernel) rfl rfl Sb.rf rfl rfl dX8_messageLine_157 (fun r w1 hp157_20 => ?_)
              obtain ⟨rfl, rfl⟩ := hp157_20
              show V X 0 0 160 [(0, .ref (ad 0)), (1, vI 0), (2, vI (F 2 18)), (3, vI (n0 : Int)), (4, vI (bI ((mlS (me5 (F 0) (F 1) (F 2)) (F 1) n0) 8 = 0 ∧ (mlS (me5 (F 0) (F 1) (F 2)) (F 1) n0) 6 = 2)))] [vI (40 + (F 2 18)), .ref (ad 2)] ((mW (vG X) ad (up (up F 0 (mlS (me5 (F 0) (F 1) (F 2)) (F 1) n0)) 2 (mlN (me5 (F 0) (F 1) (F 2)) (F 1) 0 (F 2 18) (F 2) n0))))
              refine v_iload_n C dX8_messageLine_160 rfl 3 rfl ?_
              refine v_iast C 2 rfl (by have := hB2 18; omega) (by have := hB2 18; omega) (by decide) dX8_messageLine_161 (ws' := (mW (vG X) ad (up (up F 0 (mlS (me5 (F 0) (F 1) (F 2)) (F 1) n0)) 2 (up (mlN (me5 (F 0) (F 1) (F 2)) (F 1) 0 (F 2 18) (F 2) n0) (40 + (F 2 18)) (n0 : Int))))) rfl ?_
              refine v_aload_n C dX8_messageLine_162 rfl 0 rfl ?_
              refine v_get (v := .ref (ad 2)) C inw_8 0 10 rfl (by decide) (List.mem_cons_of_mem _ mw_105) rfl rfl dX8_messageLine_163 ?_
              refine v_iload_n C dX8_messageLine_166 rfl 1 rfl ?_
              refine v_iconst C dX8_messageLine_167 ?_
              refine v_callS (na := 2) (wy := (Cond.code yX8_at cX8_at 2 (some .int) :: wsL_law)) (wc := []) (wr := (mW (vG X) ad (up (up F 0 (mlS (me5 (F 0) (F 1) (F 2)) (F 1) n0)) 2 (up (mlN (me5 (F 0) (F 1) (F 2)) (F 1) 0 (F 2 18) (F 2) n0) (40 + (F 2 18)) (n0 : Int))))) C [vI 0, vI 0] [.ref (ad 2)] (c_X8_at _ _ 0 0 ) rfl (gwS mw_120 mw_118 mw_119 mw_5) (by decide +kernel) rfl rfl Sb.rf rfl rfl dX8_messageLine_168 (fun r w1 hp168_21 => ?_)
              obtain ⟨rfl, rfl⟩ := hp168_21
              show V X 0 0 171 [(0, .ref (ad 0)), (1, vI 0), (2, vI (F 2 18)), (3, vI (n0 : Int)), (4, vI (bI ((mlS (me5 (F 0) (F 1) (F 2)) (F 1) n0) 8 = 0 ∧ (mlS (me5 (F 0) (F 1) (F 2)) (F 1) n0) 6 = 2)))] [vI 18, .ref (ad 2)] ((mW (vG X) ad (up (up F 0 (mlS (me5 (F 0) (F 1) (F 2)) (F 1) n0)) 2 (up (mlN (me5 (F 0) (F 1) (F 2)) (F 1) 0 (F 2 18) (F 2) n0) (40 + (F 2 18)) (n0 : Int)))))
              refine v_dup2 C dX8_messageLine_171 rfl rfl ?_
              refine v_iald C 2 rfl (by decide) (by decide) (by decide) dX8_messageLine_172 ?_
              show V X 0 0 173 [(0, .ref (ad 0)), (1, vI 0), (2, vI (F 2 18)), (3, vI (n0 : Int)), (4, vI (bI ((mlS (me5 (F 0) (F 1) (F 2)) (F 1) n0) 8 = 0 ∧ (mlS (me5 (F 0) (F 1) (F 2)) (F 1) n0) 6 = 2)))] [vI ((up (mlN (me5 (F 0) (F 1) (F 2)) (F 1) 0 (F 2 18) (F 2) n0) (40 + (F 2 18)) (n0 : Int)) 18), vI 18, .ref (ad 2)] ((mW (vG X) ad (up (up F 0 (mlS (me5 (F 0) (F 1) (F 2)) (F 1) n0)) 2 (up (mlN (me5 (F 0) (F 1) (F 2)) (F 1) 0 (F 2 18) (F 2) n0) (40 + (F 2 18)) (n0 : Int)))))
              rw [up_n (show (18 : Int) ≠ (40 + (F 2 18)) by have := hB2 18; omega)]
              refine v_iconst C dX8_messageLine_173 ?_
              refine v_iadd C dX8_messageLine_174 ?_
              refine v_iast C 2 rfl (by decide) (by decide) (by decide) dX8_messageLine_175 (ws' := (mW (vG X) ad (up (up F 0 (mlS (me5 (F 0) (F 1) (F 2)) (F 1) n0)) 2 (up (up (mlN (me5 (F 0) (F 1) (F 2)) (F 1) 0 (F 2 18) (F 2) n0) (40 + (F 2 18)) (n0 : Int)) 18 (((mlN (me5 (F 0) (F 1) (F 2)) (F 1) 0 (F 2 18) (F 2) n0) 18) + 1))))) rfl ?_
              exact v_vret C E rfl dX8_messageLine_176 (by decide) (by decide) (⟨rfl, by rw [show (msS (F 0) (F 1) (F 2)) = (mlS (me5 (F 0) (F 1) (F 2)) (F 1) n0) from (if_pos c34).trans (by rw [en]), show (msN (F 0) (F 1) (F 2)) = _ from (if_pos c34).trans (if_pos (show (mlS (me5 (F 0) (F 1) (F 2)) (F 1) (mlK (me5 (F 0) (F 1) (F 2)) (F 1))) 8 = 0 by rw [← en]; exact c147)), es, ← en] <;> rfl⟩)
            · skip
              exact v_vret C E rfl dX8_messageLine_150 (by decide) (by decide) (⟨rfl, by rw [show (msS (F 0) (F 1) (F 2)) = (mlS (me5 (F 0) (F 1) (F 2)) (F 1) n0) from (if_pos c34).trans (by rw [en]), show (msN (F 0) (F 1) (F 2)) = _ from (if_pos c34).trans (if_neg (show ¬ (mlS (me5 (F 0) (F 1) (F 2)) (F 1) (mlK (me5 (F 0) (F 1) (F 2)) (F 1))) 8 = 0 by rw [← en]; exact c147)), es, ← en] <;> rfl⟩)
          · skip
            have c66 := bI_n0.mp c66
            have h9 : n0 ≠ 9 := fun e => ml9 (e ▸ c66.1)
            refine v_aload_n C dX8_messageLine_69 rfl 0 rfl ?_
            refine v_iconst C dX8_messageLine_70 ?_
            refine v_sipush C dX8_messageLine_71 (by decide +kernel) ?_
            refine v_callV (na := 2) (wy := (Cond.code yX8_look cX8_look 3 (some .int) :: wsL_law)) (wc := (mW (vG X) ad (up (up F 0 (mlS (me5 (F 0) (F 1) (F 2)) (F 1) n0)) 2 (mlN (me5 (F 0) (F 1) (F 2)) (F 1) 0 (F 2 18) (F 2) n0)))) (wr := []) C [vI 0, vI 255] [] (c_X8_look _ _ ad (up (up F 0 (mlS (me5 (F 0) (F 1) (F 2)) (F 1) n0)) 2 (mlN (me5 (F 0) (F 1) (F 2)) (F 1) 0 (F 2 18) (F 2) n0)) 0 255 rm19_ hB1 (by decide)) rfl (gwV mw_382 mw_379 mw_380 mw_381 mw_5) rfl (by decide +kernel) 0 rfl rfl rfl rfl Sb.w rfl rfl dX8_messageLine_74 (fun r w1 hp74_22 => ?_)
            obtain ⟨rfl, rfl⟩ := hp74_22
            show V X 0 0 77 [(0, .ref (ad 0)), (1, vI 0), (2, vI (F 2 18)), (3, vI (n0 : Int)), (4, vI (bI ((mlS (me5 (F 0) (F 1) (F 2)) (F 1) n0) 8 = 0 ∧ (mlS (me5 (F 0) (F 1) (F 2)) (F 1) n0) 6 = 2)))] [vI (lkV (mlS (me5 (F 0) (F 1) (F 2)) (F 1) n0) 0 255)] ((mW (vG X) ad (up (up F 0 (lkM (mlS (me5 (F 0) (F 1) (F 2)) (F 1) n0) 0 255)) 2 (mlN (me5 (F 0) (F 1) (F 2)) (F 1) 0 (F 2 18) (F 2) n0))))
            have rm23_ : RM (lkM (mlS (me5 (F 0) (F 1) (F 2)) (F 1) n0) 0 255) := lkM_ok rm19_
            obtain ⟨va24, vb24⟩ := lkV_in (s := (mlS (me5 (F 0) (F 1) (F 2)) (F 1) n0)) (p := 0) (q := 255) (by decide)
            refine v_istore C M dX8_messageLine_77 (by decide) (L' := [(5, vI (lkV (mlS (me5 (F 0) (F 1) (F 2)) (F 1) n0) 0 255)), (0, .ref (ad 0)), (1, vI 0), (2, vI (F 2 18)), (3, vI (n0 : Int)), (4, vI (bI ((mlS (me5 (F 0) (F 1) (F 2)) (F 1) n0) 8 = 0 ∧ (mlS (me5 (F 0) (F 1) (F 2)) (F 1) n0) 6 = 2)))]) rfl ?_
            refine v_aload_n C dX8_messageLine_79 rfl 1 rfl ?_
            refine v_iload_n C dX8_messageLine_80 rfl 4 rfl ?_
            refine v_bipush C dX8_messageLine_81 (by decide +kernel) ?_
            suffices mrg : V X 0 0 91 [(5, vI (lkV (mlS (me5 (F 0) (F 1) (F 2)) (F 1) n0) 0 255)), (0, .ref (ad 0)), (1, vI 0), (2, vI (F 2 18)), (3, vI (n0 : Int)), (4, vI (bI ((mlS (me5 (F 0) (F 1) (F 2)) (F 1) n0) 8 = 0 ∧ (mlS (me5 (F 0) (F 1) (F 2)) (F 1) n0) 6 = 2)))] [vI (bI ((n0 : Int) < 8)), .ref (ad 0)] ((mW (vG X) ad (up (up F 0 (lkM (mlS (me5 (F 0) (F 1) (F 2)) (F 1) n0) 0 255)) 2 (mlN (me5 (F 0) (F 1) (F 2)) (F 1) 0 (F 2 18) (F 2) n0)))) by
              refine v_icmp_ge (tgt := 90) C dX8_messageLine_83 (by decide) (by  first | assumption | exact ⟨by omega, by omega⟩) (by decide) (fun c83 => ?_) (fun c83 => ?_)
              · skip
                refine v_iconst C dX8_messageLine_90 ?_
                exact V.top (bI_f (by omega)).symm mrg
              · skip
                refine v_iconst C dX8_messageLine_86 ?_
                refine v_goto (tgt := 91) C dX8_messageLine_87 (by decide) ?_
                exact V.top (bI_t (by omega)).symm mrg
            refine v_iconst C dX8_messageLine_91 ?_
            refine v_callV (na := 2) (wy := (Cond.code yX8_must cX8_must 3 (some .boolean) :: wsL_law)) (wc := (mW (vG X) ad (up (up F 0 (lkM (mlS (me5 (F 0) (F 1) (F 2)) (F 1) n0) 0 255)) 2 (mlN (me5 (F 0) (F 1) (F 2)) (F 1) 0 (F 2 18) (F 2) n0)))) (wr := []) C [vI (bI ((n0 : Int) < 8)), vI 4] [] (c_X8_must _ _ ad (up (up F 0 (lkM (mlS (me5 (F 0) (F 1) (F 2)) (F 1) n0) 0 255)) 2 (mlN (me5 (F 0) (F 1) (F 2)) (F 1) 0 (F 2 18) (F 2) n0)) (bI ((n0 : Int) < 8)) 4 rm23_ hB1 bI_01 (by decide)) rfl (gwV mw_370 mw_367 mw_368 mw_369 mw_5) rfl (by decide +kernel) 0 rfl rfl rfl rfl Sb.w rfl rfl dX8_messageLine_92 (fun r w1 hp92_25 => ?_)
            obtain ⟨rfl, rfl⟩ := hp92_25
            show V X 0 0 95 [(5, vI (lkV (mlS (me5 (F 0) (F 1) (F 2)) (F 1) n0) 0 255)), (0, .ref (ad 0)), (1, vI 0), (2, vI (F 2 18)), (3, vI (n0 : Int)), (4, vI (bI ((mlS (me5 (F 0) (F 1) (F 2)) (F 1) n0) 8 = 0 ∧ (mlS (me5 (F 0) (F 1) (F 2)) (F 1) n0) 6 = 2)))] [vI (bI ((lkM (mlS (me5 (F 0) (F 1) (F 2)) (F 1) n0) 0 255) 8 = 0 ∧ ¬ (bI ((n0 : Int) < 8)) = 0))] ((mW (vG X) ad (up (up F 0 (muM (lkM (mlS (me5 (F 0) (F 1) (F 2)) (F 1) n0) 0 255) (bI ((n0 : Int) < 8)) 4)) 2 (mlN (me5 (F 0) (F 1) (F 2)) (F 1) 0 (F 2 18) (F 2) n0))))
            have rm26_ : RM (muM (lkM (mlS (me5 (F 0) (F 1) (F 2)) (F 1) n0) 0 255) (bI ((n0 : Int) < 8)) 4) := muM_ok rm23_ (by decide)
            refine v_if_eq (tgt := 111) C dX8_messageLine_95 (by decide) sm_bI (fun c95 => ?_) (fun c95 => ?_)
            · skip
              have c95 := bI_0.mp c95
              have er27 : (mlN (me5 (F 0) (F 1) (F 2)) (F 1) 0 (F 2 18) (F 2) (n0 + 1)) = (mlN (me5 (F 0) (F 1) (F 2)) (F 1) 0 (F 2 18) (F 2) n0) := if_neg c95
              rw [← er27]
              show V X 0 0 111 [(5, vI (lkV (mlS (me5 (F 0) (F 1) (F 2)) (F 1) n0) 0 255)), (0, .ref (ad 0)), (1, vI 0), (2, vI (F 2 18)), (3, vI (n0 : Int)), (4, vI (bI ((mlS (me5 (F 0) (F 1) (F 2)) (F 1) n0) 8 = 0 ∧ (mlS (me5 (F 0) (F 1) (F 2)) (F 1) n0) 6 = 2)))] [] ((mW (vG X) ad (up (up F 0 (muM (lkM (mlS (me5 (F 0) (F 1) (F 2)) (F 1) n0) 0 255) (bI ((n0 : Int) < 8)) 4)) 2 (mlN (me5 (F 0) (F 1) (F 2)) (F 1) 0 (F 2 18) (F 2) (n0 + 1)))))
              refine v_iinc C M dX8_messageLine_111 4 rfl (by decide) (z' := ((n0 : Int) + 1)) rfl (L' := [(3, vI ((n0 : Int) + 1)), (5, vI (lkV (mlS (me5 (F 0) (F 1) (F 2)) (F 1) n0) 0 255)), (0, .ref (ad 0)), (1, vI 0), (2, vI (F 2 18)), (4, vI (bI ((mlS (me5 (F 0) (F 1) (F 2)) (F 1) n0) 8 = 0 ∧ (mlS (me5 (F 0) (F 1) (F 2)) (F 1) n0) 6 = 2)))]) rfl ?_
              refine v_aload_n C dX8_messageLine_114 rfl 2 rfl ?_
              refine v_callV (na := 0) (wy := (Cond.code yX8_goOn cX8_goOn 1 none :: wsL_law)) (wc := (mW (vG X) ad (up (up F 0 (muM (lkM (mlS (me5 (F 0) (F 1) (F 2)) (F 1) n0) 0 255) (bI ((n0 : Int) < 8)) 4)) 2 (mlN (me5 (F 0) (F 1) (F 2)) (F 1) 0 (F 2 18) (F 2) (n0 + 1))))) (wr := []) C [] [] (c_X8_goOn _ _ ad (up (up F 0 (muM (lkM (mlS (me5 (F 0) (F 1) (F 2)) (F 1) n0) 0 255) (bI ((n0 : Int) < 8)) 4)) 2 (mlN (me5 (F 0) (F 1) (F 2)) (F 1) 0 (F 2 18) (F 2) (n0 + 1))) rm26_ hB1) rfl (gwV mw_374 mw_371 mw_372 mw_373 mw_5) rfl (by decide +kernel) 0 rfl rfl rfl rfl Sb.w rfl rfl dX8_messageLine_115 (fun r w1 hp115_28 => ?_)
              obtain ⟨rfl, rfl⟩ := hp115_28
              show V X 0 0 118 [(3, vI ((n0 : Int) + 1)), (5, vI (lkV (mlS (me5 (F 0) (F 1) (F 2)) (F 1) n0) 0 255)), (0, .ref (ad 0)), (1, vI 0), (2, vI (F 2 18)), (4, vI (bI ((mlS (me5 (F 0) (F 1) (F 2)) (F 1) n0) 8 = 0 ∧ (mlS (me5 (F 0) (F 1) (F 2)) (F 1) n0) 6 = 2)))] [] ((mW (vG X) ad (up (up F 0 (goM (muM (lkM (mlS (me5 (F 0) (F 1) (F 2)) (F 1) n0) 0 255) (bI ((n0 : Int) < 8)) 4) (F 1))) 2 (mlN (me5 (F 0) (F 1) (F 2)) (F 1) 0 (F 2 18) (F 2) (n0 + 1)))))
              have rm29_ : RM (goM (muM (lkM (mlS (me5 (F 0) (F 1) (F 2)) (F 1) n0) 0 255) (bI ((n0 : Int) < 8)) 4) (F 1)) := goM_ok rm26_ hB1
              have er30 : (mlS (me5 (F 0) (F 1) (F 2)) (F 1) (n0 + 1)) = (goM (muM (lkM (mlS (me5 (F 0) (F 1) (F 2)) (F 1) n0) 0 255) (bI ((n0 : Int) < 8)) 4) (F 1)) := rfl
              rw [← er30]
              show V X 0 0 118 [(3, vI ((n0 : Int) + 1)), (5, vI (lkV (mlS (me5 (F 0) (F 1) (F 2)) (F 1) n0) 0 255)), (0, .ref (ad 0)), (1, vI 0), (2, vI (F 2 18)), (4, vI (bI ((mlS (me5 (F 0) (F 1) (F 2)) (F 1) n0) 8 = 0 ∧ (mlS (me5 (F 0) (F 1) (F 2)) (F 1) n0) 6 = 2)))] [] ((mW (vG X) ad (up (up F 0 (mlS (me5 (F 0) (F 1) (F 2)) (F 1) (n0 + 1))) 2 (mlN (me5 (F 0) (F 1) (F 2)) (F 1) 0 (F 2 18) (F 2) (n0 + 1)))))
              have rm31_ : RM (mlS (me5 (F 0) (F 1) (F 2)) (F 1) (n0 + 1)) := mlS_ok (me5_ok ho hB1) hB1 (n0 + 1)
              refine v_aload_n C dX8_messageLine_118 rfl 2 rfl ?_
              refine v_get (v := vI ((mlS (me5 (F 0) (F 1) (F 2)) (F 1) (n0 + 1)) 8)) C inw_8 0 8 rfl (by decide) (List.mem_cons_of_mem _ mw_336) rfl rfl dX8_messageLine_119 ?_
              refine v_if_ne (tgt := 137) C dX8_messageLine_122 (by decide) (by have := RM_b8 rm31_; first | assumption | exact ⟨by omega, by omega⟩) (fun c122 => ?_) (fun c122 => ?_)
              · skip
                refine v_iconst C dX8_messageLine_137 ?_
                refine V.top (show (0 : Int) = bI ((mlS (me5 (F 0) (F 1) (F 2)) (F 1) (n0 + 1)) 8 = 0 ∧ (mlS (me5 (F 0) (F 1) (F 2)) (F 1) (n0 + 1)) 6 = 2) from (bI_f (fun h => c122 h.1)).symm) ?_
                show V X 0 0 138 [(3, vI ((n0 : Int) + 1)), (5, vI (lkV (mlS (me5 (F 0) (F 1) (F 2)) (F 1) n0) 0 255)), (0, .ref (ad 0)), (1, vI 0), (2, vI (F 2 18)), (4, vI (bI ((mlS (me5 (F 0) (F 1) (F 2)) (F 1) n0) 8 = 0 ∧ (mlS (me5 (F 0) (F 1) (F 2)) (F 1) n0) 6 = 2)))] [vI (bI ((mlS (me5 (F 0) (F 1) (F 2)) (F 1) (n0 + 1)) 8 = 0 ∧ (mlS (me5 (F 0) (F 1) (F 2)) (F 1) (n0 + 1)) 6 = 2))] ((mW (vG X) ad (up (up F 0 (mlS (me5 (F 0) (F 1) (F 2)) (F 1) (n0 + 1))) 2 (mlN (me5 (F 0) (F 1) (F 2)) (F 1) 0 (F 2 18) (F 2) (n0 + 1)))))
                refine v_istore C M dX8_messageLine_138 (by decide) (L' := [(4, vI (bI ((mlS (me5 (F 0) (F 1) (F 2)) (F 1) (n0 + 1)) 8 = 0 ∧ (mlS (me5 (F 0) (F 1) (F 2)) (F 1) (n0 + 1)) 6 = 2))), (3, vI ((n0 : Int) + 1)), (5, vI (lkV (mlS (me5 (F 0) (F 1) (F 2)) (F 1) n0) 0 255)), (0, .ref (ad 0)), (1, vI 0), (2, vI (F 2 18))]) rfl ?_
                refine v_goto (tgt := 64) C dX8_messageLine_140 (by decide) ?_
                refine V.loc (L' := [(0, .ref (ad 0)), (1, vI 0), (2, vI (F 2 18)), (3, vI ((n0 : Int) + 1)), (4, vI (bI ((mlS (me5 (F 0) (F 1) (F 2)) (F 1) (n0 + 1)) 8 = 0 ∧ (mlS (me5 (F 0) (F 1) (F 2)) (F 1) (n0 + 1)) 6 = 2)))]) [3, 4, 5, 1, 0] rfl ?_
                have key := ih (n0 + 1) (by omega) (fun j hj => by
                  by_cases e : j = n0
                  · rw [e]; exact fun h => h c66
                  · exact hno j (by omega)) (by omega)
                rw [show ((n0 + 1 : Nat) : Int) = (n0 : Int) + 1 by omega] at key
                exact key
              · skip
                refine v_aload_n C dX8_messageLine_125 rfl 2 rfl ?_
                refine v_get (v := vI ((mlS (me5 (F 0) (F 1) (F 2)) (F 1) (n0 + 1)) 6)) C inw_8 0 6 rfl (by decide) (List.mem_cons_of_mem _ mw_339) rfl rfl dX8_messageLine_126 ?_
                refine v_iconst C dX8_messageLine_129 ?_
                refine v_icmp_ne (tgt := 137) C dX8_messageLine_130 (by decide) (by have := RM_b6 rm31_; first | assumption | exact ⟨by omega, by omega⟩) (by decide) (fun c130 => ?_) (fun c130 => ?_)
                · skip
                  refine v_iconst C dX8_messageLine_137 ?_
                  refine V.top (show (0 : Int) = bI ((mlS (me5 (F 0) (F 1) (F 2)) (F 1) (n0 + 1)) 8 = 0 ∧ (mlS (me5 (F 0) (F 1) (F 2)) (F 1) (n0 + 1)) 6 = 2) from (bI_f (fun h => c130 h.2)).symm) ?_
                  show V X 0 0 138 [(3, vI ((n0 : Int) + 1)), (5, vI (lkV (mlS (me5 (F 0) (F 1) (F 2)) (F 1) n0) 0 255)), (0, .ref (ad 0)), (1, vI 0), (2, vI (F 2 18)), (4, vI (bI ((mlS (me5 (F 0) (F 1) (F 2)) (F 1) n0) 8 = 0 ∧ (mlS (me5 (F 0) (F 1) (F 2)) (F 1) n0) 6 = 2)))] [vI (bI ((mlS (me5 (F 0) (F 1) (F 2)) (F 1) (n0 + 1)) 8 = 0 ∧ (mlS (me5 (F 0) (F 1) (F 2)) (F 1) (n0 + 1)) 6 = 2))] ((mW (vG X) ad (up (up F 0 (mlS (me5 (F 0) (F 1) (F 2)) (F 1) (n0 + 1))) 2 (mlN (me5 (F 0) (F 1) (F 2)) (F 1) 0 (F 2 18) (F 2) (n0 + 1)))))
                  refine v_istore C M dX8_messageLine_138 (by decide) (L' := [(4, vI (bI ((mlS (me5 (F 0) (F 1) (F 2)) (F 1) (n0 + 1)) 8 = 0 ∧ (mlS (me5 (F 0) (F 1) (F 2)) (F 1) (n0 + 1)) 6 = 2))), (3, vI ((n0 : Int) + 1)), (5, vI (lkV (mlS (me5 (F 0) (F 1) (F 2)) (F 1) n0) 0 255)), (0, .ref (ad 0)), (1, vI 0), (2, vI (F 2 18))]) rfl ?_
                  refine v_goto (tgt := 64) C dX8_messageLine_140 (by decide) ?_
                  refine V.loc (L' := [(0, .ref (ad 0)), (1, vI 0), (2, vI (F 2 18)), (3, vI ((n0 : Int) + 1)), (4, vI (bI ((mlS (me5 (F 0) (F 1) (F 2)) (F 1) (n0 + 1)) 8 = 0 ∧ (mlS (me5 (F 0) (F 1) (F 2)) (F 1) (n0 + 1)) 6 = 2)))]) [3, 4, 5, 1, 0] rfl ?_
                  have key := ih (n0 + 1) (by omega) (fun j hj => by
                    by_cases e : j = n0
                    · rw [e]; exact fun h => h c66
                    · exact hno j (by omega)) (by omega)
                  rw [show ((n0 + 1 : Nat) : Int) = (n0 : Int) + 1 by omega] at key
                  exact key
                · skip
                  refine v_iconst C dX8_messageLine_133 ?_
                  refine v_goto (tgt := 138) C dX8_messageLine_134 (by decide) ?_
                  refine V.top (show (1 : Int) = bI ((mlS (me5 (F 0) (F 1) (F 2)) (F 1) (n0 + 1)) 8 = 0 ∧ (mlS (me5 (F 0) (F 1) (F 2)) (F 1) (n0 + 1)) 6 = 2) from (bI_t ⟨c122, c130⟩).symm) ?_
                  show V X 0 0 138 [(3, vI ((n0 : Int) + 1)), (5, vI (lkV (mlS (me5 (F 0) (F 1) (F 2)) (F 1) n0) 0 255)), (0, .ref (ad 0)), (1, vI 0), (2, vI (F 2 18)), (4, vI (bI ((mlS (me5 (F 0) (F 1) (F 2)) (F 1) n0) 8 = 0 ∧ (mlS (me5 (F 0) (F 1) (F 2)) (F 1) n0) 6 = 2)))] [vI (bI ((mlS (me5 (F 0) (F 1) (F 2)) (F 1) (n0 + 1)) 8 = 0 ∧ (mlS (me5 (F 0) (F 1) (F 2)) (F 1) (n0 + 1)) 6 = 2))] ((mW (vG X) ad (up (up F 0 (mlS (me5 (F 0) (F 1) (F 2)) (F 1) (n0 + 1))) 2 (mlN (me5 (F 0) (F 1) (F 2)) (F 1) 0 (F 2 18) (F 2) (n0 + 1)))))
                  refine v_istore C M dX8_messageLine_138 (by decide) (L' := [(4, vI (bI ((mlS (me5 (F 0) (F 1) (F 2)) (F 1) (n0 + 1)) 8 = 0 ∧ (mlS (me5 (F 0) (F 1) (F 2)) (F 1) (n0 + 1)) 6 = 2))), (3, vI ((n0 : Int) + 1)), (5, vI (lkV (mlS (me5 (F 0) (F 1) (F 2)) (F 1) n0) 0 255)), (0, .ref (ad 0)), (1, vI 0), (2, vI (F 2 18))]) rfl ?_
                  refine v_goto (tgt := 64) C dX8_messageLine_140 (by decide) ?_
                  refine V.loc (L' := [(0, .ref (ad 0)), (1, vI 0), (2, vI (F 2 18)), (3, vI ((n0 : Int) + 1)), (4, vI (bI ((mlS (me5 (F 0) (F 1) (F 2)) (F 1) (n0 + 1)) 8 = 0 ∧ (mlS (me5 (F 0) (F 1) (F 2)) (F 1) (n0 + 1)) 6 = 2)))]) [3, 4, 5, 1, 0] rfl ?_
                  have key := ih (n0 + 1) (by omega) (fun j hj => by
                    by_cases e : j = n0
                    · rw [e]; exact fun h => h c66
                    · exact hno j (by omega)) (by omega)
                  rw [show ((n0 + 1 : Nat) : Int) = (n0 : Int) + 1 by omega] at key
                  exact key
            · skip
              have c95 := bI_n0.mp c95
              have h8 : (n0 : Int) < 8 := bI_n0.mp c95.2
              refine v_aload_n C dX8_messageLine_98 rfl 1 rfl ?_
              refine v_get (v := .ref (ad 2)) C inw_8 0 10 rfl (by decide) (List.mem_cons_of_mem _ mw_105) rfl rfl dX8_messageLine_99 ?_
              refine v_iload_n C dX8_messageLine_102 rfl 2 rfl ?_
              refine v_iload_n C dX8_messageLine_103 rfl 3 rfl ?_
              refine v_iload_n C dX8_messageLine_104 rfl 4 rfl ?_
              refine v_callS (na := 3) (wy := (Cond.code yX8_byteOf cX8_byteOf 3 (some .int) :: wsL_law)) (wc := []) (wr := (mW (vG X) ad (up (up F 0 (muM (lkM (mlS (me5 (F 0) (F 1) (F 2)) (F 1) n0) 0 255) (bI ((n0 : Int) < 8)) 4)) 2 (mlN (me5 (F 0) (F 1) (F 2)) (F 1) 0 (F 2 18) (F 2) n0)))) C [vI 0, vI (F 2 18), vI (n0 : Int)] [.ref (ad 2)] (c_X8_byteOf _ _ 0 (F 2 18) (n0 : Int) ) rfl (gwS mw_397 mw_395 mw_396 mw_5) (by decide +kernel) rfl rfl Sb.rf rfl rfl dX8_messageLine_105 (fun r w1 hp105_32 => ?_)
              obtain ⟨rfl, rfl⟩ := hp105_32
              show V X 0 0 108 [(5, vI (lkV (mlS (me5 (F 0) (F 1) (F 2)) (F 1) n0) 0 255)), (0, .ref (ad 0)), (1, vI 0), (2, vI (F 2 18)), (3, vI (n0 : Int)), (4, vI (bI ((mlS (me5 (F 0) (F 1) (F 2)) (F 1) n0) 8 = 0 ∧ (mlS (me5 (F 0) (F 1) (F 2)) (F 1) n0) 6 = 2)))] [vI ((80 + (8 * (0 + (F 2 18)))) + (n0 : Int)), .ref (ad 2)] ((mW (vG X) ad (up (up F 0 (muM (lkM (mlS (me5 (F 0) (F 1) (F 2)) (F 1) n0) 0 255) (bI ((n0 : Int) < 8)) 4)) 2 (mlN (me5 (F 0) (F 1) (F 2)) (F 1) 0 (F 2 18) (F 2) n0))))
              refine v_iload C dX8_messageLine_108 0 rfl ?_
              refine v_iast C 2 rfl (by have := hB2 18; omega) (by have := hB2 18; omega) (by decide) dX8_messageLine_110 (ws' := (mW (vG X) ad (up (up F 0 (muM (lkM (mlS (me5 (F 0) (F 1) (F 2)) (F 1) n0) 0 255) (bI ((n0 : Int) < 8)) 4)) 2 (up (mlN (me5 (F 0) (F 1) (F 2)) (F 1) 0 (F 2 18) (F 2) n0) ((80 + (8 * (0 + (F 2 18)))) + (n0 : Int)) (lkV (mlS (me5 (F 0) (F 1) (F 2)) (F 1) n0) 0 255))))) rfl ?_
              have er33 : (mlN (me5 (F 0) (F 1) (F 2)) (F 1) 0 (F 2 18) (F 2) (n0 + 1)) = (up (mlN (me5 (F 0) (F 1) (F 2)) (F 1) 0 (F 2 18) (F 2) n0) ((80 + (8 * (0 + (F 2 18)))) + (n0 : Int)) (lkV (mlS (me5 (F 0) (F 1) (F 2)) (F 1) n0) 0 255)) := if_pos c95
              rw [← er33]
              show V X 0 0 111 [(5, vI (lkV (mlS (me5 (F 0) (F 1) (F 2)) (F 1) n0) 0 255)), (0, .ref (ad 0)), (1, vI 0), (2, vI (F 2 18)), (3, vI (n0 : Int)), (4, vI (bI ((mlS (me5 (F 0) (F 1) (F 2)) (F 1) n0) 8 = 0 ∧ (mlS (me5 (F 0) (F 1) (F 2)) (F 1) n0) 6 = 2)))] [] ((mW (vG X) ad (up (up F 0 (muM (lkM (mlS (me5 (F 0) (F 1) (F 2)) (F 1) n0) 0 255) (bI ((n0 : Int) < 8)) 4)) 2 (mlN (me5 (F 0) (F 1) (F 2)) (F 1) 0 (F 2 18) (F 2) (n0 + 1)))))
              refine v_iinc C M dX8_messageLine_111 4 rfl (by decide) (z' := ((n0 : Int) + 1)) rfl (L' := [(3, vI ((n0 : Int) + 1)), (5, vI (lkV (mlS (me5 (F 0) (F 1) (F 2)) (F 1) n0) 0 255)), (0, .ref (ad 0)), (1, vI 0), (2, vI (F 2 18)), (4, vI (bI ((mlS (me5 (F 0) (F 1) (F 2)) (F 1) n0) 8 = 0 ∧ (mlS (me5 (F 0) (F 1) (F 2)) (F 1) n0) 6 = 2)))]) rfl ?_
              refine v_aload_n C dX8_messageLine_114 rfl 2 rfl ?_
              refine v_callV (na := 0) (wy := (Cond.code yX8_goOn cX8_goOn 1 none :: wsL_law)) (wc := (mW (vG X) ad (up (up F 0 (muM (lkM (mlS (me5 (F 0) (F 1) (F 2)) (F 1) n0) 0 255) (bI ((n0 : Int) < 8)) 4)) 2 (mlN (me5 (F 0) (F 1) (F 2)) (F 1) 0 (F 2 18) (F 2) (n0 + 1))))) (wr := []) C [] [] (c_X8_goOn _ _ ad (up (up F 0 (muM (lkM (mlS (me5 (F 0) (F 1) (F 2)) (F 1) n0) 0 255) (bI ((n0 : Int) < 8)) 4)) 2 (mlN (me5 (F 0) (F 1) (F 2)) (F 1) 0 (F 2 18) (F 2) (n0 + 1))) rm26_ hB1) rfl (gwV mw_374 mw_371 mw_372 mw_373 mw_5) rfl (by decide +kernel) 0 rfl rfl rfl rfl Sb.w rfl rfl dX8_messageLine_115 (fun r w1 hp115_34 => ?_)
              obtain ⟨rfl, rfl⟩ := hp115_34
              show V X 0 0 118 [(3, vI ((n0 : Int) + 1)), (5, vI (lkV (mlS (me5 (F 0) (F 1) (F 2)) (F 1) n0) 0 255)), (0, .ref (ad 0)), (1, vI 0), (2, vI (F 2 18)), (4, vI (bI ((mlS (me5 (F 0) (F 1) (F 2)) (F 1) n0) 8 = 0 ∧ (mlS (me5 (F 0) (F 1) (F 2)) (F 1) n0) 6 = 2)))] [] ((mW (vG X) ad (up (up F 0 (goM (muM (lkM (mlS (me5 (F 0) (F 1) (F 2)) (F 1) n0) 0 255) (bI ((n0 : Int) < 8)) 4) (F 1))) 2 (mlN (me5 (F 0) (F 1) (F 2)) (F 1) 0 (F 2 18) (F 2) (n0 + 1)))))
              have rm35_ : RM (goM (muM (lkM (mlS (me5 (F 0) (F 1) (F 2)) (F 1) n0) 0 255) (bI ((n0 : Int) < 8)) 4) (F 1)) := goM_ok rm26_ hB1
              have er36 : (mlS (me5 (F 0) (F 1) (F 2)) (F 1) (n0 + 1)) = (goM (muM (lkM (mlS (me5 (F 0) (F 1) (F 2)) (F 1) n0) 0 255) (bI ((n0 : Int) < 8)) 4) (F 1)) := rfl
              rw [← er36]
              show V X 0 0 118 [(3, vI ((n0 : Int) + 1)), (5, vI (lkV (mlS (me5 (F 0) (F 1) (F 2)) (F 1) n0) 0 255)), (0, .ref (ad 0)), (1, vI 0), (2, vI (F 2 18)), (4, vI (bI ((mlS (me5 (F 0) (F 1) (F 2)) (F 1) n0) 8 = 0 ∧ (mlS (me5 (F 0) (F 1) (F 2)) (F 1) n0) 6 = 2)))] [] ((mW (vG X) ad (up (up F 0 (mlS (me5 (F 0) (F 1) (F 2)) (F 1) (n0 + 1))) 2 (mlN (me5 (F 0) (F 1) (F 2)) (F 1) 0 (F 2 18) (F 2) (n0 + 1)))))
              have rm37_ : RM (mlS (me5 (F 0) (F 1) (F 2)) (F 1) (n0 + 1)) := mlS_ok (me5_ok ho hB1) hB1 (n0 + 1)
              refine v_aload_n C dX8_messageLine_118 rfl 2 rfl ?_
              refine v_get (v := vI ((mlS (me5 (F 0) (F 1) (F 2)) (F 1) (n0 + 1)) 8)) C inw_8 0 8 rfl (by decide) (List.mem_cons_of_mem _ mw_336) rfl rfl dX8_messageLine_119 ?_
              refine v_if_ne (tgt := 137) C dX8_messageLine_122 (by decide) (by have := RM_b8 rm37_; first | assumption | exact ⟨by omega, by omega⟩) (fun c122 => ?_) (fun c122 => ?_)
              · skip
                refine v_iconst C dX8_messageLine_137 ?_
                refine V.top (show (0 : Int) = bI ((mlS (me5 (F 0) (F 1) (F 2)) (F 1) (n0 + 1)) 8 = 0 ∧ (mlS (me5 (F 0) (F 1) (F 2)) (F 1) (n0 + 1)) 6 = 2) from (bI_f (fun h => c122 h.1)).symm) ?_
                show V X 0 0 138 [(3, vI ((n0 : Int) + 1)), (5, vI (lkV (mlS (me5 (F 0) (F 1) (F 2)) (F 1) n0) 0 255)), (0, .ref (ad 0)), (1, vI 0), (2, vI (F 2 18)), (4, vI (bI ((mlS (me5 (F 0) (F 1) (F 2)) (F 1) n0) 8 = 0 ∧ (mlS (me5 (F 0) (F 1) (F 2)) (F 1) n0) 6 = 2)))] [vI (bI ((mlS (me5 (F 0) (F 1) (F 2)) (F 1) (n0 + 1)) 8 = 0 ∧ (mlS (me5 (F 0) (F 1) (F 2)) (F 1) (n0 + 1)) 6 = 2))] ((mW (vG X) ad (up (up F 0 (mlS (me5 (F 0) (F 1) (F 2)) (F 1) (n0 + 1))) 2 (mlN (me5 (F 0) (F 1) (F 2)) (F 1) 0 (F 2 18) (F 2) (n0 + 1)))))
                refine v_istore C M dX8_messageLine_138 (by decide) (L' := [(4, vI (bI ((mlS (me5 (F 0) (F 1) (F 2)) (F 1) (n0 + 1)) 8 = 0 ∧ (mlS (me5 (F 0) (F 1) (F 2)) (F 1) (n0 + 1)) 6 = 2))), (3, vI ((n0 : Int) + 1)), (5, vI (lkV (mlS (me5 (F 0) (F 1) (F 2)) (F 1) n0) 0 255)), (0, .ref (ad 0)), (1, vI 0), (2, vI (F 2 18))]) rfl ?_
                refine v_goto (tgt := 64) C dX8_messageLine_140 (by decide) ?_
                refine V.loc (L' := [(0, .ref (ad 0)), (1, vI 0), (2, vI (F 2 18)), (3, vI ((n0 : Int) + 1)), (4, vI (bI ((mlS (me5 (F 0) (F 1) (F 2)) (F 1) (n0 + 1)) 8 = 0 ∧ (mlS (me5 (F 0) (F 1) (F 2)) (F 1) (n0 + 1)) 6 = 2)))]) [3, 4, 5, 1, 0] rfl ?_
                have key := ih (n0 + 1) (by omega) (fun j hj => by
                  by_cases e : j = n0
                  · rw [e]; exact fun h => h c66
                  · exact hno j (by omega)) (by omega)
                rw [show ((n0 + 1 : Nat) : Int) = (n0 : Int) + 1 by omega] at key
                exact key
              · skip
                refine v_aload_n C dX8_messageLine_125 rfl 2 rfl ?_
                refine v_get (v := vI ((mlS (me5 (F 0) (F 1) (F 2)) (F 1) (n0 + 1)) 6)) C inw_8 0 6 rfl (by decide) (List.mem_cons_of_mem _ mw_339) rfl rfl dX8_messageLine_126 ?_
                refine v_iconst C dX8_messageLine_129 ?_
                refine v_icmp_ne (tgt := 137) C dX8_messageLine_130 (by decide) (by have := RM_b6 rm37_; first | assumption | exact ⟨by omega, by omega⟩) (by decide) (fun c130 => ?_) (fun c130 => ?_)
                · skip
                  refine v_iconst C dX8_messageLine_137 ?_
                  refine V.top (show (0 : Int) = bI ((mlS (me5 (F 0) (F 1) (F 2)) (F 1) (n0 + 1)) 8 = 0 ∧ (mlS (me5 (F 0) (F 1) (F 2)) (F 1) (n0 + 1)) 6 = 2) from (bI_f (fun h => c130 h.2)).symm) ?_
                  show V X 0 0 138 [(3, vI ((n0 : Int) + 1)), (5, vI (lkV (mlS (me5 (F 0) (F 1) (F 2)) (F 1) n0) 0 255)), (0, .ref (ad 0)), (1, vI 0), (2, vI (F 2 18)), (4, vI (bI ((mlS (me5 (F 0) (F 1) (F 2)) (F 1) n0) 8 = 0 ∧ (mlS (me5 (F 0) (F 1) (F 2)) (F 1) n0) 6 = 2)))] [vI (bI ((mlS (me5 (F 0) (F 1) (F 2)) (F 1) (n0 + 1)) 8 = 0 ∧ (mlS (me5 (F 0) (F 1) (F 2)) (F 1) (n0 + 1)) 6 = 2))] ((mW (vG X) ad (up (up F 0 (mlS (me5 (F 0) (F 1) (F 2)) (F 1) (n0 + 1))) 2 (mlN (me5 (F 0) (F 1) (F 2)) (F 1) 0 (F 2 18) (F 2) (n0 + 1)))))
                  refine v_istore C M dX8_messageLine_138 (by decide) (L' := [(4, vI (bI ((mlS (me5 (F 0) (F 1) (F 2)) (F 1) (n0 + 1)) 8 = 0 ∧ (mlS (me5 (F 0) (F 1) (F 2)) (F 1) (n0 + 1)) 6 = 2))), (3, vI ((n0 : Int) + 1)), (5, vI (lkV (mlS (me5 (F 0) (F 1) (F 2)) (F 1) n0) 0 255)), (0, .ref (ad 0)), (1, vI 0), (2, vI (F 2 18))]) rfl ?_
                  refine v_goto (tgt := 64) C dX8_messageLine_140 (by decide) ?_
                  refine V.loc (L' := [(0, .ref (ad 0)), (1, vI 0), (2, vI (F 2 18)), (3, vI ((n0 : Int) + 1)), (4, vI (bI ((mlS (me5 (F 0) (F 1) (F 2)) (F 1) (n0 + 1)) 8 = 0 ∧ (mlS (me5 (F 0) (F 1) (F 2)) (F 1) (n0 + 1)) 6 = 2)))]) [3, 4, 5, 1, 0] rfl ?_
                  have key := ih (n0 + 1) (by omega) (fun j hj => by
                    by_cases e : j = n0
                    · rw [e]; exact fun h => h c66
                    · exact hno j (by omega)) (by omega)
                  rw [show ((n0 + 1 : Nat) : Int) = (n0 : Int) + 1 by omega] at key
                  exact key
                · skip
                  refine v_iconst C dX8_messageLine_133 ?_
                  refine v_goto (tgt := 138) C dX8_messageLine_134 (by decide) ?_
                  refine V.top (show (1 : Int) = bI ((mlS (me5 (F 0) (F 1) (F 2)) (F 1) (n0 + 1)) 8 = 0 ∧ (mlS (me5 (F 0) (F 1) (F 2)) (F 1) (n0 + 1)) 6 = 2) from (bI_t ⟨c122, c130⟩).symm) ?_
                  show V X 0 0 138 [(3, vI ((n0 : Int) + 1)), (5, vI (lkV (mlS (me5 (F 0) (F 1) (F 2)) (F 1) n0) 0 255)), (0, .ref (ad 0)), (1, vI 0), (2, vI (F 2 18)), (4, vI (bI ((mlS (me5 (F 0) (F 1) (F 2)) (F 1) n0) 8 = 0 ∧ (mlS (me5 (F 0) (F 1) (F 2)) (F 1) n0) 6 = 2)))] [vI (bI ((mlS (me5 (F 0) (F 1) (F 2)) (F 1) (n0 + 1)) 8 = 0 ∧ (mlS (me5 (F 0) (F 1) (F 2)) (F 1) (n0 + 1)) 6 = 2))] ((mW (vG X) ad (up (up F 0 (mlS (me5 (F 0) (F 1) (F 2)) (F 1) (n0 + 1))) 2 (mlN (me5 (F 0) (F 1) (F 2)) (F 1) 0 (F 2 18) (F 2) (n0 + 1)))))
                  refine v_istore C M dX8_messageLine_138 (by decide) (L' := [(4, vI (bI ((mlS (me5 (F 0) (F 1) (F 2)) (F 1) (n0 + 1)) 8 = 0 ∧ (mlS (me5 (F 0) (F 1) (F 2)) (F 1) (n0 + 1)) 6 = 2))), (3, vI ((n0 : Int) + 1)), (5, vI (lkV (mlS (me5 (F 0) (F 1) (F 2)) (F 1) n0) 0 255)), (0, .ref (ad 0)), (1, vI 0), (2, vI (F 2 18))]) rfl ?_
                  refine v_goto (tgt := 64) C dX8_messageLine_140 (by decide) ?_
                  refine V.loc (L' := [(0, .ref (ad 0)), (1, vI 0), (2, vI (F 2 18)), (3, vI ((n0 : Int) + 1)), (4, vI (bI ((mlS (me5 (F 0) (F 1) (F 2)) (F 1) (n0 + 1)) 8 = 0 ∧ (mlS (me5 (F 0) (F 1) (F 2)) (F 1) (n0 + 1)) 6 = 2)))]) [3, 4, 5, 1, 0] rfl ?_
                  have key := ih (n0 + 1) (by omega) (fun j hj => by
                    by_cases e : j = n0
                    · rw [e]; exact fun h => h c66
                    · exact hno j (by omega)) (by omega)
                  rw [show ((n0 + 1 : Nat) : Int) = (n0 : Int) + 1 by omega] at key
                  exact key
      exact lp 11 0 (by omega) (fun j hj => absurd hj (by omega)) (by omega)
    · skip
      have c34 := bI_0.mp c34
      rw [← em] at c34
      have er38 : (me3 (F 0) (F 1) (F 2)) = (muM (wl2 (F 0) (F 1)) (bI ((F 2 18) < 20)) 4) := by unfold me3; rw [em]
      rw [← er38]
      show V X 0 0 37 [(2, vI (F 2 18)), (1, vI 0), (0, .ref (ad 0))] [] ((mW (vG X) ad (up F 0 (me3 (F 0) (F 1) (F 2)))))
      exact v_vret C E rfl dX8_messageLine_37 (by decide) (by decide) (⟨rfl, by rw [show (msS (F 0) (F 1) (F 2)) = _ from if_neg c34, show (msN (F 0) (F 1) (F 2)) = _ from if_neg c34] <;> rfl⟩)
  · skip
    rw [es]
    show V X 0 0 11 [(1, vI 1), (0, .ref (ad 0))] [] ((mW (vG X) ad (up F 0 (wl2 (F 0) (F 1)))))
    refine v_aload_n C dX8_messageLine_11 rfl 1 rfl ?_
    refine v_iload_n C dX8_messageLine_12 rfl 0 rfl ?_
    refine v_iconst C dX8_messageLine_13 ?_
    refine v_callV (na := 2) (wy := (Cond.code yX8_of cX8_of 3 (some .int) :: wsL_law)) (wc := (mW (vG X) ad (up F 0 (wl2 (F 0) (F 1))))) (wr := []) C [vI 1, vI 0] [] (c_X8_of _ _ ad (up F 0 (wl2 (F 0) (F 1))) 1 0 (by decide) (by decide)) rfl (gwV mw_129 mw_126 mw_127 mw_128 mw_5) rfl (by decide +kernel) 0 rfl rfl rfl rfl Sb.w rfl rfl dX8_messageLine_14 (fun r w1 hp14_39 => ?_)
    obtain ⟨rfl, rfl⟩ := hp14_39
    show V X 0 0 17 [(1, vI 1), (0, .ref (ad 0))] [vI (F 2 29)] ((mW (vG X) ad (up F 0 (wl2 (F 0) (F 1)))))
    refine v_istore_n C M dX8_messageLine_17 rfl (by decide) (L' := [(2, vI (F 2 29)), (1, vI 1), (0, .ref (ad 0))]) rfl ?_
    refine v_aload_n C dX8_messageLine_18 rfl 2 rfl ?_
    refine v_iload_n C dX8_messageLine_19 rfl 0 rfl ?_
    refine v_bipush C dX8_messageLine_20 (by decide +kernel) ?_
    suffices mrg : V X 0 0 30 [(2, vI (F 2 29)), (1, vI 1), (0, .ref (ad 0))] [vI (bI ((F 2 29) < 20)), .ref (ad 0)] ((mW (vG X) ad (up F 0 (wl2 (F 0) (F 1))))) by
      refine v_icmp_ge (tgt := 29) C dX8_messageLine_22 (by decide) (by have := hB2 29; first | assumption | exact ⟨by omega, by omega⟩) (by decide) (fun c22 => ?_) (fun c22 => ?_)
      · skip
        refine v_iconst C dX8_messageLine_29 ?_
        exact V.top (bI_f (by omega)).symm mrg
      · skip
        refine v_iconst C dX8_messageLine_25 ?_
        refine v_goto (tgt := 30) C dX8_messageLine_26 (by decide) ?_
        exact V.top (bI_t (by omega)).symm mrg
    have em : F 2 (18 + 11 * (wlst (F 0) (F 1)) + 0) = F 2 29 := by rw [show 18 + 11 * (wlst (F 0) (F 1)) + 0 = 29 by omega]
    refine v_iconst C dX8_messageLine_30 ?_
    refine v_callV (na := 2) (wy := (Cond.code yX8_must cX8_must 3 (some .boolean) :: wsL_law)) (wc := (mW (vG X) ad (up F 0 (wl2 (F 0) (F 1))))) (wr := []) C [vI (bI ((F 2 29) < 20)), vI 4] [] (c_X8_must _ _ ad (up F 0 (wl2 (F 0) (F 1))) (bI ((F 2 29) < 20)) 4 rm7_ hB1 bI_01 (by decide)) rfl (gwV mw_370 mw_367 mw_368 mw_369 mw_5) rfl (by decide +kernel) 0 rfl rfl rfl rfl Sb.w rfl rfl dX8_messageLine_31 (fun r w1 hp31_40 => ?_)
    obtain ⟨rfl, rfl⟩ := hp31_40
    show V X 0 0 34 [(2, vI (F 2 29)), (1, vI 1), (0, .ref (ad 0))] [vI (bI ((wl2 (F 0) (F 1)) 8 = 0 ∧ ¬ (bI ((F 2 29) < 20)) = 0))] ((mW (vG X) ad (up F 0 (muM (wl2 (F 0) (F 1)) (bI ((F 2 29) < 20)) 4))))
    have rm41_ : RM (muM (wl2 (F 0) (F 1)) (bI ((F 2 29) < 20)) 4) := muM_ok rm7_ (by decide)
    refine v_if_ne (tgt := 38) C dX8_messageLine_34 (by decide) sm_bI (fun c34 => ?_) (fun c34 => ?_)
    · skip
      have c34 := bI_n0.mp c34
      have hm20 : F 2 29 < 20 := bI_n0.mp c34.2
      rw [← em] at c34
      have er42 : (me3 (F 0) (F 1) (F 2)) = (muM (wl2 (F 0) (F 1)) (bI ((F 2 29) < 20)) 4) := by unfold me3; rw [em]
      rw [← er42]
      show V X 0 0 38 [(2, vI (F 2 29)), (1, vI 1), (0, .ref (ad 0))] [] ((mW (vG X) ad (up F 0 (me3 (F 0) (F 1) (F 2)))))
      have rm43_ : RM (me3 (F 0) (F 1) (F 2)) := muM_ok (lkM_ok (goM_ok ho hB1)) (by decide)
      refine v_aload_n C dX8_messageLine_38 rfl 2 rfl ?_
      refine v_callV (na := 0) (wy := (Cond.code yX8_goOn cX8_goOn 1 none :: wsL_law)) (wc := (mW (vG X) ad (up F 0 (me3 (F 0) (F 1) (F 2))))) (wr := []) C [] [] (c_X8_goOn _ _ ad (up F 0 (me3 (F 0) (F 1) (F 2))) rm43_ hB1) rfl (gwV mw_374 mw_371 mw_372 mw_373 mw_5) rfl (by decide +kernel) 0 rfl rfl rfl rfl Sb.w rfl rfl dX8_messageLine_39 (fun r w1 hp39_44 => ?_)
      obtain ⟨rfl, rfl⟩ := hp39_44
      show V X 0 0 42 [(2, vI (F 2 29)), (1, vI 1), (0, .ref (ad 0))] [] ((mW (vG X) ad (up F 0 (goM (me3 (F 0) (F 1) (F 2)) (F 1)))))
      have rm45_ : RM (goM (me3 (F 0) (F 1) (F 2)) (F 1)) := goM_ok rm43_ hB1
      refine v_iconst C dX8_messageLine_42 ?_
      refine v_istore_n C M dX8_messageLine_43 rfl (by decide) (L' := [(3, vI 0), (2, vI (F 2 29)), (1, vI 1), (0, .ref (ad 0))]) rfl ?_
      refine v_aload_n C dX8_messageLine_44 rfl 3 rfl ?_
      refine v_aload_n C dX8_messageLine_45 rfl 3 rfl ?_
      refine v_get (v := vI ((goM (me3 (F 0) (F 1) (F 2)) (F 1)) 6)) C inw_8 0 6 rfl (by decide) (List.mem_cons_of_mem _ mw_339) rfl rfl dX8_messageLine_46 ?_
      refine v_iconst C dX8_messageLine_49 ?_
      suffices mrg : V X 0 0 58 [(3, vI 0), (2, vI (F 2 29)), (1, vI 1), (0, .ref (ad 0))] [vI (bI (((goM (me3 (F 0) (F 1) (F 2)) (F 1)) 6) = 2)), .ref (ad 0)] ((mW (vG X) ad (up F 0 (goM (me3 (F 0) (F 1) (F 2)) (F 1))))) by
        refine v_icmp_ne (tgt := 57) C dX8_messageLine_50 (by decide) (by have := RM_b6 rm45_; first | assumption | exact ⟨by omega, by omega⟩) (by decide) (fun c50 => ?_) (fun c50 => ?_)
        · skip
          refine v_iconst C dX8_messageLine_57 ?_
          exact V.top (bI_f (by omega)).symm mrg
        · skip
          refine v_iconst C dX8_messageLine_53 ?_
          refine v_goto (tgt := 58) C dX8_messageLine_54 (by decide) ?_
          exact V.top (bI_t (by omega)).symm mrg
      refine v_iconst C dX8_messageLine_58 ?_
      refine v_callV (na := 2) (wy := (Cond.code yX8_must cX8_must 3 (some .boolean) :: wsL_law)) (wc := (mW (vG X) ad (up F 0 (goM (me3 (F 0) (F 1) (F 2)) (F 1))))) (wr := []) C [vI (bI (((goM (me3 (F 0) (F 1) (F 2)) (F 1)) 6) = 2)), vI 1] [] (c_X8_must _ _ ad (up F 0 (goM (me3 (F 0) (F 1) (F 2)) (F 1))) (bI (((goM (me3 (F 0) (F 1) (F 2)) (F 1)) 6) = 2)) 1 rm45_ hB1 bI_01 (by decide)) rfl (gwV mw_370 mw_367 mw_368 mw_369 mw_5) rfl (by decide +kernel) 0 rfl rfl rfl rfl Sb.w rfl rfl dX8_messageLine_59 (fun r w1 hp59_46 => ?_)
      obtain ⟨rfl, rfl⟩ := hp59_46
      show V X 0 0 62 [(3, vI 0), (2, vI (F 2 29)), (1, vI 1), (0, .ref (ad 0))] [vI (bI ((goM (me3 (F 0) (F 1) (F 2)) (F 1)) 8 = 0 ∧ ¬ (bI (((goM (me3 (F 0) (F 1) (F 2)) (F 1)) 6) = 2)) = 0))] ((mW (vG X) ad (up F 0 (muM (goM (me3 (F 0) (F 1) (F 2)) (F 1)) (bI (((goM (me3 (F 0) (F 1) (F 2)) (F 1)) 6) = 2)) 1))))
      have rm47_ : RM (muM (goM (me3 (F 0) (F 1) (F 2)) (F 1)) (bI (((goM (me3 (F 0) (F 1) (F 2)) (F 1)) 6) = 2)) 1) := muM_ok rm45_ (by decide)
      have er48 : (me5 (F 0) (F 1) (F 2)) = (muM (goM (me3 (F 0) (F 1) (F 2)) (F 1)) (bI (((goM (me3 (F 0) (F 1) (F 2)) (F 1)) 6) = 2)) 1) := rfl
      rw [← er48]
      show V X 0 0 62 [(3, vI 0), (2, vI (F 2 29)), (1, vI 1), (0, .ref (ad 0))] [vI (bI ((goM (me3 (F 0) (F 1) (F 2)) (F 1)) 8 = 0 ∧ ¬ (bI (((goM (me3 (F 0) (F 1) (F 2)) (F 1)) 6) = 2)) = 0))] ((mW (vG X) ad (up F 0 (me5 (F 0) (F 1) (F 2)))))
      have rm49_ : RM (me5 (F 0) (F 1) (F 2)) := muM_ok (goM_ok (muM_ok (lkM_ok (goM_ok ho hB1)) (by decide)) hB1) (by decide)
      refine V.top (show _ = bI ((mlS (me5 (F 0) (F 1) (F 2)) (F 1) 0) 8 = 0 ∧ (mlS (me5 (F 0) (F 1) (F 2)) (F 1) 0) 6 = 2) from me5_g) ?_
      show V X 0 0 62 [(3, vI 0), (2, vI (F 2 29)), (1, vI 1), (0, .ref (ad 0))] [vI (bI ((mlS (me5 (F 0) (F 1) (F 2)) (F 1) 0) 8 = 0 ∧ (mlS (me5 (F 0) (F 1) (F 2)) (F 1) 0) 6 = 2))] ((mW (vG X) ad (up F 0 (me5 (F 0) (F 1) (F 2)))))
      refine v_istore C M dX8_messageLine_62 (by decide) (L' := [(4, vI (bI ((mlS (me5 (F 0) (F 1) (F 2)) (F 1) 0) 8 = 0 ∧ (mlS (me5 (F 0) (F 1) (F 2)) (F 1) 0) 6 = 2))), (3, vI 0), (2, vI (F 2 29)), (1, vI 1), (0, .ref (ad 0))]) rfl ?_
      refine V.loc (L' := [(0, .ref (ad 0)), (1, vI 1), (2, vI (F 2 29)), (3, vI 0), (4, vI (bI ((mlS (me5 (F 0) (F 1) (F 2)) (F 1) 0) 8 = 0 ∧ (mlS (me5 (F 0) (F 1) (F 2)) (F 1) 0) 6 = 2)))]) [4, 3, 2, 1, 0] rfl ?_
      have lp : ∀ (n : Nat) (n0 : Nat) (hn0 : n0 ≤ 9) (hno : ∀ j : Nat, j < n0 → ¬ (fun k : Nat => ¬ ((mlS (me5 (F 0) (F 1) (F 2)) (F 1) k) 8 = 0 ∧ (mlS (me5 (F 0) (F 1) (F 2)) (F 1) k) 6 = 2)) j) (hm : 10 - (n0 : Int) < (n : Int)), V X 0 0 64 [(0, .ref (ad 0)), (1, vI 1), (2, vI (F 2 29)), (3, vI (n0 : Int)), (4, vI (bI ((mlS (me5 (F 0) (F 1) (F 2)) (F 1) n0) 8 = 0 ∧ (mlS (me5 (F 0) (F 1) (F 2)) (F 1) n0) 6 = 2)))] [] ((mW (vG X) ad (up (up F 0 (mlS (me5 (F 0) (F 1) (F 2)) (F 1) n0)) 2 (mlN (me5 (F 0) (F 1) (F 2)) (F 1) 1 (F 2 29) (F 2) n0)))) := by
        intro n
        induction n with
        | zero => intro n0 hn0 hno hm; exact absurd hm (by omega)
        | succ n ih =>
          intro n0 hn0 hno hm
          have rm50_ : RM (mlS (me5 (F 0) (F 1) (F 2)) (F 1) n0) := mlS_ok (me5_ok ho hB1) hB1 n0
          refine v_iload C dX8_messageLine_64 4 rfl ?_
          refine v_if_eq (tgt := 143) C dX8_messageLine_66 (by decide) sm_bI (fun c66 => ?_) (fun c66 => ?_)
          · skip
            have c66 := bI_0.mp c66
            have en : n0 = (mlK (me5 (F 0) (F 1) (F 2)) (F 1)) := skN_u _ _ hno (by omega) (Or.inl c66)
            refine v_aload_n C dX8_messageLine_143 rfl 0 rfl ?_
            refine v_get (v := vI ((mlS (me5 (F 0) (F 1) (F 2)) (F 1) n0) 8)) C inw_8 0 8 rfl (by decide) (List.mem_cons_of_mem _ mw_336) rfl rfl dX8_messageLine_144 ?_
            refine v_if_eq (tgt := 151) C dX8_messageLine_147 (by decide) (by have := RM_b8 rm50_; first | assumption | exact ⟨by omega, by omega⟩) (fun c147 => ?_) (fun c147 => ?_)
            · skip
              refine v_aload_n C dX8_messageLine_151 rfl 0 rfl ?_
              refine v_get (v := .ref (ad 2)) C inw_8 0 10 rfl (by decide) (List.mem_cons_of_mem _ mw_105) rfl rfl dX8_messageLine_152 ?_
              refine v_iload_n C dX8_messageLine_155 rfl 1 rfl ?_
              refine v_iload_n C dX8_messageLine_156 rfl 2 rfl ?_
              refine v_callS (na := 2) (wy := (Cond.code yX8_lengthAt cX8_lengthAt 2 (some .int) :: wsL_law)) (wc := []) (wr := (mW (vG X) ad (up (up F 0 (mlS (me5 (F 0) (F 1) (F 2)) (F 1) n0)) 2 (mlN (me5 (F 0) (F 1) (F 2)) (F 1) 1 (F 2 29) (F 2) n0)))) C [vI 1, vI (F 2 29)] [.ref (ad 2)] (c_X8_lengthAt _ _ 1 (F 2 29) ) rfl (gwS mw_400 mw_398 mw_399 mw_5) (by decide +kernel) rfl rfl Sb.rf rfl rfl dX8_messageLine_157 (fun r w1 hp157_51 => ?_)
              obtain ⟨rfl, rfl⟩ := hp157_51
              show V X 0 0 160 [(0, .ref (ad 0)), (1, vI 1), (2, vI (F 2 29)), (3, vI (n0 : Int)), (4, vI (bI ((mlS (me5 (F 0) (F 1) (F 2)) (F 1) n0) 8 = 0 ∧ (mlS (me5 (F 0) (F 1) (F 2)) (F 1) n0) 6 = 2)))] [vI (60 + (F 2 29)), .ref (ad 2)] ((mW (vG X) ad (up (up F 0 (mlS (me5 (F 0) (F 1) (F 2)) (F 1) n0)) 2 (mlN (me5 (F 0) (F 1) (F 2)) (F 1) 1 (F 2 29) (F 2) n0))))
              refine v_iload_n C dX8_messageLine_160 rfl 3 rfl ?_
              refine v_iast C 2 rfl (by have := hB2 29; omega) (by have := hB2 29; omega) (by decide) dX8_messageLine_161 (ws' := (mW (vG X) ad (up (up F 0 (mlS (me5 (F 0) (F 1) (F 2)) (F 1) n0)) 2 (up (mlN (me5 (F 0) (F 1) (F 2)) (F 1) 1 (F 2 29) (F 2) n0) (60 + (F 2 29)) (n0 : Int))))) rfl ?_
              refine v_aload_n C dX8_messageLine_162 rfl 0 rfl ?_
              refine v_get (v := .ref (ad 2)) C inw_8 0 10 rfl (by decide) (List.mem_cons_of_mem _ mw_105) rfl rfl dX8_messageLine_163 ?_
              refine v_iload_n C dX8_messageLine_166 rfl 1 rfl ?_
              refine v_iconst C dX8_messageLine_167 ?_
              refine v_callS (na := 2) (wy := (Cond.code yX8_at cX8_at 2 (some .int) :: wsL_law)) (wc := []) (wr := (mW (vG X) ad (up (up F 0 (mlS (me5 (F 0) (F 1) (F 2)) (F 1) n0)) 2 (up (mlN (me5 (F 0) (F 1) (F 2)) (F 1) 1 (F 2 29) (F 2) n0) (60 + (F 2 29)) (n0 : Int))))) C [vI 1, vI 0] [.ref (ad 2)] (c_X8_at _ _ 1 0 ) rfl (gwS mw_120 mw_118 mw_119 mw_5) (by decide +kernel) rfl rfl Sb.rf rfl rfl dX8_messageLine_168 (fun r w1 hp168_52 => ?_)
              obtain ⟨rfl, rfl⟩ := hp168_52
              show V X 0 0 171 [(0, .ref (ad 0)), (1, vI 1), (2, vI (F 2 29)), (3, vI (n0 : Int)), (4, vI (bI ((mlS (me5 (F 0) (F 1) (F 2)) (F 1) n0) 8 = 0 ∧ (mlS (me5 (F 0) (F 1) (F 2)) (F 1) n0) 6 = 2)))] [vI 29, .ref (ad 2)] ((mW (vG X) ad (up (up F 0 (mlS (me5 (F 0) (F 1) (F 2)) (F 1) n0)) 2 (up (mlN (me5 (F 0) (F 1) (F 2)) (F 1) 1 (F 2 29) (F 2) n0) (60 + (F 2 29)) (n0 : Int)))))
              refine v_dup2 C dX8_messageLine_171 rfl rfl ?_
              refine v_iald C 2 rfl (by decide) (by decide) (by decide) dX8_messageLine_172 ?_
              show V X 0 0 173 [(0, .ref (ad 0)), (1, vI 1), (2, vI (F 2 29)), (3, vI (n0 : Int)), (4, vI (bI ((mlS (me5 (F 0) (F 1) (F 2)) (F 1) n0) 8 = 0 ∧ (mlS (me5 (F 0) (F 1) (F 2)) (F 1) n0) 6 = 2)))] [vI ((up (mlN (me5 (F 0) (F 1) (F 2)) (F 1) 1 (F 2 29) (F 2) n0) (60 + (F 2 29)) (n0 : Int)) 29), vI 29, .ref (ad 2)] ((mW (vG X) ad (up (up F 0 (mlS (me5 (F 0) (F 1) (F 2)) (F 1) n0)) 2 (up (mlN (me5 (F 0) (F 1) (F 2)) (F 1) 1 (F 2 29) (F 2) n0) (60 + (F 2 29)) (n0 : Int)))))
              rw [up_n (show (29 : Int) ≠ (60 + (F 2 29)) by have := hB2 29; omega)]
              refine v_iconst C dX8_messageLine_173 ?_
              refine v_iadd C dX8_messageLine_174 ?_
              refine v_iast C 2 rfl (by decide) (by decide) (by decide) dX8_messageLine_175 (ws' := (mW (vG X) ad (up (up F 0 (mlS (me5 (F 0) (F 1) (F 2)) (F 1) n0)) 2 (up (up (mlN (me5 (F 0) (F 1) (F 2)) (F 1) 1 (F 2 29) (F 2) n0) (60 + (F 2 29)) (n0 : Int)) 29 (((mlN (me5 (F 0) (F 1) (F 2)) (F 1) 1 (F 2 29) (F 2) n0) 29) + 1))))) rfl ?_
              exact v_vret C E rfl dX8_messageLine_176 (by decide) (by decide) (⟨rfl, by rw [show (msS (F 0) (F 1) (F 2)) = (mlS (me5 (F 0) (F 1) (F 2)) (F 1) n0) from (if_pos c34).trans (by rw [en]), show (msN (F 0) (F 1) (F 2)) = _ from (if_pos c34).trans (if_pos (show (mlS (me5 (F 0) (F 1) (F 2)) (F 1) (mlK (me5 (F 0) (F 1) (F 2)) (F 1))) 8 = 0 by rw [← en]; exact c147)), es, ← en] <;> rfl⟩)
            · skip
              exact v_vret C E rfl dX8_messageLine_150 (by decide) (by decide) (⟨rfl, by rw [show (msS (F 0) (F 1) (F 2)) = (mlS (me5 (F 0) (F 1) (F 2)) (F 1) n0) from (if_pos c34).trans (by rw [en]), show (msN (F 0) (F 1) (F 2)) = _ from (if_pos c34).trans (if_neg (show ¬ (mlS (me5 (F 0) (F 1) (F 2)) (F 1) (mlK (me5 (F 0) (F 1) (F 2)) (F 1))) 8 = 0 by rw [← en]; exact c147)), es, ← en] <;> rfl⟩)
          · skip
            have c66 := bI_n0.mp c66
            have h9 : n0 ≠ 9 := fun e => ml9 (e ▸ c66.1)
            refine v_aload_n C dX8_messageLine_69 rfl 0 rfl ?_
            refine v_iconst C dX8_messageLine_70 ?_
            refine v_sipush C dX8_messageLine_71 (by decide +kernel) ?_
            refine v_callV (na := 2) (wy := (Cond.code yX8_look cX8_look 3 (some .int) :: wsL_law)) (wc := (mW (vG X) ad (up (up F 0 (mlS (me5 (F 0) (F 1) (F 2)) (F 1) n0)) 2 (mlN (me5 (F 0) (F 1) (F 2)) (F 1) 1 (F 2 29) (F 2) n0)))) (wr := []) C [vI 0, vI 255] [] (c_X8_look _ _ ad (up (up F 0 (mlS (me5 (F 0) (F 1) (F 2)) (F 1) n0)) 2 (mlN (me5 (F 0) (F 1) (F 2)) (F 1) 1 (F 2 29) (F 2) n0)) 0 255 rm50_ hB1 (by decide)) rfl (gwV mw_382 mw_379 mw_380 mw_381 mw_5) rfl (by decide +kernel) 0 rfl rfl rfl rfl Sb.w rfl rfl dX8_messageLine_74 (fun r w1 hp74_53 => ?_)
            obtain ⟨rfl, rfl⟩ := hp74_53
            show V X 0 0 77 [(0, .ref (ad 0)), (1, vI 1), (2, vI (F 2 29)), (3, vI (n0 : Int)), (4, vI (bI ((mlS (me5 (F 0) (F 1) (F 2)) (F 1) n0) 8 = 0 ∧ (mlS (me5 (F 0) (F 1) (F 2)) (F 1) n0) 6 = 2)))] [vI (lkV (mlS (me5 (F 0) (F 1) (F 2)) (F 1) n0) 0 255)] ((mW (vG X) ad (up (up F 0 (lkM (mlS (me5 (F 0) (F 1) (F 2)) (F 1) n0) 0 255)) 2 (mlN (me5 (F 0) (F 1) (F 2)) (F 1) 1 (F 2 29) (F 2) n0))))
            have rm54_ : RM (lkM (mlS (me5 (F 0) (F 1) (F 2)) (F 1) n0) 0 255) := lkM_ok rm50_
            obtain ⟨va55, vb55⟩ := lkV_in (s := (mlS (me5 (F 0) (F 1) (F 2)) (F 1) n0)) (p := 0) (q := 255) (by decide)
            refine v_istore C M dX8_messageLine_77 (by decide) (L' := [(5, vI (lkV (mlS (me5 (F 0) (F 1) (F 2)) (F 1) n0) 0 255)), (0, .ref (ad 0)), (1, vI 1), (2, vI (F 2 29)), (3, vI (n0 : Int)), (4, vI (bI ((mlS (me5 (F 0) (F 1) (F 2)) (F 1) n0) 8 = 0 ∧ (mlS (me5 (F 0) (F 1) (F 2)) (F 1) n0) 6 = 2)))]) rfl ?_
            refine v_aload_n C dX8_messageLine_79 rfl 1 rfl ?_
            refine v_iload_n C dX8_messageLine_80 rfl 4 rfl ?_
            refine v_bipush C dX8_messageLine_81 (by decide +kernel) ?_
            suffices mrg : V X 0 0 91 [(5, vI (lkV (mlS (me5 (F 0) (F 1) (F 2)) (F 1) n0) 0 255)), (0, .ref (ad 0)), (1, vI 1), (2, vI (F 2 29)), (3, vI (n0 : Int)), (4, vI (bI ((mlS (me5 (F 0) (F 1) (F 2)) (F 1) n0) 8 = 0 ∧ (mlS (me5 (F 0) (F 1) (F 2)) (F 1) n0) 6 = 2)))] [vI (bI ((n0 : Int) < 8)), .ref (ad 0)] ((mW (vG X) ad (up (up F 0 (lkM (mlS (me5 (F 0) (F 1) (F 2)) (F 1) n0) 0 255)) 2 (mlN (me5 (F 0) (F 1) (F 2)) (F 1) 1 (F 2 29) (F 2) n0)))) by
              refine v_icmp_ge (tgt := 90) C dX8_messageLine_83 (by decide) (by  first | assumption | exact ⟨by omega, by omega⟩) (by decide) (fun c83 => ?_) (fun c83 => ?_)
              · skip
                refine v_iconst C dX8_messageLine_90 ?_
                exact V.top (bI_f (by omega)).symm mrg
              · skip
                refine v_iconst C dX8_messageLine_86 ?_
                refine v_goto (tgt := 91) C dX8_messageLine_87 (by decide) ?_
                exact V.top (bI_t (by omega)).symm mrg
            refine v_iconst C dX8_messageLine_91 ?_
            refine v_callV (na := 2) (wy := (Cond.code yX8_must cX8_must 3 (some .boolean) :: wsL_law)) (wc := (mW (vG X) ad (up (up F 0 (lkM (mlS (me5 (F 0) (F 1) (F 2)) (F 1) n0) 0 255)) 2 (mlN (me5 (F 0) (F 1) (F 2)) (F 1) 1 (F 2 29) (F 2) n0)))) (wr := []) C [vI (bI ((n0 : Int) < 8)), vI 4] [] (c_X8_must _ _ ad (up (up F 0 (lkM (mlS (me5 (F 0) (F 1) (F 2)) (F 1) n0) 0 255)) 2 (mlN (me5 (F 0) (F 1) (F 2)) (F 1) 1 (F 2 29) (F 2) n0)) (bI ((n0 : Int) < 8)) 4 rm54_ hB1 bI_01 (by decide)) rfl (gwV mw_370 mw_367 mw_368 mw_369 mw_5) rfl (by decide +kernel) 0 rfl rfl rfl rfl Sb.w rfl rfl dX8_messageLine_92 (fun r w1 hp92_56 => ?_)
            obtain ⟨rfl, rfl⟩ := hp92_56
            show V X 0 0 95 [(5, vI (lkV (mlS (me5 (F 0) (F 1) (F 2)) (F 1) n0) 0 255)), (0, .ref (ad 0)), (1, vI 1), (2, vI (F 2 29)), (3, vI (n0 : Int)), (4, vI (bI ((mlS (me5 (F 0) (F 1) (F 2)) (F 1) n0) 8 = 0 ∧ (mlS (me5 (F 0) (F 1) (F 2)) (F 1) n0) 6 = 2)))] [vI (bI ((lkM (mlS (me5 (F 0) (F 1) (F 2)) (F 1) n0) 0 255) 8 = 0 ∧ ¬ (bI ((n0 : Int) < 8)) = 0))] ((mW (vG X) ad (up (up F 0 (muM (lkM (mlS (me5 (F 0) (F 1) (F 2)) (F 1) n0) 0 255) (bI ((n0 : Int) < 8)) 4)) 2 (mlN (me5 (F 0) (F 1) (F 2)) (F 1) 1 (F 2 29) (F 2) n0))))
            have rm57_ : RM (muM (lkM (mlS (me5 (F 0) (F 1) (F 2)) (F 1) n0) 0 255) (bI ((n0 : Int) < 8)) 4) := muM_ok rm54_ (by decide)
            refine v_if_eq (tgt := 111) C dX8_messageLine_95 (by decide) sm_bI (fun c95 => ?_) (fun c95 => ?_)
            · skip
              have c95 := bI_0.mp c95
              have er58 : (mlN (me5 (F 0) (F 1) (F 2)) (F 1) 1 (F 2 29) (F 2) (n0 + 1)) = (mlN (me5 (F 0) (F 1) (F 2)) (F 1) 1 (F 2 29) (F 2) n0) := if_neg c95
              rw [← er58]
              show V X 0 0 111 [(5, vI (lkV (mlS (me5 (F 0) (F 1) (F 2)) (F 1) n0) 0 255)), (0, .ref (ad 0)), (1, vI 1), (2, vI (F 2 29)), (3, vI (n0 : Int)), (4, vI (bI ((mlS (me5 (F 0) (F 1) (F 2)) (F 1) n0) 8 = 0 ∧ (mlS (me5 (F 0) (F 1) (F 2)) (F 1) n0) 6 = 2)))] [] ((mW (vG X) ad (up (up F 0 (muM (lkM (mlS (me5 (F 0) (F 1) (F 2)) (F 1) n0) 0 255) (bI ((n0 : Int) < 8)) 4)) 2 (mlN (me5 (F 0) (F 1) (F 2)) (F 1) 1 (F 2 29) (F 2) (n0 + 1)))))
              refine v_iinc C M dX8_messageLine_111 4 rfl (by decide) (z' := ((n0 : Int) + 1)) rfl (L' := [(3, vI ((n0 : Int) + 1)), (5, vI (lkV (mlS (me5 (F 0) (F 1) (F 2)) (F 1) n0) 0 255)), (0, .ref (ad 0)), (1, vI 1), (2, vI (F 2 29)), (4, vI (bI ((mlS (me5 (F 0) (F 1) (F 2)) (F 1) n0) 8 = 0 ∧ (mlS (me5 (F 0) (F 1) (F 2)) (F 1) n0) 6 = 2)))]) rfl ?_
              refine v_aload_n C dX8_messageLine_114 rfl 2 rfl ?_
              refine v_callV (na := 0) (wy := (Cond.code yX8_goOn cX8_goOn 1 none :: wsL_law)) (wc := (mW (vG X) ad (up (up F 0 (muM (lkM (mlS (me5 (F 0) (F 1) (F 2)) (F 1) n0) 0 255) (bI ((n0 : Int) < 8)) 4)) 2 (mlN (me5 (F 0) (F 1) (F 2)) (F 1) 1 (F 2 29) (F 2) (n0 + 1))))) (wr := []) C [] [] (c_X8_goOn _ _ ad (up (up F 0 (muM (lkM (mlS (me5 (F 0) (F 1) (F 2)) (F 1) n0) 0 255) (bI ((n0 : Int) < 8)) 4)) 2 (mlN (me5 (F 0) (F 1) (F 2)) (F 1) 1 (F 2 29) (F 2) (n0 + 1))) rm57_ hB1) rfl (gwV mw_374 mw_371 mw_372 mw_373 mw_5) rfl (by decide +kernel) 0 rfl rfl rfl rfl Sb.w rfl rfl dX8_messageLine_115 (fun r w1 hp115_59 => ?_)
              obtain ⟨rfl, rfl⟩ := hp115_59
              show V X 0 0 118 [(3, vI ((n0 : Int) + 1)), (5, vI (lkV (mlS (me5 (F 0) (F 1) (F 2)) (F 1) n0) 0 255)), (0, .ref (ad 0)), (1, vI 1), (2, vI (F 2 29)), (4, vI (bI ((mlS (me5 (F 0) (F 1) (F 2)) (F 1) n0) 8 = 0 ∧ (mlS (me5 (F 0) (F 1) (F 2)) (F 1) n0) 6 = 2)))] [] ((mW (vG X) ad (up (up F 0 (goM (muM (lkM (mlS (me5 (F 0) (F 1) (F 2)) (F 1) n0) 0 255) (bI ((n0 : Int) < 8)) 4) (F 1))) 2 (mlN (me5 (F 0) (F 1) (F 2)) (F 1) 1 (F 2 29) (F 2) (n0 + 1)))))
              have rm60_ : RM (goM (muM (lkM (mlS (me5 (F 0) (F 1) (F 2)) (F 1) n0) 0 255) (bI ((n0 : Int) < 8)) 4) (F 1)) := goM_ok rm57_ hB1
              have er61 : (mlS (me5 (F 0) (F 1) (F 2)) (F 1) (n0 + 1)) = (goM (muM (lkM (mlS (me5 (F 0) (F 1) (F 2)) (F 1) n0) 0 255) (bI ((n0 : Int) < 8)) 4) (F 1)) := rfl
              rw [← er61]
              show V X 0 0 118 [(3, vI ((n0 : Int) + 1)), (5, vI (lkV (mlS (me5 (F 0) (F 1) (F 2)) (F 1) n0) 0 255)), (0, .ref (ad 0)), (1, vI 1), (2, vI (F 2 29)), (4, vI (bI ((mlS (me5 (F 0) (F 1) (F 2)) (F 1) n0) 8 = 0 ∧ (mlS (me5 (F 0) (F 1) (F 2)) (F 1) n0) 6 = 2)))] [] ((mW (vG X) ad (up (up F 0 (mlS (me5 (F 0) (F 1) (F 2)) (F 1) (n0 + 1))) 2 (mlN (me5 (F 0) (F 1) (F 2)) (F 1) 1 (F 2 29) (F 2) (n0 + 1)))))
              have rm62_ : RM (mlS (me5 (F 0) (F 1) (F 2)) (F 1) (n0 + 1)) := mlS_ok (me5_ok ho hB1) hB1 (n0 + 1)
              refine v_aload_n C dX8_messageLine_118 rfl 2 rfl ?_
              refine v_get (v := vI ((mlS (me5 (F 0) (F 1) (F 2)) (F 1) (n0 + 1)) 8)) C inw_8 0 8 rfl (by decide) (List.mem_cons_of_mem _ mw_336) rfl rfl dX8_messageLine_119 ?_
              refine v_if_ne (tgt := 137) C dX8_messageLine_122 (by decide) (by have := RM_b8 rm62_; first | assumption | exact ⟨by omega, by omega⟩) (fun c122 => ?_) (fun c122 => ?_)
              · skip
                refine v_iconst C dX8_messageLine_137 ?_
                refine V.top (show (0 : Int) = bI ((mlS (me5 (F 0) (F 1) (F 2)) (F 1) (n0 + 1)) 8 = 0 ∧ (mlS (me5 (F 0) (F 1) (F 2)) (F 1) (n0 + 1)) 6 = 2) from (bI_f (fun h => c122 h.1)).symm) ?_
                show V X 0 0 138 [(3, vI ((n0 : Int) + 1)), (5, vI (lkV (mlS (me5 (F 0) (F 1) (F 2)) (F 1) n0) 0 255)), (0, .ref (ad 0)), (1, vI 1), (2, vI (F 2 29)), (4, vI (bI ((mlS (me5 (F 0) (F 1) (F 2)) (F 1) n0) 8 = 0 ∧ (mlS (me5 (F 0) (F 1) (F 2)) (F 1) n0) 6 = 2)))] [vI (bI ((mlS (me5 (F 0) (F 1) (F 2)) (F 1) (n0 + 1)) 8 = 0 ∧ (mlS (me5 (F 0) (F 1) (F 2)) (F 1) (n0 + 1)) 6 = 2))] ((mW (vG X) ad (up (up F 0 (mlS (me5 (F 0) (F 1) (F 2)) (F 1) (n0 + 1))) 2 (mlN (me5 (F 0) (F 1) (F 2)) (F 1) 1 (F 2 29) (F 2) (n0 + 1)))))
                refine v_istore C M dX8_messageLine_138 (by decide) (L' := [(4, vI (bI ((mlS (me5 (F 0) (F 1) (F 2)) (F 1) (n0 + 1)) 8 = 0 ∧ (mlS (me5 (F 0) (F 1) (F 2)) (F 1) (n0 + 1)) 6 = 2))), (3, vI ((n0 : Int) + 1)), (5, vI (lkV (mlS (me5 (F 0) (F 1) (F 2)) (F 1) n0) 0 255)), (0, .ref (ad 0)), (1, vI 1), (2, vI (F 2 29))]) rfl ?_
                refine v_goto (tgt := 64) C dX8_messageLine_140 (by decide) ?_
                refine V.loc (L' := [(0, .ref (ad 0)), (1, vI 1), (2, vI (F 2 29)), (3, vI ((n0 : Int) + 1)), (4, vI (bI ((mlS (me5 (F 0) (F 1) (F 2)) (F 1) (n0 + 1)) 8 = 0 ∧ (mlS (me5 (F 0) (F 1) (F 2)) (F 1) (n0 + 1)) 6 = 2)))]) [3, 4, 5, 1, 0] rfl ?_
                have key := ih (n0 + 1) (by omega) (fun j hj => by
                  by_cases e : j = n0
                  · rw [e]; exact fun h => h c66
                  · exact hno j (by omega)) (by omega)
                rw [show ((n0 + 1 : Nat) : Int) = (n0 : Int) + 1 by omega] at key
                exact key
              · skip
                refine v_aload_n C dX8_messageLine_125 rfl 2 rfl ?_
                refine v_get (v := vI ((mlS (me5 (F 0) (F 1) (F 2)) (F 1) (n0 + 1)) 6)) C inw_8 0 6 rfl (by decide) (List.mem_cons_of_mem _ mw_339) rfl rfl dX8_messageLine_126 ?_
                refine v_iconst C dX8_messageLine_129 ?_
                refine v_icmp_ne (tgt := 137) C dX8_messageLine_130 (by decide) (by have := RM_b6 rm62_; first | assumption | exact ⟨by omega, by omega⟩) (by decide) (fun c130 => ?_) (fun c130 => ?_)
                · skip
                  refine v_iconst C dX8_messageLine_137 ?_
                  refine V.top (show (0 : Int) = bI ((mlS (me5 (F 0) (F 1) (F 2)) (F 1) (n0 + 1)) 8 = 0 ∧ (mlS (me5 (F 0) (F 1) (F 2)) (F 1) (n0 + 1)) 6 = 2) from (bI_f (fun h => c130 h.2)).symm) ?_
                  show V X 0 0 138 [(3, vI ((n0 : Int) + 1)), (5, vI (lkV (mlS (me5 (F 0) (F 1) (F 2)) (F 1) n0) 0 255)), (0, .ref (ad 0)), (1, vI 1), (2, vI (F 2 29)), (4, vI (bI ((mlS (me5 (F 0) (F 1) (F 2)) (F 1) n0) 8 = 0 ∧ (mlS (me5 (F 0) (F 1) (F 2)) (F 1) n0) 6 = 2)))] [vI (bI ((mlS (me5 (F 0) (F 1) (F 2)) (F 1) (n0 + 1)) 8 = 0 ∧ (mlS (me5 (F 0) (F 1) (F 2)) (F 1) (n0 + 1)) 6 = 2))] ((mW (vG X) ad (up (up F 0 (mlS (me5 (F 0) (F 1) (F 2)) (F 1) (n0 + 1))) 2 (mlN (me5 (F 0) (F 1) (F 2)) (F 1) 1 (F 2 29) (F 2) (n0 + 1)))))
                  refine v_istore C M dX8_messageLine_138 (by decide) (L' := [(4, vI (bI ((mlS (me5 (F 0) (F 1) (F 2)) (F 1) (n0 + 1)) 8 = 0 ∧ (mlS (me5 (F 0) (F 1) (F 2)) (F 1) (n0 + 1)) 6 = 2))), (3, vI ((n0 : Int) + 1)), (5, vI (lkV (mlS (me5 (F 0) (F 1) (F 2)) (F 1) n0) 0 255)), (0, .ref (ad 0)), (1, vI 1), (2, vI (F 2 29))]) rfl ?_
                  refine v_goto (tgt := 64) C dX8_messageLine_140 (by decide) ?_
                  refine V.loc (L' := [(0, .ref (ad 0)), (1, vI 1), (2, vI (F 2 29)), (3, vI ((n0 : Int) + 1)), (4, vI (bI ((mlS (me5 (F 0) (F 1) (F 2)) (F 1) (n0 + 1)) 8 = 0 ∧ (mlS (me5 (F 0) (F 1) (F 2)) (F 1) (n0 + 1)) 6 = 2)))]) [3, 4, 5, 1, 0] rfl ?_
                  have key := ih (n0 + 1) (by omega) (fun j hj => by
                    by_cases e : j = n0
                    · rw [e]; exact fun h => h c66
                    · exact hno j (by omega)) (by omega)
                  rw [show ((n0 + 1 : Nat) : Int) = (n0 : Int) + 1 by omega] at key
                  exact key
                · skip
                  refine v_iconst C dX8_messageLine_133 ?_
                  refine v_goto (tgt := 138) C dX8_messageLine_134 (by decide) ?_
                  refine V.top (show (1 : Int) = bI ((mlS (me5 (F 0) (F 1) (F 2)) (F 1) (n0 + 1)) 8 = 0 ∧ (mlS (me5 (F 0) (F 1) (F 2)) (F 1) (n0 + 1)) 6 = 2) from (bI_t ⟨c122, c130⟩).symm) ?_
                  show V X 0 0 138 [(3, vI ((n0 : Int) + 1)), (5, vI (lkV (mlS (me5 (F 0) (F 1) (F 2)) (F 1) n0) 0 255)), (0, .ref (ad 0)), (1, vI 1), (2, vI (F 2 29)), (4, vI (bI ((mlS (me5 (F 0) (F 1) (F 2)) (F 1) n0) 8 = 0 ∧ (mlS (me5 (F 0) (F 1) (F 2)) (F 1) n0) 6 = 2)))] [vI (bI ((mlS (me5 (F 0) (F 1) (F 2)) (F 1) (n0 + 1)) 8 = 0 ∧ (mlS (me5 (F 0) (F 1) (F 2)) (F 1) (n0 + 1)) 6 = 2))] ((mW (vG X) ad (up (up F 0 (mlS (me5 (F 0) (F 1) (F 2)) (F 1) (n0 + 1))) 2 (mlN (me5 (F 0) (F 1) (F 2)) (F 1) 1 (F 2 29) (F 2) (n0 + 1)))))
                  refine v_istore C M dX8_messageLine_138 (by decide) (L' := [(4, vI (bI ((mlS (me5 (F 0) (F 1) (F 2)) (F 1) (n0 + 1)) 8 = 0 ∧ (mlS (me5 (F 0) (F 1) (F 2)) (F 1) (n0 + 1)) 6 = 2))), (3, vI ((n0 : Int) + 1)), (5, vI (lkV (mlS (me5 (F 0) (F 1) (F 2)) (F 1) n0) 0 255)), (0, .ref (ad 0)), (1, vI 1), (2, vI (F 2 29))]) rfl ?_
                  refine v_goto (tgt := 64) C dX8_messageLine_140 (by decide) ?_
                  refine V.loc (L' := [(0, .ref (ad 0)), (1, vI 1), (2, vI (F 2 29)), (3, vI ((n0 : Int) + 1)), (4, vI (bI ((mlS (me5 (F 0) (F 1) (F 2)) (F 1) (n0 + 1)) 8 = 0 ∧ (mlS (me5 (F 0) (F 1) (F 2)) (F 1) (n0 + 1)) 6 = 2)))]) [3, 4, 5, 1, 0] rfl ?_
                  have key := ih (n0 + 1) (by omega) (fun j hj => by
                    by_cases e : j = n0
                    · rw [e]; exact fun h => h c66
                    · exact hno j (by omega)) (by omega)
                  rw [show ((n0 + 1 : Nat) : Int) = (n0 : Int) + 1 by omega] at key
                  exact key
            · skip
              have c95 := bI_n0.mp c95
              have h8 : (n0 : Int) < 8 := bI_n0.mp c95.2
              refine v_aload_n C dX8_messageLine_98 rfl 1 rfl ?_
              refine v_get (v := .ref (ad 2)) C inw_8 0 10 rfl (by decide) (List.mem_cons_of_mem _ mw_105) rfl rfl dX8_messageLine_99 ?_
              refine v_iload_n C dX8_messageLine_102 rfl 2 rfl ?_
              refine v_iload_n C dX8_messageLine_103 rfl 3 rfl ?_
              refine v_iload_n C dX8_messageLine_104 rfl 4 rfl ?_
              refine v_callS (na := 3) (wy := (Cond.code yX8_byteOf cX8_byteOf 3 (some .int) :: wsL_law)) (wc := []) (wr := (mW (vG X) ad (up (up F 0 (muM (lkM (mlS (me5 (F 0) (F 1) (F 2)) (F 1) n0) 0 255) (bI ((n0 : Int) < 8)) 4)) 2 (mlN (me5 (F 0) (F 1) (F 2)) (F 1) 1 (F 2 29) (F 2) n0)))) C [vI 1, vI (F 2 29), vI (n0 : Int)] [.ref (ad 2)] (c_X8_byteOf _ _ 1 (F 2 29) (n0 : Int) ) rfl (gwS mw_397 mw_395 mw_396 mw_5) (by decide +kernel) rfl rfl Sb.rf rfl rfl dX8_messageLine_105 (fun r w1 hp105_63 => ?_)
              obtain ⟨rfl, rfl⟩ := hp105_63
              show V X 0 0 108 [(5, vI (lkV (mlS (me5 (F 0) (F 1) (F 2)) (F 1) n0) 0 255)), (0, .ref (ad 0)), (1, vI 1), (2, vI (F 2 29)), (3, vI (n0 : Int)), (4, vI (bI ((mlS (me5 (F 0) (F 1) (F 2)) (F 1) n0) 8 = 0 ∧ (mlS (me5 (F 0) (F 1) (F 2)) (F 1) n0) 6 = 2)))] [vI ((80 + (8 * (20 + (F 2 29)))) + (n0 : Int)), .ref (ad 2)] ((mW (vG X) ad (up (up F 0 (muM (lkM (mlS (me5 (F 0) (F 1) (F 2)) (F 1) n0) 0 255) (bI ((n0 : Int) < 8)) 4)) 2 (mlN (me5 (F 0) (F 1) (F 2)) (F 1) 1 (F 2 29) (F 2) n0))))
              refine v_iload C dX8_messageLine_108 0 rfl ?_
              refine v_iast C 2 rfl (by have := hB2 29; omega) (by have := hB2 29; omega) (by decide) dX8_messageLine_110 (ws' := (mW (vG X) ad (up (up F 0 (muM (lkM (mlS (me5 (F 0) (F 1) (F 2)) (F 1) n0) 0 255) (bI ((n0 : Int) < 8)) 4)) 2 (up (mlN (me5 (F 0) (F 1) (F 2)) (F 1) 1 (F 2 29) (F 2) n0) ((80 + (8 * (20 + (F 2 29)))) + (n0 : Int)) (lkV (mlS (me5 (F 0) (F 1) (F 2)) (F 1) n0) 0 255))))) rfl ?_
              have er64 : (mlN (me5 (F 0) (F 1) (F 2)) (F 1) 1 (F 2 29) (F 2) (n0 + 1)) = (up (mlN (me5 (F 0) (F 1) (F 2)) (F 1) 1 (F 2 29) (F 2) n0) ((80 + (8 * (20 + (F 2 29)))) + (n0 : Int)) (lkV (mlS (me5 (F 0) (F 1) (F 2)) (F 1) n0) 0 255)) := if_pos c95
              rw [← er64]
              show V X 0 0 111 [(5, vI (lkV (mlS (me5 (F 0) (F 1) (F 2)) (F 1) n0) 0 255)), (0, .ref (ad 0)), (1, vI 1), (2, vI (F 2 29)), (3, vI (n0 : Int)), (4, vI (bI ((mlS (me5 (F 0) (F 1) (F 2)) (F 1) n0) 8 = 0 ∧ (mlS (me5 (F 0) (F 1) (F 2)) (F 1) n0) 6 = 2)))] [] ((mW (vG X) ad (up (up F 0 (muM (lkM (mlS (me5 (F 0) (F 1) (F 2)) (F 1) n0) 0 255) (bI ((n0 : Int) < 8)) 4)) 2 (mlN (me5 (F 0) (F 1) (F 2)) (F 1) 1 (F 2 29) (F 2) (n0 + 1)))))
              refine v_iinc C M dX8_messageLine_111 4 rfl (by decide) (z' := ((n0 : Int) + 1)) rfl (L' := [(3, vI ((n0 : Int) + 1)), (5, vI (lkV (mlS (me5 (F 0) (F 1) (F 2)) (F 1) n0) 0 255)), (0, .ref (ad 0)), (1, vI 1), (2, vI (F 2 29)), (4, vI (bI ((mlS (me5 (F 0) (F 1) (F 2)) (F 1) n0) 8 = 0 ∧ (mlS (me5 (F 0) (F 1) (F 2)) (F 1) n0) 6 = 2)))]) rfl ?_
              refine v_aload_n C dX8_messageLine_114 rfl 2 rfl ?_
              refine v_callV (na := 0) (wy := (Cond.code yX8_goOn cX8_goOn 1 none :: wsL_law)) (wc := (mW (vG X) ad (up (up F 0 (muM (lkM (mlS (me5 (F 0) (F 1) (F 2)) (F 1) n0) 0 255) (bI ((n0 : Int) < 8)) 4)) 2 (mlN (me5 (F 0) (F 1) (F 2)) (F 1) 1 (F 2 29) (F 2) (n0 + 1))))) (wr := []) C [] [] (c_X8_goOn _ _ ad (up (up F 0 (muM (lkM (mlS (me5 (F 0) (F 1) (F 2)) (F 1) n0) 0 255) (bI ((n0 : Int) < 8)) 4)) 2 (mlN (me5 (F 0) (F 1) (F 2)) (F 1) 1 (F 2 29) (F 2) (n0 + 1))) rm57_ hB1) rfl (gwV mw_374 mw_371 mw_372 mw_373 mw_5) rfl (by decide +kernel) 0 rfl rfl rfl rfl Sb.w rfl rfl dX8_messageLine_115 (fun r w1 hp115_65 => ?_)
              obtain ⟨rfl, rfl⟩ := hp115_65
              show V X 0 0 118 [(3, vI ((n0 : Int) + 1)), (5, vI (lkV (mlS (me5 (F 0) (F 1) (F 2)) (F 1) n0) 0 255)), (0, .ref (ad 0)), (1, vI 1), (2, vI (F 2 29)), (4, vI (bI ((mlS (me5 (F 0) (F 1) (F 2)) (F 1) n0) 8 = 0 ∧ (mlS (me5 (F 0) (F 1) (F 2)) (F 1) n0) 6 = 2)))] [] ((mW (vG X) ad (up (up F 0 (goM (muM (lkM (mlS (me5 (F 0) (F 1) (F 2)) (F 1) n0) 0 255) (bI ((n0 : Int) < 8)) 4) (F 1))) 2 (mlN (me5 (F 0) (F 1) (F 2)) (F 1) 1 (F 2 29) (F 2) (n0 + 1)))))
              have rm66_ : RM (goM (muM (lkM (mlS (me5 (F 0) (F 1) (F 2)) (F 1) n0) 0 255) (bI ((n0 : Int) < 8)) 4) (F 1)) := goM_ok rm57_ hB1
              have er67 : (mlS (me5 (F 0) (F 1) (F 2)) (F 1) (n0 + 1)) = (goM (muM (lkM (mlS (me5 (F 0) (F 1) (F 2)) (F 1) n0) 0 255) (bI ((n0 : Int) < 8)) 4) (F 1)) := rfl
              rw [← er67]
              show V X 0 0 118 [(3, vI ((n0 : Int) + 1)), (5, vI (lkV (mlS (me5 (F 0) (F 1) (F 2)) (F 1) n0) 0 255)), (0, .ref (ad 0)), (1, vI 1), (2, vI (F 2 29)), (4, vI (bI ((mlS (me5 (F 0) (F 1) (F 2)) (F 1) n0) 8 = 0 ∧ (mlS (me5 (F 0) (F 1) (F 2)) (F 1) n0) 6 = 2)))] [] ((mW (vG X) ad (up (up F 0 (mlS (me5 (F 0) (F 1) (F 2)) (F 1) (n0 + 1))) 2 (mlN (me5 (F 0) (F 1) (F 2)) (F 1) 1 (F 2 29) (F 2) (n0 + 1)))))
              have rm68_ : RM (mlS (me5 (F 0) (F 1) (F 2)) (F 1) (n0 + 1)) := mlS_ok (me5_ok ho hB1) hB1 (n0 + 1)
              refine v_aload_n C dX8_messageLine_118 rfl 2 rfl ?_
              refine v_get (v := vI ((mlS (me5 (F 0) (F 1) (F 2)) (F 1) (n0 + 1)) 8)) C inw_8 0 8 rfl (by decide) (List.mem_cons_of_mem _ mw_336) rfl rfl dX8_messageLine_119 ?_
              refine v_if_ne (tgt := 137) C dX8_messageLine_122 (by decide) (by have := RM_b8 rm68_; first | assumption | exact ⟨by omega, by omega⟩) (fun c122 => ?_) (fun c122 => ?_)
              · skip
                refine v_iconst C dX8_messageLine_137 ?_
                refine V.top (show (0 : Int) = bI ((mlS (me5 (F 0) (F 1) (F 2)) (F 1) (n0 + 1)) 8 = 0 ∧ (mlS (me5 (F 0) (F 1) (F 2)) (F 1) (n0 + 1)) 6 = 2) from (bI_f (fun h => c122 h.1)).symm) ?_
                show V X 0 0 138 [(3, vI ((n0 : Int) + 1)), (5, vI (lkV (mlS (me5 (F 0) (F 1) (F 2)) (F 1) n0) 0 255)), (0, .ref (ad 0)), (1, vI 1), (2, vI (F 2 29)), (4, vI (bI ((mlS (me5 (F 0) (F 1) (F 2)) (F 1) n0) 8 = 0 ∧ (mlS (me5 (F 0) (F 1) (F 2)) (F 1) n0) 6 = 2)))] [vI (bI ((mlS (me5 (F 0) (F 1) (F 2)) (F 1) (n0 + 1)) 8 = 0 ∧ (mlS (me5 (F 0) (F 1) (F 2)) (F 1) (n0 + 1)) 6 = 2))] ((mW (vG X) ad (up (up F 0 (mlS (me5 (F 0) (F 1) (F 2)) (F 1) (n0 + 1))) 2 (mlN (me5 (F 0) (F 1) (F 2)) (F 1) 1 (F 2 29) (F 2) (n0 + 1)))))
                refine v_istore C M dX8_messageLine_138 (by decide) (L' := [(4, vI (bI ((mlS (me5 (F 0) (F 1) (F 2)) (F 1) (n0 + 1)) 8 = 0 ∧ (mlS (me5 (F 0) (F 1) (F 2)) (F 1) (n0 + 1)) 6 = 2))), (3, vI ((n0 : Int) + 1)), (5, vI (lkV (mlS (me5 (F 0) (F 1) (F 2)) (F 1) n0) 0 255)), (0, .ref (ad 0)), (1, vI 1), (2, vI (F 2 29))]) rfl ?_
                refine v_goto (tgt := 64) C dX8_messageLine_140 (by decide) ?_
                refine V.loc (L' := [(0, .ref (ad 0)), (1, vI 1), (2, vI (F 2 29)), (3, vI ((n0 : Int) + 1)), (4, vI (bI ((mlS (me5 (F 0) (F 1) (F 2)) (F 1) (n0 + 1)) 8 = 0 ∧ (mlS (me5 (F 0) (F 1) (F 2)) (F 1) (n0 + 1)) 6 = 2)))]) [3, 4, 5, 1, 0] rfl ?_
                have key := ih (n0 + 1) (by omega) (fun j hj => by
                  by_cases e : j = n0
                  · rw [e]; exact fun h => h c66
                  · exact hno j (by omega)) (by omega)
                rw [show ((n0 + 1 : Nat) : Int) = (n0 : Int) + 1 by omega] at key
                exact key
              · skip
                refine v_aload_n C dX8_messageLine_125 rfl 2 rfl ?_
                refine v_get (v := vI ((mlS (me5 (F 0) (F 1) (F 2)) (F 1) (n0 + 1)) 6)) C inw_8 0 6 rfl (by decide) (List.mem_cons_of_mem _ mw_339) rfl rfl dX8_messageLine_126 ?_
                refine v_iconst C dX8_messageLine_129 ?_
                refine v_icmp_ne (tgt := 137) C dX8_messageLine_130 (by decide) (by have := RM_b6 rm68_; first | assumption | exact ⟨by omega, by omega⟩) (by decide) (fun c130 => ?_) (fun c130 => ?_)
                · skip
                  refine v_iconst C dX8_messageLine_137 ?_
                  refine V.top (show (0 : Int) = bI ((mlS (me5 (F 0) (F 1) (F 2)) (F 1) (n0 + 1)) 8 = 0 ∧ (mlS (me5 (F 0) (F 1) (F 2)) (F 1) (n0 + 1)) 6 = 2) from (bI_f (fun h => c130 h.2)).symm) ?_
                  show V X 0 0 138 [(3, vI ((n0 : Int) + 1)), (5, vI (lkV (mlS (me5 (F 0) (F 1) (F 2)) (F 1) n0) 0 255)), (0, .ref (ad 0)), (1, vI 1), (2, vI (F 2 29)), (4, vI (bI ((mlS (me5 (F 0) (F 1) (F 2)) (F 1) n0) 8 = 0 ∧ (mlS (me5 (F 0) (F 1) (F 2)) (F 1) n0) 6 = 2)))] [vI (bI ((mlS (me5 (F 0) (F 1) (F 2)) (F 1) (n0 + 1)) 8 = 0 ∧ (mlS (me5 (F 0) (F 1) (F 2)) (F 1) (n0 + 1)) 6 = 2))] ((mW (vG X) ad (up (up F 0 (mlS (me5 (F 0) (F 1) (F 2)) (F 1) (n0 + 1))) 2 (mlN (me5 (F 0) (F 1) (F 2)) (F 1) 1 (F 2 29) (F 2) (n0 + 1)))))
                  refine v_istore C M dX8_messageLine_138 (by decide) (L' := [(4, vI (bI ((mlS (me5 (F 0) (F 1) (F 2)) (F 1) (n0 + 1)) 8 = 0 ∧ (mlS (me5 (F 0) (F 1) (F 2)) (F 1) (n0 + 1)) 6 = 2))), (3, vI ((n0 : Int) + 1)), (5, vI (lkV (mlS (me5 (F 0) (F 1) (F 2)) (F 1) n0) 0 255)), (0, .ref (ad 0)), (1, vI 1), (2, vI (F 2 29))]) rfl ?_
                  refine v_goto (tgt := 64) C dX8_messageLine_140 (by decide) ?_
                  refine V.loc (L' := [(0, .ref (ad 0)), (1, vI 1), (2, vI (F 2 29)), (3, vI ((n0 : Int) + 1)), (4, vI (bI ((mlS (me5 (F 0) (F 1) (F 2)) (F 1) (n0 + 1)) 8 = 0 ∧ (mlS (me5 (F 0) (F 1) (F 2)) (F 1) (n0 + 1)) 6 = 2)))]) [3, 4, 5, 1, 0] rfl ?_
                  have key := ih (n0 + 1) (by omega) (fun j hj => by
                    by_cases e : j = n0
                    · rw [e]; exact fun h => h c66
                    · exact hno j (by omega)) (by omega)
                  rw [show ((n0 + 1 : Nat) : Int) = (n0 : Int) + 1 by omega] at key
                  exact key
                · skip
                  refine v_iconst C dX8_messageLine_133 ?_
                  refine v_goto (tgt := 138) C dX8_messageLine_134 (by decide) ?_
                  refine V.top (show (1 : Int) = bI ((mlS (me5 (F 0) (F 1) (F 2)) (F 1) (n0 + 1)) 8 = 0 ∧ (mlS (me5 (F 0) (F 1) (F 2)) (F 1) (n0 + 1)) 6 = 2) from (bI_t ⟨c122, c130⟩).symm) ?_
                  show V X 0 0 138 [(3, vI ((n0 : Int) + 1)), (5, vI (lkV (mlS (me5 (F 0) (F 1) (F 2)) (F 1) n0) 0 255)), (0, .ref (ad 0)), (1, vI 1), (2, vI (F 2 29)), (4, vI (bI ((mlS (me5 (F 0) (F 1) (F 2)) (F 1) n0) 8 = 0 ∧ (mlS (me5 (F 0) (F 1) (F 2)) (F 1) n0) 6 = 2)))] [vI (bI ((mlS (me5 (F 0) (F 1) (F 2)) (F 1) (n0 + 1)) 8 = 0 ∧ (mlS (me5 (F 0) (F 1) (F 2)) (F 1) (n0 + 1)) 6 = 2))] ((mW (vG X) ad (up (up F 0 (mlS (me5 (F 0) (F 1) (F 2)) (F 1) (n0 + 1))) 2 (mlN (me5 (F 0) (F 1) (F 2)) (F 1) 1 (F 2 29) (F 2) (n0 + 1)))))
                  refine v_istore C M dX8_messageLine_138 (by decide) (L' := [(4, vI (bI ((mlS (me5 (F 0) (F 1) (F 2)) (F 1) (n0 + 1)) 8 = 0 ∧ (mlS (me5 (F 0) (F 1) (F 2)) (F 1) (n0 + 1)) 6 = 2))), (3, vI ((n0 : Int) + 1)), (5, vI (lkV (mlS (me5 (F 0) (F 1) (F 2)) (F 1) n0) 0 255)), (0, .ref (ad 0)), (1, vI 1), (2, vI (F 2 29))]) rfl ?_
                  refine v_goto (tgt := 64) C dX8_messageLine_140 (by decide) ?_
                  refine V.loc (L' := [(0, .ref (ad 0)), (1, vI 1), (2, vI (F 2 29)), (3, vI ((n0 : Int) + 1)), (4, vI (bI ((mlS (me5 (F 0) (F 1) (F 2)) (F 1) (n0 + 1)) 8 = 0 ∧ (mlS (me5 (F 0) (F 1) (F 2)) (F 1) (n0 + 1)) 6 = 2)))]) [3, 4, 5, 1, 0] rfl ?_
                  have key := ih (n0 + 1) (by omega) (fun j hj => by
                    by_cases e : j = n0
                    · rw [e]; exact fun h => h c66
                    · exact hno j (by omega)) (by omega)
                  rw [show ((n0 + 1 : Nat) : Int) = (n0 : Int) + 1 by omega] at key
                  exact key
      exact lp 11 0 (by omega) (fun j hj => absurd hj (by omega)) (by omega)
    · skip
      have c34 := bI_0.mp c34
      rw [← em] at c34
      have er69 : (me3 (F 0) (F 1) (F 2)) = (muM (wl2 (F 0) (F 1)) (bI ((F 2 29) < 20)) 4) := by unfold me3; rw [em]
      rw [← er69]
      show V X 0 0 37 [(2, vI (F 2 29)), (1, vI 1), (0, .ref (ad 0))] [] ((mW (vG X) ad (up F 0 (me3 (F 0) (F 1) (F 2)))))
      exact v_vret C E rfl dX8_messageLine_37 (by decide) (by decide) (⟨rfl, by rw [show (msS (F 0) (F 1) (F 2)) = _ from if_neg c34, show (msN (F 0) (F 1) (F 2)) = _ from if_neg c34] <;> rfl⟩)
end M13
