section M3
set_option maxHeartbeats 4000000 in
set_option maxRecDepth 100000 in
theorem c_X8_step (G : GG) (l : Launch) (ad : Nat → Nat) (F : Int → Int → Int) (hT : F 2 1 = 0 ∨ F 2 1 = 1) (hB : sB 1000000 (F 2)) (h70 : 0 ≤ F 2 7) (h7 : F 2 7 ≤ 41) (hr : F 0 24 = 0 ∨ F 0 24 = 1) (hd1 : isDataP (F 2) → 0 ≤ F 2 (18 + 11 * F 2 1 + 6) + F 2 2 ∧ F 2 (18 + 11 * F 2 1 + 6) + F 2 2 < 20) (hd2 : isDataP (F 2) → 0 ≤ dl (F 2) ∧ dl (F 2) ≤ 8) : Ct G l yX8_step (Cond.code yX8_step cX8_step 4 none :: wsL_law) 5 112 0 0 [.ref (ad 0)] ((mW G ad F)) (fun r w => r = none ∧ ∃ (x y z : Int) (f8 f9 : Int → Int), w = mW G ad (up (up (up (up F 0 (up (up (up (F 0) 20 x) 22 y) 23 z)) 2 (stepF (F 0 24) (F 2))) 8 f8) 9 f9)) := by
  refine Ct.of (own := RX8) (cc := cX8_step) (maxL := 4) (ret := none) (by decide) rfl rfl (Nat.le_of_ble_eq_true rfl) (fun X C E M hG hl => ?_)
  subst hG hl
  have hdl : 0 ≤ dl (F 2) ∧ dl (F 2) ≤ 8 := by
    by_cases h : isDataP (F 2)
    · exact hd2 h
    · unfold dl; rw [if_neg h]; decide
  have hes := escI_in (f := pbF (F 2)) (k := 7 + dl (F 2)) (by omega)
  refine v_aload_n C dX8_step_0 rfl 0 rfl ?_
  refine v_callV (na := 0) (wy := (Cond.code yX8_lays cX8_lays 6 none :: wsL_law)) (wc := (mW (vG X) ad F)) (wr := []) C [] [] (c_X8_lays _ _ ad F hT (sB_mono (by decide) hB) hd1 hd2) rfl (gwV mw_536 mw_533 mw_534 mw_535 mw_5) rfl (by decide +kernel) 0 rfl rfl rfl rfl Sb.w rfl rfl dX8_step_1 (fun r w1 hp1_1 => ?_)
  obtain ⟨rfl, f8, f9, rfl, hf8, hf9, hf9e⟩ := hp1_1
  show V X 0 0 4 [(0, .ref (ad 0))] [] ((mW (vG X) ad (up (up (up F 0 (up (up (up (F 0) 20 (7 + dl (F 2))) 22 (2 + (7 + dl (F 2)) + (escI (pbF (F 2)) (7 + dl (F 2))))) 23 (escI (pbF (F 2)) (7 + dl (F 2))))) 8 (f8)) 9 (f9))))
  refine v_aload_n C dX8_step_4 rfl 0 rfl ?_
  refine v_get (v := .ref (ad 2)) C inw_8 0 10 rfl (by decide) (List.mem_cons_of_mem _ mw_105) rfl rfl dX8_step_5 ?_
  refine v_iconst C dX8_step_8 ?_
  refine v_iald C 2 rfl (by decide) (by decide) (by decide) dX8_step_9 ?_
  show V X 0 0 10 [(0, .ref (ad 0))] [vI (F 2 1)] ((mW (vG X) ad (up (up (up F 0 (up (up (up (F 0) 20 (7 + dl (F 2))) 22 (2 + (7 + dl (F 2)) + (escI (pbF (F 2)) (7 + dl (F 2))))) 23 (escI (pbF (F 2)) (7 + dl (F 2))))) 8 (f8)) 9 (f9))))
  refine v_istore_n C M dX8_step_10 rfl (by decide) (L' := [(1, vI (F 2 1)), (0, .ref (ad 0))]) rfl ?_
  refine v_aload_n C dX8_step_11 rfl 1 rfl ?_
  refine v_callV (na := 0) (wy := (Cond.code yX8_isData cX8_isData 2 (some .boolean) :: wsL_law)) (wc := (mW (vG X) ad (up (up (up F 0 (up (up (up (F 0) 20 (7 + dl (F 2))) 22 (2 + (7 + dl (F 2)) + (escI (pbF (F 2)) (7 + dl (F 2))))) 23 (escI (pbF (F 2)) (7 + dl (F 2))))) 8 (f8)) 9 (f9)))) (wr := []) C [] [] (c_X8_isData _ _ ad (up (up (up F 0 (up (up (up (F 0) 20 (7 + dl (F 2))) 22 (2 + (7 + dl (F 2)) + (escI (pbF (F 2)) (7 + dl (F 2))))) 23 (escI (pbF (F 2)) (7 + dl (F 2))))) 8 (f8)) 9 (f9)) hT (sB_mono (by decide) hB)) rfl (gwV mw_542 mw_539 mw_540 mw_541 mw_5) rfl (by decide +kernel) 0 rfl rfl rfl rfl Sb.w rfl rfl dX8_step_12 (fun r w1 hp12_2 => ?_)
  obtain ⟨rfl, rfl⟩ := hp12_2
  show V X 0 0 15 [(1, vI (F 2 1)), (0, .ref (ad 0))] [vI (bI (isDataP (F 2)))] ((mW (vG X) ad (up (up (up F 0 (up (up (up (F 0) 20 (7 + dl (F 2))) 22 (2 + (7 + dl (F 2)) + (escI (pbF (F 2)) (7 + dl (F 2))))) 23 (escI (pbF (F 2)) (7 + dl (F 2))))) 8 (f8)) 9 (f9))))
  refine v_istore_n C M dX8_step_15 rfl (by decide) (L' := [(2, vI (bI (isDataP (F 2)))), (1, vI (F 2 1)), (0, .ref (ad 0))]) rfl ?_
  refine v_aload_n C dX8_step_16 rfl 2 rfl ?_
  refine v_aload_n C dX8_step_17 rfl 2 rfl ?_
  refine v_get (v := .ref (ad 2)) C inw_8 0 10 rfl (by decide) (List.mem_cons_of_mem _ mw_105) rfl rfl dX8_step_18 ?_
  refine v_iconst C dX8_step_21 ?_
  refine v_iald C 2 rfl (by decide) (by decide) (by decide) dX8_step_22 ?_
  show V X 0 0 23 [(2, vI (bI (isDataP (F 2)))), (1, vI (F 2 1)), (0, .ref (ad 0))] [vI (F 2 3), .ref (ad 0)] ((mW (vG X) ad (up (up (up F 0 (up (up (up (F 0) 20 (7 + dl (F 2))) 22 (2 + (7 + dl (F 2)) + (escI (pbF (F 2)) (7 + dl (F 2))))) 23 (escI (pbF (F 2)) (7 + dl (F 2))))) 8 (f8)) 9 (f9))))
  refine v_callV (na := 1) (wy := (Cond.code yX8_isLost cX8_isLost 4 (some .boolean) :: wsL_law)) (wc := (mW (vG X) ad (up (up (up F 0 (up (up (up (F 0) 20 (7 + dl (F 2))) 22 (2 + (7 + dl (F 2)) + (escI (pbF (F 2)) (7 + dl (F 2))))) 23 (escI (pbF (F 2)) (7 + dl (F 2))))) 8 (f8)) 9 (f9)))) (wr := []) C [vI (F 2 3)] [] (c_X8_isLost _ _ ad (up (up (up F 0 (up (up (up (F 0) 20 (7 + dl (F 2))) 22 (2 + (7 + dl (F 2)) + (escI (pbF (F 2)) (7 + dl (F 2))))) 23 (escI (pbF (F 2)) (7 + dl (F 2))))) 8 (f8)) 9 (f9)) (F 2 3) (sB_mono (by decide) hB) (by have := hB 3; first | assumption | exact ⟨by omega, by omega⟩) h70 h7) rfl (gwV mw_408 mw_405 mw_406 mw_407 mw_5) rfl (by decide +kernel) 0 rfl rfl rfl rfl Sb.w rfl rfl dX8_step_23 (fun r w1 hp23_3 => ?_)
  obtain ⟨rfl, rfl⟩ := hp23_3
  have hlz23 := lz_01 (F 2) (F 2 3)
  show V X 0 0 26 [(2, vI (bI (isDataP (F 2)))), (1, vI (F 2 1)), (0, .ref (ad 0))] [vI (lz (F 2) (F 2 3))] ((mW (vG X) ad (up (up (up F 0 (up (up (up (F 0) 20 (7 + dl (F 2))) 22 (2 + (7 + dl (F 2)) + (escI (pbF (F 2)) (7 + dl (F 2))))) 23 (escI (pbF (F 2)) (7 + dl (F 2))))) 8 (f8)) 9 (f9))))
  refine v_istore_n C M dX8_step_26 rfl (by decide) (L' := [(3, vI (lz (F 2) (F 2 3))), (2, vI (bI (isDataP (F 2)))), (1, vI (F 2 1)), (0, .ref (ad 0))]) rfl ?_
  refine v_aload_n C dX8_step_27 rfl 3 rfl ?_
  refine v_get (v := .ref (ad 2)) C inw_8 0 10 rfl (by decide) (List.mem_cons_of_mem _ mw_105) rfl rfl dX8_step_28 ?_
  refine v_iconst C dX8_step_31 ?_
  refine v_dup2 C dX8_step_32 rfl rfl ?_
  refine v_iald C 2 rfl (by decide) (by decide) (by decide) dX8_step_33 ?_
  show V X 0 0 34 [(3, vI (lz (F 2) (F 2 3))), (2, vI (bI (isDataP (F 2)))), (1, vI (F 2 1)), (0, .ref (ad 0))] [vI (F 2 3), vI 3, .ref (ad 2)] ((mW (vG X) ad (up (up (up F 0 (up (up (up (F 0) 20 (7 + dl (F 2))) 22 (2 + (7 + dl (F 2)) + (escI (pbF (F 2)) (7 + dl (F 2))))) 23 (escI (pbF (F 2)) (7 + dl (F 2))))) 8 (f8)) 9 (f9))))
  refine v_iconst C dX8_step_34 ?_
  refine v_iadd C dX8_step_35 ?_
  refine v_iast C 2 rfl (by decide) (by decide) (by decide) dX8_step_36 (ws' := (mW (vG X) ad (up (up (up (up F 0 (up (up (up (F 0) 20 (7 + dl (F 2))) 22 (2 + (7 + dl (F 2)) + (escI (pbF (F 2)) (7 + dl (F 2))))) 23 (escI (pbF (F 2)) (7 + dl (F 2))))) 2 (up (F 2) 3 ((F 2 3) + 1))) 8 (f8)) 9 (f9)))) rfl ?_
  refine v_aload_n C dX8_step_37 rfl 3 rfl ?_
  refine v_get (v := .ref (ad 2)) C inw_8 0 10 rfl (by decide) (List.mem_cons_of_mem _ mw_105) rfl rfl dX8_step_38 ?_
  refine v_iconst C dX8_step_41 ?_
  refine v_dup2 C dX8_step_42 rfl rfl ?_
  refine v_iald C 2 rfl (by decide) (by decide) (by decide) dX8_step_43 ?_
  show V X 0 0 44 [(3, vI (lz (F 2) (F 2 3))), (2, vI (bI (isDataP (F 2)))), (1, vI (F 2 1)), (0, .ref (ad 0))] [vI ((up (F 2) 3 ((F 2 3) + 1)) 0), vI 0, .ref (ad 2)] ((mW (vG X) ad (up (up (up (up F 0 (up (up (up (F 0) 20 (7 + dl (F 2))) 22 (2 + (7 + dl (F 2)) + (escI (pbF (F 2)) (7 + dl (F 2))))) 23 (escI (pbF (F 2)) (7 + dl (F 2))))) 2 (up (F 2) 3 ((F 2 3) + 1))) 8 (f8)) 9 (f9))))
  rw [up_n (show (0 : Int) ≠ 3 by decide)]
  refine v_aload_n C dX8_step_44 rfl 3 rfl ?_
  refine v_get (v := vI (2 + (7 + dl (F 2)) + (escI (pbF (F 2)) (7 + dl (F 2))))) C inw_8 0 22 rfl (by decide) (List.mem_cons_of_mem _ mw_532) rfl rfl dX8_step_45 ?_
  refine v_iadd C dX8_step_48 ?_
  refine v_iast C 2 rfl (by decide) (by decide) (by decide) dX8_step_49 (ws' := (mW (vG X) ad (up (up (up (up F 0 (up (up (up (F 0) 20 (7 + dl (F 2))) 22 (2 + (7 + dl (F 2)) + (escI (pbF (F 2)) (7 + dl (F 2))))) 23 (escI (pbF (F 2)) (7 + dl (F 2))))) 2 (up (up (F 2) 3 ((F 2 3) + 1)) 0 ((F 2 0) + (2 + (7 + dl (F 2)) + (escI (pbF (F 2)) (7 + dl (F 2))))))) 8 (f8)) 9 (f9)))) rfl ?_
  refine v_aload_n C dX8_step_50 rfl 3 rfl ?_
  refine v_get (v := .ref (ad 2)) C inw_8 0 10 rfl (by decide) (List.mem_cons_of_mem _ mw_105) rfl rfl dX8_step_51 ?_
  refine v_bipush C dX8_step_54 (by decide +kernel) ?_
  refine v_dup2 C dX8_step_56 rfl rfl ?_
  refine v_iald C 2 rfl (by decide) (by decide) (by decide) dX8_step_57 ?_
  show V X 0 0 58 [(3, vI (lz (F 2) (F 2 3))), (2, vI (bI (isDataP (F 2)))), (1, vI (F 2 1)), (0, .ref (ad 0))] [vI ((up (up (F 2) 3 ((F 2 3) + 1)) 0 ((F 2 0) + (2 + (7 + dl (F 2)) + (escI (pbF (F 2)) (7 + dl (F 2)))))) 8), vI 8, .ref (ad 2)] ((mW (vG X) ad (up (up (up (up F 0 (up (up (up (F 0) 20 (7 + dl (F 2))) 22 (2 + (7 + dl (F 2)) + (escI (pbF (F 2)) (7 + dl (F 2))))) 23 (escI (pbF (F 2)) (7 + dl (F 2))))) 2 (up (up (F 2) 3 ((F 2 3) + 1)) 0 ((F 2 0) + (2 + (7 + dl (F 2)) + (escI (pbF (F 2)) (7 + dl (F 2))))))) 8 (f8)) 9 (f9))))
  rw [up_n (show (8 : Int) ≠ 0 by decide), up_n (show (8 : Int) ≠ 3 by decide)]
  refine v_iconst C dX8_step_58 ?_
  refine v_iadd C dX8_step_59 ?_
  refine v_iast C 2 rfl (by decide) (by decide) (by decide) dX8_step_60 (ws' := (mW (vG X) ad (up (up (up (up F 0 (up (up (up (F 0) 20 (7 + dl (F 2))) 22 (2 + (7 + dl (F 2)) + (escI (pbF (F 2)) (7 + dl (F 2))))) 23 (escI (pbF (F 2)) (7 + dl (F 2))))) 2 (up (up (up (F 2) 3 ((F 2 3) + 1)) 0 ((F 2 0) + (2 + (7 + dl (F 2)) + (escI (pbF (F 2)) (7 + dl (F 2)))))) 8 ((F 2 8) + 1))) 8 (f8)) 9 (f9)))) rfl ?_
  refine v_aload_n C dX8_step_61 rfl 3 rfl ?_
  refine v_get (v := .ref (ad 2)) C inw_8 0 10 rfl (by decide) (List.mem_cons_of_mem _ mw_105) rfl rfl dX8_step_62 ?_
  refine v_bipush C dX8_step_65 (by decide +kernel) ?_
  refine v_dup2 C dX8_step_67 rfl rfl ?_
  refine v_iald C 2 rfl (by decide) (by decide) (by decide) dX8_step_68 ?_
  show V X 0 0 69 [(3, vI (lz (F 2) (F 2 3))), (2, vI (bI (isDataP (F 2)))), (1, vI (F 2 1)), (0, .ref (ad 0))] [vI ((up (up (up (F 2) 3 ((F 2 3) + 1)) 0 ((F 2 0) + (2 + (7 + dl (F 2)) + (escI (pbF (F 2)) (7 + dl (F 2)))))) 8 ((F 2 8) + 1)) 9), vI 9, .ref (ad 2)] ((mW (vG X) ad (up (up (up (up F 0 (up (up (up (F 0) 20 (7 + dl (F 2))) 22 (2 + (7 + dl (F 2)) + (escI (pbF (F 2)) (7 + dl (F 2))))) 23 (escI (pbF (F 2)) (7 + dl (F 2))))) 2 (up (up (up (F 2) 3 ((F 2 3) + 1)) 0 ((F 2 0) + (2 + (7 + dl (F 2)) + (escI (pbF (F 2)) (7 + dl (F 2)))))) 8 ((F 2 8) + 1))) 8 (f8)) 9 (f9))))
  rw [up_n (show (9 : Int) ≠ 8 by decide), up_n (show (9 : Int) ≠ 0 by decide), up_n (show (9 : Int) ≠ 3 by decide)]
  refine v_iload_n C dX8_step_69 rfl 0 rfl ?_
  suffices mrg : V X 0 0 78 [(3, vI (lz (F 2) (F 2 3))), (2, vI (bI (isDataP (F 2)))), (1, vI (F 2 1)), (0, .ref (ad 0))] [vI (bI (¬ (lz (F 2) (F 2 3)) = 0)), vI (F 2 9), vI 9, .ref (ad 2)] ((mW (vG X) ad (up (up (up (up F 0 (up (up (up (F 0) 20 (7 + dl (F 2))) 22 (2 + (7 + dl (F 2)) + (escI (pbF (F 2)) (7 + dl (F 2))))) 23 (escI (pbF (F 2)) (7 + dl (F 2))))) 2 (up (up (up (F 2) 3 ((F 2 3) + 1)) 0 ((F 2 0) + (2 + (7 + dl (F 2)) + (escI (pbF (F 2)) (7 + dl (F 2)))))) 8 ((F 2 8) + 1))) 8 (f8)) 9 (f9)))) by
    refine v_if_eq (tgt := 77) C dX8_step_70 (by decide) (by  first | assumption | exact ⟨by omega, by omega⟩) (fun c70 => ?_) (fun c70 => ?_)
    · skip
      refine v_iconst C dX8_step_77 ?_
      exact V.top (bI_f (by omega)).symm mrg
    · skip
      refine v_iconst C dX8_step_73 ?_
      refine v_goto (tgt := 78) C dX8_step_74 (by decide) ?_
      exact V.top (bI_t (by omega)).symm mrg
  refine v_iadd C dX8_step_78 ?_
  refine v_iast C 2 rfl (by decide) (by decide) (by decide) dX8_step_79 (ws' := (mW (vG X) ad (up (up (up (up F 0 (up (up (up (F 0) 20 (7 + dl (F 2))) 22 (2 + (7 + dl (F 2)) + (escI (pbF (F 2)) (7 + dl (F 2))))) 23 (escI (pbF (F 2)) (7 + dl (F 2))))) 2 (up (up (up (up (F 2) 3 ((F 2 3) + 1)) 0 ((F 2 0) + (2 + (7 + dl (F 2)) + (escI (pbF (F 2)) (7 + dl (F 2)))))) 8 ((F 2 8) + 1)) 9 ((F 2 9) + (bI (¬ (lz (F 2) (F 2 3)) = 0))))) 8 (f8)) 9 (f9)))) rfl ?_
  refine v_aload_n C dX8_step_80 rfl 3 rfl ?_
  refine v_get (v := .ref (ad 2)) C inw_8 0 10 rfl (by decide) (List.mem_cons_of_mem _ mw_105) rfl rfl dX8_step_81 ?_
  refine v_bipush C dX8_step_84 (by decide +kernel) ?_
  refine v_dup2 C dX8_step_86 rfl rfl ?_
  refine v_iald C 2 rfl (by decide) (by decide) (by decide) dX8_step_87 ?_
  show V X 0 0 88 [(3, vI (lz (F 2) (F 2 3))), (2, vI (bI (isDataP (F 2)))), (1, vI (F 2 1)), (0, .ref (ad 0))] [vI ((up (up (up (up (F 2) 3 ((F 2 3) + 1)) 0 ((F 2 0) + (2 + (7 + dl (F 2)) + (escI (pbF (F 2)) (7 + dl (F 2)))))) 8 ((F 2 8) + 1)) 9 ((F 2 9) + (bI (¬ (lz (F 2) (F 2 3)) = 0)))) 14), vI 14, .ref (ad 2)] ((mW (vG X) ad (up (up (up (up F 0 (up (up (up (F 0) 20 (7 + dl (F 2))) 22 (2 + (7 + dl (F 2)) + (escI (pbF (F 2)) (7 + dl (F 2))))) 23 (escI (pbF (F 2)) (7 + dl (F 2))))) 2 (up (up (up (up (F 2) 3 ((F 2 3) + 1)) 0 ((F 2 0) + (2 + (7 + dl (F 2)) + (escI (pbF (F 2)) (7 + dl (F 2)))))) 8 ((F 2 8) + 1)) 9 ((F 2 9) + (bI (¬ (lz (F 2) (F 2 3)) = 0))))) 8 (f8)) 9 (f9))))
  rw [up_n (show (14 : Int) ≠ 9 by decide), up_n (show (14 : Int) ≠ 8 by decide), up_n (show (14 : Int) ≠ 0 by decide), up_n (show (14 : Int) ≠ 3 by decide)]
  refine v_aload_n C dX8_step_88 rfl 3 rfl ?_
  refine v_get (v := vI (2 + (7 + dl (F 2)) + (escI (pbF (F 2)) (7 + dl (F 2))))) C inw_8 0 22 rfl (by decide) (List.mem_cons_of_mem _ mw_532) rfl rfl dX8_step_89 ?_
  refine v_iadd C dX8_step_92 ?_
  refine v_iast C 2 rfl (by decide) (by decide) (by decide) dX8_step_93 (ws' := (mW (vG X) ad (up (up (up (up F 0 (up (up (up (F 0) 20 (7 + dl (F 2))) 22 (2 + (7 + dl (F 2)) + (escI (pbF (F 2)) (7 + dl (F 2))))) 23 (escI (pbF (F 2)) (7 + dl (F 2))))) 2 (up (up (up (up (up (F 2) 3 ((F 2 3) + 1)) 0 ((F 2 0) + (2 + (7 + dl (F 2)) + (escI (pbF (F 2)) (7 + dl (F 2)))))) 8 ((F 2 8) + 1)) 9 ((F 2 9) + (bI (¬ (lz (F 2) (F 2 3)) = 0)))) 14 ((F 2 14) + (2 + (7 + dl (F 2)) + (escI (pbF (F 2)) (7 + dl (F 2))))))) 8 (f8)) 9 (f9)))) rfl ?_
  refine v_aload_n C dX8_step_94 rfl 3 rfl ?_
  refine v_get (v := .ref (ad 2)) C inw_8 0 10 rfl (by decide) (List.mem_cons_of_mem _ mw_105) rfl rfl dX8_step_95 ?_
  refine v_bipush C dX8_step_98 (by decide +kernel) ?_
  refine v_dup2 C dX8_step_100 rfl rfl ?_
  refine v_iald C 2 rfl (by decide) (by decide) (by decide) dX8_step_101 ?_
  show V X 0 0 102 [(3, vI (lz (F 2) (F 2 3))), (2, vI (bI (isDataP (F 2)))), (1, vI (F 2 1)), (0, .ref (ad 0))] [vI ((up (up (up (up (up (F 2) 3 ((F 2 3) + 1)) 0 ((F 2 0) + (2 + (7 + dl (F 2)) + (escI (pbF (F 2)) (7 + dl (F 2)))))) 8 ((F 2 8) + 1)) 9 ((F 2 9) + (bI (¬ (lz (F 2) (F 2 3)) = 0)))) 14 ((F 2 14) + (2 + (7 + dl (F 2)) + (escI (pbF (F 2)) (7 + dl (F 2)))))) 15), vI 15, .ref (ad 2)] ((mW (vG X) ad (up (up (up (up F 0 (up (up (up (F 0) 20 (7 + dl (F 2))) 22 (2 + (7 + dl (F 2)) + (escI (pbF (F 2)) (7 + dl (F 2))))) 23 (escI (pbF (F 2)) (7 + dl (F 2))))) 2 (up (up (up (up (up (F 2) 3 ((F 2 3) + 1)) 0 ((F 2 0) + (2 + (7 + dl (F 2)) + (escI (pbF (F 2)) (7 + dl (F 2)))))) 8 ((F 2 8) + 1)) 9 ((F 2 9) + (bI (¬ (lz (F 2) (F 2 3)) = 0)))) 14 ((F 2 14) + (2 + (7 + dl (F 2)) + (escI (pbF (F 2)) (7 + dl (F 2))))))) 8 (f8)) 9 (f9))))
  rw [up_n (show (15 : Int) ≠ 14 by decide), up_n (show (15 : Int) ≠ 9 by decide), up_n (show (15 : Int) ≠ 8 by decide), up_n (show (15 : Int) ≠ 0 by decide), up_n (show (15 : Int) ≠ 3 by decide)]
  refine v_aload_n C dX8_step_102 rfl 3 rfl ?_
  refine v_get (v := vI (escI (pbF (F 2)) (7 + dl (F 2)))) C inw_8 0 23 rfl (by decide) (List.mem_cons_of_mem _ mw_538) rfl rfl dX8_step_103 ?_
  refine v_iadd C dX8_step_106 ?_
  refine v_iast C 2 rfl (by decide) (by decide) (by decide) dX8_step_107 (ws' := (mW (vG X) ad (up (up (up (up F 0 (up (up (up (F 0) 20 (7 + dl (F 2))) 22 (2 + (7 + dl (F 2)) + (escI (pbF (F 2)) (7 + dl (F 2))))) 23 (escI (pbF (F 2)) (7 + dl (F 2))))) 2 (up (up (up (up (up (up (F 2) 3 ((F 2 3) + 1)) 0 ((F 2 0) + (2 + (7 + dl (F 2)) + (escI (pbF (F 2)) (7 + dl (F 2)))))) 8 ((F 2 8) + 1)) 9 ((F 2 9) + (bI (¬ (lz (F 2) (F 2 3)) = 0)))) 14 ((F 2 14) + (2 + (7 + dl (F 2)) + (escI (pbF (F 2)) (7 + dl (F 2)))))) 15 ((F 2 15) + (escI (pbF (F 2)) (7 + dl (F 2)))))) 8 (f8)) 9 (f9)))) rfl ?_
  refine v_iload_n C dX8_step_108 rfl 1 rfl ?_
  refine v_if_eq (tgt := 121) C dX8_step_109 (by decide) sm_bI (fun c109 => ?_) (fun c109 => ?_)
  · have c109 := bI_0.mp c109
    refine v_aload_n C dX8_step_121 rfl 3 rfl ?_
    refine v_iload_n C dX8_step_122 rfl 2 rfl ?_
    refine v_iload_n C dX8_step_123 rfl 0 rfl ?_
    refine v_callV (na := 2) (wy := (Cond.code yX8_sendsTurn cX8_sendsTurn 6 none :: wsL_law)) (wc := (mW (vG X) ad (up (up (up (up F 0 (up (up (up (F 0) 20 (7 + dl (F 2))) 22 (2 + (7 + dl (F 2)) + (escI (pbF (F 2)) (7 + dl (F 2))))) 23 (escI (pbF (F 2)) (7 + dl (F 2))))) 2 (up (up (up (up (up (up (F 2) 3 ((F 2 3) + 1)) 0 ((F 2 0) + (2 + (7 + dl (F 2)) + (escI (pbF (F 2)) (7 + dl (F 2)))))) 8 ((F 2 8) + 1)) 9 ((F 2 9) + (bI (¬ (lz (F 2) (F 2 3)) = 0)))) 14 ((F 2 14) + (2 + (7 + dl (F 2)) + (escI (pbF (F 2)) (7 + dl (F 2)))))) 15 ((F 2 15) + (escI (pbF (F 2)) (7 + dl (F 2)))))) 8 (f8)) 9 (f9)))) (wr := []) C [vI (F 2 1), vI (lz (F 2) (F 2 3))] [] (c_X8_sendsTurn _ _ ad (up (up (up (up F 0 (up (up (up (F 0) 20 (7 + dl (F 2))) 22 (2 + (7 + dl (F 2)) + (escI (pbF (F 2)) (7 + dl (F 2))))) 23 (escI (pbF (F 2)) (7 + dl (F 2))))) 2 (up (up (up (up (up (up (F 2) 3 ((F 2 3) + 1)) 0 ((F 2 0) + (2 + (7 + dl (F 2)) + (escI (pbF (F 2)) (7 + dl (F 2)))))) 8 ((F 2 8) + 1)) 9 ((F 2 9) + (bI (¬ (lz (F 2) (F 2 3)) = 0)))) 14 ((F 2 14) + (2 + (7 + dl (F 2)) + (escI (pbF (F 2)) (7 + dl (F 2)))))) 15 ((F 2 15) + (escI (pbF (F 2)) (7 + dl (F 2)))))) 8 (f8)) 9 (f9)) (F 2 1) (lz (F 2) (F 2 3)) (by have := hB 1; omega) (lz_01 _ _) (sB_up (sB_up (sB_up (sB_up (sB_up (sB_up (sB_mono (by decide) hB) (by have := hB 3; exact ⟨by omega, by omega⟩)) (by have := hB 0; exact ⟨by omega, by omega⟩)) (by have := hB 8; exact ⟨by omega, by omega⟩)) (by have := hB 9; have := bI_in (p := ¬ (lz (F 2) (F 2 3)) = 0); exact ⟨by omega, by omega⟩)) (by have := hB 14; exact ⟨by omega, by omega⟩)) (by have := hB 15; exact ⟨by omega, by omega⟩))) rfl (gwV mw_670 mw_667 mw_668 mw_669 mw_5) rfl (by decide +kernel) 0 rfl rfl rfl rfl Sb.w rfl rfl dX8_step_124 (fun r w1 hp124_4 => ?_)
    obtain ⟨rfl, rfl⟩ := hp124_4
    show V X 0 0 127 [(3, vI (lz (F 2) (F 2 3))), (2, vI (bI (isDataP (F 2)))), (1, vI (F 2 1)), (0, .ref (ad 0))] [] ((mW (vG X) ad (up (up (up (up F 0 (up (up (up (F 0) 20 (7 + dl (F 2))) 22 (2 + (7 + dl (F 2)) + (escI (pbF (F 2)) (7 + dl (F 2))))) 23 (escI (pbF (F 2)) (7 + dl (F 2))))) 2 (stF (F 2 1) (lz (F 2) (F 2 3)) (up (up (up (up (up (up (F 2) 3 ((F 2 3) + 1)) 0 ((F 2 0) + (2 + (7 + dl (F 2)) + (escI (pbF (F 2)) (7 + dl (F 2)))))) 8 ((F 2 8) + 1)) 9 ((F 2 9) + (bI (¬ (lz (F 2) (F 2 3)) = 0)))) 14 ((F 2 14) + (2 + (7 + dl (F 2)) + (escI (pbF (F 2)) (7 + dl (F 2)))))) 15 ((F 2 15) + (escI (pbF (F 2)) (7 + dl (F 2))))))) 8 (f8)) 9 (f9))))
    refine v_aload_n C dX8_step_127 rfl 3 rfl ?_
    refine v_get (v := vI (F 0 24)) C inw_8 0 24 rfl (by decide) (List.mem_cons_of_mem _ mw_646) rfl rfl dX8_step_128 ?_
    refine v_if_eq (tgt := 138) C dX8_step_131 (by decide) (by  first | assumption | exact ⟨by omega, by omega⟩) (fun c131 => ?_) (fun c131 => ?_)
    · skip
      exact v_vret C E rfl dX8_step_138 (by decide) (by decide) (⟨rfl, _, _, _, f8, f9, by rw [show (stepF (F 0 24) (F 2)) = (stF (F 2 1) (lz (F 2) (F 2 3)) (up (up (up (up (up (up (F 2) 3 ((F 2 3) + 1)) 0 ((F 2 0) + (2 + (7 + dl (F 2)) + (escI (pbF (F 2)) (7 + dl (F 2)))))) 8 ((F 2 8) + 1)) 9 ((F 2 9) + (bI (¬ (lz (F 2) (F 2 3)) = 0)))) 14 ((F 2 14) + (2 + (7 + dl (F 2)) + (escI (pbF (F 2)) (7 + dl (F 2)))))) 15 ((F 2 15) + (escI (pbF (F 2)) (7 + dl (F 2)))))) from ((if_neg c109).trans (if_pos c131))] <;> rfl⟩)
    · skip
      refine v_aload_n C dX8_step_134 rfl 3 rfl ?_
      refine v_callV (na := 0) (wy := (Cond.code yX8_readsAll cX8_readsAll 2 none :: wsL_law)) (wc := (mW (vG X) ad (up (up (up (up F 0 (up (up (up (F 0) 20 (7 + dl (F 2))) 22 (2 + (7 + dl (F 2)) + (escI (pbF (F 2)) (7 + dl (F 2))))) 23 (escI (pbF (F 2)) (7 + dl (F 2))))) 2 (stF (F 2 1) (lz (F 2) (F 2 3)) (up (up (up (up (up (up (F 2) 3 ((F 2 3) + 1)) 0 ((F 2 0) + (2 + (7 + dl (F 2)) + (escI (pbF (F 2)) (7 + dl (F 2)))))) 8 ((F 2 8) + 1)) 9 ((F 2 9) + (bI (¬ (lz (F 2) (F 2 3)) = 0)))) 14 ((F 2 14) + (2 + (7 + dl (F 2)) + (escI (pbF (F 2)) (7 + dl (F 2)))))) 15 ((F 2 15) + (escI (pbF (F 2)) (7 + dl (F 2))))))) 8 (f8)) 9 (f9)))) (wr := []) C [] [] (c_X8_readsAll _ _ ad (up (up (up (up F 0 (up (up (up (F 0) 20 (7 + dl (F 2))) 22 (2 + (7 + dl (F 2)) + (escI (pbF (F 2)) (7 + dl (F 2))))) 23 (escI (pbF (F 2)) (7 + dl (F 2))))) 2 (stF (F 2 1) (lz (F 2) (F 2 3)) (up (up (up (up (up (up (F 2) 3 ((F 2 3) + 1)) 0 ((F 2 0) + (2 + (7 + dl (F 2)) + (escI (pbF (F 2)) (7 + dl (F 2)))))) 8 ((F 2 8) + 1)) 9 ((F 2 9) + (bI (¬ (lz (F 2) (F 2 3)) = 0)))) 14 ((F 2 14) + (2 + (7 + dl (F 2)) + (escI (pbF (F 2)) (7 + dl (F 2)))))) 15 ((F 2 15) + (escI (pbF (F 2)) (7 + dl (F 2))))))) 8 (f8)) 9 (f9)) ) rfl (gwV mw_650 mw_647 mw_648 mw_649 mw_5) rfl (by decide +kernel) 0 rfl rfl rfl rfl Sb.w rfl rfl dX8_step_135 (fun r w1 hp135_5 => ?_)
      obtain ⟨rfl, rfl⟩ := hp135_5
      show V X 0 0 138 [(3, vI (lz (F 2) (F 2 3))), (2, vI (bI (isDataP (F 2)))), (1, vI (F 2 1)), (0, .ref (ad 0))] [] ((mW (vG X) ad (up (up (up (up F 0 (up (up (up (F 0) 20 (7 + dl (F 2))) 22 (2 + (7 + dl (F 2)) + (escI (pbF (F 2)) (7 + dl (F 2))))) 23 (escI (pbF (F 2)) (7 + dl (F 2))))) 2 (rdF (stF (F 2 1) (lz (F 2) (F 2 3)) (up (up (up (up (up (up (F 2) 3 ((F 2 3) + 1)) 0 ((F 2 0) + (2 + (7 + dl (F 2)) + (escI (pbF (F 2)) (7 + dl (F 2)))))) 8 ((F 2 8) + 1)) 9 ((F 2 9) + (bI (¬ (lz (F 2) (F 2 3)) = 0)))) 14 ((F 2 14) + (2 + (7 + dl (F 2)) + (escI (pbF (F 2)) (7 + dl (F 2)))))) 15 ((F 2 15) + (escI (pbF (F 2)) (7 + dl (F 2)))))))) 8 (f8)) 9 (f9))))
      exact v_vret C E rfl dX8_step_138 (by decide) (by decide) (⟨rfl, _, _, _, f8, f9, by rw [show (stepF (F 0 24) (F 2)) = (rdF (stF (F 2 1) (lz (F 2) (F 2 3)) (up (up (up (up (up (up (F 2) 3 ((F 2 3) + 1)) 0 ((F 2 0) + (2 + (7 + dl (F 2)) + (escI (pbF (F 2)) (7 + dl (F 2)))))) 8 ((F 2 8) + 1)) 9 ((F 2 9) + (bI (¬ (lz (F 2) (F 2 3)) = 0)))) 14 ((F 2 14) + (2 + (7 + dl (F 2)) + (escI (pbF (F 2)) (7 + dl (F 2)))))) 15 ((F 2 15) + (escI (pbF (F 2)) (7 + dl (F 2))))))) from ((if_neg c109).trans (if_neg c131))] <;> rfl⟩)
  · have c109 := bI_n0.mp c109
    refine v_aload_n C dX8_step_112 rfl 3 rfl ?_
    refine v_iload_n C dX8_step_113 rfl 2 rfl ?_
    refine v_iload_n C dX8_step_114 rfl 0 rfl ?_
    refine v_callV (na := 2) (wy := (Cond.code yX8_sendsData cX8_sendsData 5 none :: wsL_law)) (wc := (mW (vG X) ad (up (up (up (up F 0 (up (up (up (F 0) 20 (7 + dl (F 2))) 22 (2 + (7 + dl (F 2)) + (escI (pbF (F 2)) (7 + dl (F 2))))) 23 (escI (pbF (F 2)) (7 + dl (F 2))))) 2 (up (up (up (up (up (up (F 2) 3 ((F 2 3) + 1)) 0 ((F 2 0) + (2 + (7 + dl (F 2)) + (escI (pbF (F 2)) (7 + dl (F 2)))))) 8 ((F 2 8) + 1)) 9 ((F 2 9) + (bI (¬ (lz (F 2) (F 2 3)) = 0)))) 14 ((F 2 14) + (2 + (7 + dl (F 2)) + (escI (pbF (F 2)) (7 + dl (F 2)))))) 15 ((F 2 15) + (escI (pbF (F 2)) (7 + dl (F 2)))))) 8 (f8)) 9 (f9)))) (wr := []) C [vI (F 2 1), vI (lz (F 2) (F 2 3))] [] (c_X8_sendsData _ _ ad (up (up (up (up F 0 (up (up (up (F 0) 20 (7 + dl (F 2))) 22 (2 + (7 + dl (F 2)) + (escI (pbF (F 2)) (7 + dl (F 2))))) 23 (escI (pbF (F 2)) (7 + dl (F 2))))) 2 (up (up (up (up (up (up (F 2) 3 ((F 2 3) + 1)) 0 ((F 2 0) + (2 + (7 + dl (F 2)) + (escI (pbF (F 2)) (7 + dl (F 2)))))) 8 ((F 2 8) + 1)) 9 ((F 2 9) + (bI (¬ (lz (F 2) (F 2 3)) = 0)))) 14 ((F 2 14) + (2 + (7 + dl (F 2)) + (escI (pbF (F 2)) (7 + dl (F 2)))))) 15 ((F 2 15) + (escI (pbF (F 2)) (7 + dl (F 2)))))) 8 (f8)) 9 (f9)) (F 2 1) (lz (F 2) (F 2 3)) (by have := hB 1; omega) (lz_01 _ _) (show (up (up (up (up (up (up (F 2) 3 ((F 2 3) + 1)) 0 ((F 2 0) + (2 + (7 + dl (F 2)) + (escI (pbF (F 2)) (7 + dl (F 2)))))) 8 ((F 2 8) + 1)) 9 ((F 2 9) + (bI (¬ (lz (F 2) (F 2 3)) = 0)))) 14 ((F 2 14) + (2 + (7 + dl (F 2)) + (escI (pbF (F 2)) (7 + dl (F 2)))))) 15 ((F 2 15) + (escI (pbF (F 2)) (7 + dl (F 2))))) 1 = 0 ∨ (up (up (up (up (up (up (F 2) 3 ((F 2 3) + 1)) 0 ((F 2 0) + (2 + (7 + dl (F 2)) + (escI (pbF (F 2)) (7 + dl (F 2)))))) 8 ((F 2 8) + 1)) 9 ((F 2 9) + (bI (¬ (lz (F 2) (F 2 3)) = 0)))) 14 ((F 2 14) + (2 + (7 + dl (F 2)) + (escI (pbF (F 2)) (7 + dl (F 2)))))) 15 ((F 2 15) + (escI (pbF (F 2)) (7 + dl (F 2))))) 1 = 1 by rw [up_n (show (1 : Int) ≠ 15 by decide), up_n (show (1 : Int) ≠ 14 by decide), up_n (show (1 : Int) ≠ 9 by decide), up_n (show (1 : Int) ≠ 8 by decide), up_n (show (1 : Int) ≠ 0 by decide), up_n (show (1 : Int) ≠ 3 by decide)]; exact hT) (sB_up (sB_up (sB_up (sB_up (sB_up (sB_up (sB_mono (by decide) hB) (by have := hB 3; exact ⟨by omega, by omega⟩)) (by have := hB 0; exact ⟨by omega, by omega⟩)) (by have := hB 8; exact ⟨by omega, by omega⟩)) (by have := hB 9; have := bI_in (p := ¬ (lz (F 2) (F 2 3)) = 0); exact ⟨by omega, by omega⟩)) (by have := hB 14; exact ⟨by omega, by omega⟩)) (by have := hB 15; exact ⟨by omega, by omega⟩))) rfl (gwV mw_662 mw_659 mw_660 mw_661 mw_5) rfl (by decide +kernel) 0 rfl rfl rfl rfl Sb.w rfl rfl dX8_step_115 (fun r w1 hp115_6 => ?_)
    obtain ⟨rfl, rfl⟩ := hp115_6
    show V X 0 0 118 [(3, vI (lz (F 2) (F 2 3))), (2, vI (bI (isDataP (F 2)))), (1, vI (F 2 1)), (0, .ref (ad 0))] [] ((mW (vG X) ad (up (up (up (up F 0 (up (up (up (F 0) 20 (7 + dl (F 2))) 22 (2 + (7 + dl (F 2)) + (escI (pbF (F 2)) (7 + dl (F 2))))) 23 (escI (pbF (F 2)) (7 + dl (F 2))))) 2 (sdF (F 2 1) (lz (F 2) (F 2 3)) (up (up (up (up (up (up (F 2) 3 ((F 2 3) + 1)) 0 ((F 2 0) + (2 + (7 + dl (F 2)) + (escI (pbF (F 2)) (7 + dl (F 2)))))) 8 ((F 2 8) + 1)) 9 ((F 2 9) + (bI (¬ (lz (F 2) (F 2 3)) = 0)))) 14 ((F 2 14) + (2 + (7 + dl (F 2)) + (escI (pbF (F 2)) (7 + dl (F 2)))))) 15 ((F 2 15) + (escI (pbF (F 2)) (7 + dl (F 2))))))) 8 (f8)) 9 (f9))))
    refine v_goto (tgt := 127) C dX8_step_118 (by decide) ?_
    refine v_aload_n C dX8_step_127 rfl 3 rfl ?_
    refine v_get (v := vI (F 0 24)) C inw_8 0 24 rfl (by decide) (List.mem_cons_of_mem _ mw_646) rfl rfl dX8_step_128 ?_
    refine v_if_eq (tgt := 138) C dX8_step_131 (by decide) (by  first | assumption | exact ⟨by omega, by omega⟩) (fun c131 => ?_) (fun c131 => ?_)
    · skip
      exact v_vret C E rfl dX8_step_138 (by decide) (by decide) (⟨rfl, _, _, _, f8, f9, by rw [show (stepF (F 0 24) (F 2)) = (sdF (F 2 1) (lz (F 2) (F 2 3)) (up (up (up (up (up (up (F 2) 3 ((F 2 3) + 1)) 0 ((F 2 0) + (2 + (7 + dl (F 2)) + (escI (pbF (F 2)) (7 + dl (F 2)))))) 8 ((F 2 8) + 1)) 9 ((F 2 9) + (bI (¬ (lz (F 2) (F 2 3)) = 0)))) 14 ((F 2 14) + (2 + (7 + dl (F 2)) + (escI (pbF (F 2)) (7 + dl (F 2)))))) 15 ((F 2 15) + (escI (pbF (F 2)) (7 + dl (F 2)))))) from ((if_pos c109).trans (if_pos c131))] <;> rfl⟩)
    · skip
      refine v_aload_n C dX8_step_134 rfl 3 rfl ?_
      refine v_callV (na := 0) (wy := (Cond.code yX8_readsAll cX8_readsAll 2 none :: wsL_law)) (wc := (mW (vG X) ad (up (up (up (up F 0 (up (up (up (F 0) 20 (7 + dl (F 2))) 22 (2 + (7 + dl (F 2)) + (escI (pbF (F 2)) (7 + dl (F 2))))) 23 (escI (pbF (F 2)) (7 + dl (F 2))))) 2 (sdF (F 2 1) (lz (F 2) (F 2 3)) (up (up (up (up (up (up (F 2) 3 ((F 2 3) + 1)) 0 ((F 2 0) + (2 + (7 + dl (F 2)) + (escI (pbF (F 2)) (7 + dl (F 2)))))) 8 ((F 2 8) + 1)) 9 ((F 2 9) + (bI (¬ (lz (F 2) (F 2 3)) = 0)))) 14 ((F 2 14) + (2 + (7 + dl (F 2)) + (escI (pbF (F 2)) (7 + dl (F 2)))))) 15 ((F 2 15) + (escI (pbF (F 2)) (7 + dl (F 2))))))) 8 (f8)) 9 (f9)))) (wr := []) C [] [] (c_X8_readsAll _ _ ad (up (up (up (up F 0 (up (up (up (F 0) 20 (7 + dl (F 2))) 22 (2 + (7 + dl (F 2)) + (escI (pbF (F 2)) (7 + dl (F 2))))) 23 (escI (pbF (F 2)) (7 + dl (F 2))))) 2 (sdF (F 2 1) (lz (F 2) (F 2 3)) (up (up (up (up (up (up (F 2) 3 ((F 2 3) + 1)) 0 ((F 2 0) + (2 + (7 + dl (F 2)) + (escI (pbF (F 2)) (7 + dl (F 2)))))) 8 ((F 2 8) + 1)) 9 ((F 2 9) + (bI (¬ (lz (F 2) (F 2 3)) = 0)))) 14 ((F 2 14) + (2 + (7 + dl (F 2)) + (escI (pbF (F 2)) (7 + dl (F 2)))))) 15 ((F 2 15) + (escI (pbF (F 2)) (7 + dl (F 2))))))) 8 (f8)) 9 (f9)) ) rfl (gwV mw_650 mw_647 mw_648 mw_649 mw_5) rfl (by decide +kernel) 0 rfl rfl rfl rfl Sb.w rfl rfl dX8_step_135 (fun r w1 hp135_7 => ?_)
      obtain ⟨rfl, rfl⟩ := hp135_7
      show V X 0 0 138 [(3, vI (lz (F 2) (F 2 3))), (2, vI (bI (isDataP (F 2)))), (1, vI (F 2 1)), (0, .ref (ad 0))] [] ((mW (vG X) ad (up (up (up (up F 0 (up (up (up (F 0) 20 (7 + dl (F 2))) 22 (2 + (7 + dl (F 2)) + (escI (pbF (F 2)) (7 + dl (F 2))))) 23 (escI (pbF (F 2)) (7 + dl (F 2))))) 2 (rdF (sdF (F 2 1) (lz (F 2) (F 2 3)) (up (up (up (up (up (up (F 2) 3 ((F 2 3) + 1)) 0 ((F 2 0) + (2 + (7 + dl (F 2)) + (escI (pbF (F 2)) (7 + dl (F 2)))))) 8 ((F 2 8) + 1)) 9 ((F 2 9) + (bI (¬ (lz (F 2) (F 2 3)) = 0)))) 14 ((F 2 14) + (2 + (7 + dl (F 2)) + (escI (pbF (F 2)) (7 + dl (F 2)))))) 15 ((F 2 15) + (escI (pbF (F 2)) (7 + dl (F 2)))))))) 8 (f8)) 9 (f9))))
      exact v_vret C E rfl dX8_step_138 (by decide) (by decide) (⟨rfl, _, _, _, f8, f9, by rw [show (stepF (F 0 24) (F 2)) = (rdF (sdF (F 2 1) (lz (F 2) (F 2 3)) (up (up (up (up (up (up (F 2) 3 ((F 2 3) + 1)) 0 ((F 2 0) + (2 + (7 + dl (F 2)) + (escI (pbF (F 2)) (7 + dl (F 2)))))) 8 ((F 2 8) + 1)) 9 ((F 2 9) + (bI (¬ (lz (F 2) (F 2 3)) = 0)))) 14 ((F 2 14) + (2 + (7 + dl (F 2)) + (escI (pbF (F 2)) (7 + dl (F 2)))))) 15 ((F 2 15) + (escI (pbF (F 2)) (7 + dl (F 2))))))) from ((if_pos c109).trans (if_neg c131))] <;> rfl⟩)
set_option maxHeartbeats 4000000 in
set_option maxRecDepth 100000 in
theorem c_X8_copy (G : GG) (l : Launch) (a b NA NB : Nat) (fa fb : Int → Int) (k t : Int) (k0 : 0 ≤ k) (k1 : 441 * k + 441 ≤ NA) (kN : NA < 2147483648) (t0 : 0 ≤ t) (t1 : 441 * t + 441 ≤ NB) (tN : NB < 2147483648) : Ct G l yX8_copy (Cond.code yX8_copy cX8_copy 5 none :: wsL_law) 0 0 0 0 [.ref a, vI k, .ref b, vI t] ([(a, .inl (G.2 1, NA, .inl (fI fa))), (b, .inl (G.2 1, NB, .inl (fI fb)))]) (fun r w => r = none ∧ w = [(a, .inl (G.2 1, NA, .inl (fI fa))), (b, .inl (G.2 1, NB, .inl (fI (cpF fa fb k t 441))))]) := by
  refine Ct.of (own := RX8) (cc := cX8_copy) (maxL := 5) (ret := none) (by decide) rfl rfl (Nat.le_of_ble_eq_true rfl) (fun X C E M hG hl => ?_)
  subst hG hl
  refine v_iconst C dX8_copy_0 ?_
  refine v_istore C M dX8_copy_1 (by decide) (L' := [(4, vI 0), (0, .ref a), (1, vI k), (2, .ref b), (3, vI t)]) rfl ?_
  refine V.loc (L' := [(0, .ref a), (1, vI k), (2, .ref b), (3, vI t), (4, vI 0)]) [1, 2, 3, 4, 0] rfl ?_
  have lp : ∀ (n : Nat) (i : Int) (hi : 0 ≤ i) (hi2 : i ≤ 441) (hm : 441 - i < (n : Int)), V X 0 0 3 [(0, .ref a), (1, vI k), (2, .ref b), (3, vI t), (4, vI i)] [] ([(a, .inl ((vG X).2 1, NA, .inl (fI fa))), (b, .inl ((vG X).2 1, NB, .inl (fI (cpF fa fb k t i))))]) := by
    intro n
    induction n with
    | zero => intro i hi hi2 hm; exact absurd hm (by omega)
    | succ n ih =>
      intro i hi hi2 hm
      refine v_iload C dX8_copy_3 4 rfl ?_
      refine v_sipush C dX8_copy_5 (by decide +kernel) ?_
      refine v_icmp_ge (tgt := 37) C dX8_copy_8 (by decide) (by  first | assumption | exact ⟨by omega, by omega⟩) (by decide) (fun c8 => ?_) (fun c8 => ?_)
      · have e : i = 441 := by omega
        subst e
        exact v_vret C E rfl dX8_copy_37 (by decide) (by decide) (⟨rfl, rfl⟩)
      · refine v_aload_n C dX8_copy_11 rfl 2 rfl ?_
        refine v_sipush C dX8_copy_12 (by decide +kernel) ?_
        refine v_iload_n C dX8_copy_15 rfl 3 rfl ?_
        refine v_imul C dX8_copy_16 ?_
        refine v_iload C dX8_copy_17 4 rfl ?_
        refine v_iadd C dX8_copy_19 ?_
        refine v_aload_n C dX8_copy_20 rfl 0 rfl ?_
        refine v_sipush C dX8_copy_21 (by decide +kernel) ?_
        refine v_iload_n C dX8_copy_24 rfl 1 rfl ?_
        refine v_imul C dX8_copy_25 ?_
        refine v_iload C dX8_copy_26 4 rfl ?_
        refine v_iadd C dX8_copy_28 ?_
        refine v_iald C 0 rfl (by omega) (by omega) kN dX8_copy_29 ?_
        refine v_iast C 1 rfl (by omega) (by omega) tN dX8_copy_30 (ws' := [(a, .inl ((vG X).2 1, NA, .inl (fI fa))), (b, .inl ((vG X).2 1, NB, .inl (fI (cpF fa fb k t (i + 1)))))]) (by rw [cpF_s hi]; rfl) ?_
        refine v_iinc C M dX8_copy_31 4 rfl (by decide) (z' := (i + 1)) rfl (L' := [(4, vI (i + 1)), (0, .ref a), (1, vI k), (2, .ref b), (3, vI t)]) rfl ?_
        refine v_goto (tgt := 3) C dX8_copy_34 (by decide) ?_
        refine V.loc (L' := [(0, .ref a), (1, vI k), (2, .ref b), (3, vI t), (4, vI (i + 1))]) [1, 2, 3, 4, 0] rfl ?_
        exact ih (i + 1) (by omega) (by omega) (by omega)
  have key := lp 442 0 (by omega) (by omega) (by omega)
  rw [cpF_0] at key
  exact key
set_option maxHeartbeats 4000000 in
set_option maxRecDepth 100000 in
theorem c_X8_copy_s (G : GG) (l : Launch) (a NA : Nat) (fa : Int → Int) (k t : Int) (k1 : 441 * k + 441 ≤ NA) (kN : NA < 2147483648) (t0 : 0 ≤ t) (kt : t < k) : Ct G l yX8_copy (Cond.code yX8_copy cX8_copy 5 none :: wsL_law) 0 0 0 0 [.ref a, vI k, .ref a, vI t] ([(a, .inl (G.2 1, NA, .inl (fI fa)))]) (fun r w => r = none ∧ w = [(a, .inl (G.2 1, NA, .inl (fI (cpF fa fa k t 441))))]) := by
  refine Ct.of (own := RX8) (cc := cX8_copy) (maxL := 5) (ret := none) (by decide) rfl rfl (Nat.le_of_ble_eq_true rfl) (fun X C E M hG hl => ?_)
  subst hG hl
  refine v_iconst C dX8_copy_0 ?_
  refine v_istore C M dX8_copy_1 (by decide) (L' := [(4, vI 0), (0, .ref a), (1, vI k), (2, .ref a), (3, vI t)]) rfl ?_
  refine V.loc (L' := [(0, .ref a), (1, vI k), (2, .ref a), (3, vI t), (4, vI 0)]) [1, 2, 3, 4, 0] rfl ?_
  have lp : ∀ (n : Nat) (i : Int) (hi : 0 ≤ i) (hi2 : i ≤ 441) (hm : 441 - i < (n : Int)), V X 0 0 3 [(0, .ref a), (1, vI k), (2, .ref a), (3, vI t), (4, vI i)] [] ([(a, .inl ((vG X).2 1, NA, .inl (fI (cpF fa fa k t i))))]) := by
    intro n
    induction n with
    | zero => intro i hi hi2 hm; exact absurd hm (by omega)
    | succ n ih =>
      intro i hi hi2 hm
      refine v_iload C dX8_copy_3 4 rfl ?_
      refine v_sipush C dX8_copy_5 (by decide +kernel) ?_
      refine v_icmp_ge (tgt := 37) C dX8_copy_8 (by decide) (by  first | assumption | exact ⟨by omega, by omega⟩) (by decide) (fun c8 => ?_) (fun c8 => ?_)
      · have e : i = 441 := by omega
        subst e
        exact v_vret C E rfl dX8_copy_37 (by decide) (by decide) (⟨rfl, rfl⟩)
      · refine v_aload_n C dX8_copy_11 rfl 2 rfl ?_
        refine v_sipush C dX8_copy_12 (by decide +kernel) ?_
        refine v_iload_n C dX8_copy_15 rfl 3 rfl ?_
        refine v_imul C dX8_copy_16 ?_
        refine v_iload C dX8_copy_17 4 rfl ?_
        refine v_iadd C dX8_copy_19 ?_
        refine v_aload_n C dX8_copy_20 rfl 0 rfl ?_
        refine v_sipush C dX8_copy_21 (by decide +kernel) ?_
        refine v_iload_n C dX8_copy_24 rfl 1 rfl ?_
        refine v_imul C dX8_copy_25 ?_
        refine v_iload C dX8_copy_26 4 rfl ?_
        refine v_iadd C dX8_copy_28 ?_
        refine v_iald C 0 rfl (by omega) (by omega) kN dX8_copy_29 ?_
        rw [show cpF fa fa k t i (441 * k + i) = fa (441 * k + i) from if_neg (by omega)]
        refine v_iast C 0 rfl (by omega) (by omega) kN dX8_copy_30 (ws' := [(a, .inl ((vG X).2 1, NA, .inl (fI (cpF fa fa k t (i + 1)))))]) (by rw [cpF_s hi]; rfl) ?_
        refine v_iinc C M dX8_copy_31 4 rfl (by decide) (z' := (i + 1)) rfl (L' := [(4, vI (i + 1)), (0, .ref a), (1, vI k), (2, .ref a), (3, vI t)]) rfl ?_
        refine v_goto (tgt := 3) C dX8_copy_34 (by decide) ?_
        refine V.loc (L' := [(0, .ref a), (1, vI k), (2, .ref a), (3, vI t), (4, vI (i + 1))]) [1, 2, 3, 4, 0] rfl ?_
        exact ih (i + 1) (by omega) (by omega) (by omega)
  have key := lp 442 0 (by omega) (by omega) (by omega)
  rw [cpF_0] at key
  exact key
set_option maxHeartbeats 4000000 in
set_option maxRecDepth 100000 in
theorem c_X8_keep (G : GG) (l : Launch) (ad : Nat → Nat) (F : Int → Int → Int) (hd0 : 0 ≤ F 0 14) (hd1 : F 0 14 ≤ 10) : Ct G l yX8_keep (Cond.code yX8_keep cX8_keep 2 none :: wsL_law) 1 24 0 0 [.ref (ad 0)] ((mW G ad F)) (fun r w => r = none ∧ w = mW G ad (up (up F 0 (up (F 0) 14 (kpD (F 0 14) + 1))) 5 (cpF (F 2) (kpH (F 0 14) (F 5)) 0 (kpD (F 0 14)) 441))) := by
  refine Ct.of (own := RX8) (cc := cX8_keep) (maxL := 2) (ret := none) (by decide) rfl rfl (Nat.le_of_ble_eq_true rfl) (fun X C E M hG hl => ?_)
  subst hG hl
  refine v_aload_n C dX8_keep_0 rfl 0 rfl ?_
  refine v_get (v := vI (F 0 14)) C inw_8 0 14 rfl (by decide) (List.mem_cons_of_mem _ mw_125) rfl rfl dX8_keep_1 ?_
  refine v_bipush C dX8_keep_4 (by decide +kernel) ?_
  refine v_icmp_ne (tgt := 48) C dX8_keep_6 (by decide) (by  first | assumption | exact ⟨by omega, by omega⟩) (by decide) (fun c6 => ?_) (fun c6 => ?_)
  · have cD : ¬ F 0 14 = 10 := by omega
    refine v_aload_n C dX8_keep_48 rfl 0 rfl ?_
    refine v_get (v := .ref (ad 2)) C inw_8 0 10 rfl (by decide) (List.mem_cons_of_mem _ mw_105) rfl rfl dX8_keep_49 ?_
    refine v_iconst C dX8_keep_52 ?_
    refine v_aload_n C dX8_keep_53 rfl 0 rfl ?_
    refine v_get (v := .ref (ad 5)) C inw_8 0 13 rfl (by decide) (List.mem_cons_of_mem _ mw_108) rfl rfl dX8_keep_54 ?_
    refine v_aload_n C dX8_keep_57 rfl 0 rfl ?_
    refine v_get (v := vI (F 0 14)) C inw_8 0 14 rfl (by decide) (List.mem_cons_of_mem _ mw_125) rfl rfl dX8_keep_58 ?_
    refine v_callS (na := 4) (wy := (Cond.code yX8_copy cX8_copy 5 none :: wsL_law)) (wc := [((ad 2), .inl ((vG X).2 1, 441, .inl (fI (F 2)))), ((ad 5), .inl ((vG X).2 1, 4410, .inl (fI (F 5))))]) (wr := [((ad 0), .inr (8, [vI (F 0 0), .ref (ad 1), vI (F 0 2), vI (F 0 3), vI (F 0 4), vI (F 0 5), vI (F 0 6), vI (F 0 7), vI (F 0 8), vI (F 0 9), .ref (ad 2), .ref (ad 3), .ref (ad 4), .ref (ad 5), vI (F 0 14), .ref (ad 6), .ref (ad 7), vI (F 0 17), vI (F 0 18), .ref (ad 8), vI (F 0 20), .ref (ad 9), vI (F 0 22), vI (F 0 23), vI (F 0 24), vI (F 0 25), vI (F 0 26)])), ((ad 1), .inl ((vG X).2 0, 700, .inl (fI (F 1)))), ((ad 3), .inl ((vG X).2 1, 441, .inl (fI (F 3)))), ((ad 4), .inl ((vG X).2 1, 441, .inl (fI (F 4)))), ((ad 6), .inl ((vG X).2 1, 882, .inl (fI (F 6)))), ((ad 7), .inl ((vG X).2 3, 2, .inl (fI (F 7)))), ((ad 8), .inl ((vG X).2 1, 15, .inl (fI (F 8)))), ((ad 9), .inl ((vG X).2 1, 40, .inl (fI (F 9))))]) C [.ref (ad 2), vI 0, .ref (ad 5), vI (F 0 14)] [] (c_X8_copy _ _ (ad 2) (ad 5) 441 4410 (F 2) (F 5) 0 (F 0 14) (by omega) (by omega) (by decide) (by omega) (by omega) (by decide)) rfl (gwS mw_350 mw_348 mw_349 mw_5) (by decide +kernel) rfl rfl (Sb.pl [2, 5, 0, 1, 3, 4, 6, 7, 8, 9] rfl rfl) rfl rfl dX8_keep_61 (fun r w1 hp61_1 => ?_)
    obtain ⟨rfl, rfl⟩ := hp61_1
    refine V.sb (ws' := (mW (vG X) ad (up F 5 (cpF (F 2) (F 5) 0 (F 0 14) 441)))) (Sb.pl [2, 3, 0, 4, 5, 1, 6, 7, 8, 9] rfl rfl) ?_
    show V X 0 0 64 [(0, .ref (ad 0))] [] ((mW (vG X) ad (up F 5 (cpF (F 2) (F 5) 0 (F 0 14) 441))))
    refine v_aload_n C dX8_keep_64 rfl 0 rfl ?_
    refine v_dup C dX8_keep_65 rfl ?_
    refine v_get (v := vI (F 0 14)) C inw_8 0 14 rfl (by decide) (List.mem_cons_of_mem _ mw_125) rfl rfl dX8_keep_66 ?_
    refine v_iconst C dX8_keep_69 ?_
    refine v_iadd C dX8_keep_70 ?_
    refine v_put C inw_8 tyX8 tyX8_ok nmX8 0 14 rfl (by decide) (List.mem_cons_of_mem _ mw_125) rfl rfl rfl rfl (Nat.le_of_ble_eq_true rfl) dX8_keep_71 (ws' := (mW (vG X) ad (up (up F 0 (up (F 0) 14 ((F 0 14) + 1))) 5 (cpF (F 2) (F 5) 0 (F 0 14) 441)))) rfl ?_
    exact v_vret C E rfl dX8_keep_74 (by decide) (by decide) (⟨rfl, by rw [show kpD (F 0 14) = F 0 14 from if_neg cD, show kpH (F 0 14) (F 5) = F 5 from if_neg cD] <;> rfl⟩)
  · have cD : F 0 14 = 10 := by omega
    skip
    refine v_iconst C dX8_keep_9 ?_
    refine v_istore_n C M dX8_keep_10 rfl (by decide) (L' := [(1, vI 1), (0, .ref (ad 0))]) rfl ?_
    refine V.loc (L' := [(0, .ref (ad 0)), (1, vI 1)]) [1, 0] rfl ?_
    have lp : ∀ (n : Nat) (d : Int) (hd : 1 ≤ d) (hd9 : d ≤ 10) (hm : 10 - d < (n : Int)), V X 0 0 11 [(0, .ref (ad 0)), (1, vI d)] [] ((mW (vG X) ad (up F 5 (shF (F 5) d)))) := by
      intro n
      induction n with
      | zero => intro d hd hd9 hm; exact absurd hm (by omega)
      | succ n ih =>
        intro d hd hd9 hm
        refine v_iload_n C dX8_keep_11 rfl 1 rfl ?_
        refine v_bipush C dX8_keep_12 (by decide +kernel) ?_
        refine v_icmp_ge (tgt := 38) C dX8_keep_14 (by decide) (by  first | assumption | exact ⟨by omega, by omega⟩) (by decide) (fun c14 => ?_) (fun c14 => ?_)
        · have e : d = 10 := by omega
          subst e
          refine v_aload_n C dX8_keep_38 rfl 0 rfl ?_
          refine v_dup C dX8_keep_39 rfl ?_
          refine v_get (v := vI (F 0 14)) C inw_8 0 14 rfl (by decide) (List.mem_cons_of_mem _ mw_125) rfl rfl dX8_keep_40 ?_
          refine v_iconst C dX8_keep_43 ?_
          refine v_isub C dX8_keep_44 ?_
          refine v_put C inw_8 tyX8 tyX8_ok nmX8 0 14 rfl (by decide) (List.mem_cons_of_mem _ mw_125) rfl rfl rfl rfl (Nat.le_of_ble_eq_true rfl) dX8_keep_45 (ws' := (mW (vG X) ad (up (up F 0 (up (F 0) 14 ((F 0 14) - 1))) 5 (shF (F 5) 10)))) rfl ?_
          refine v_aload_n C dX8_keep_48 rfl 0 rfl ?_
          refine v_get (v := .ref (ad 2)) C inw_8 0 10 rfl (by decide) (List.mem_cons_of_mem _ mw_105) rfl rfl dX8_keep_49 ?_
          refine v_iconst C dX8_keep_52 ?_
          refine v_aload_n C dX8_keep_53 rfl 0 rfl ?_
          refine v_get (v := .ref (ad 5)) C inw_8 0 13 rfl (by decide) (List.mem_cons_of_mem _ mw_108) rfl rfl dX8_keep_54 ?_
          refine v_aload_n C dX8_keep_57 rfl 0 rfl ?_
          refine v_get (v := vI ((F 0 14) - 1)) C inw_8 0 14 rfl (by decide) (List.mem_cons_of_mem _ mw_125) rfl rfl dX8_keep_58 ?_
          refine v_callS (na := 4) (wy := (Cond.code yX8_copy cX8_copy 5 none :: wsL_law)) (wc := [((ad 2), .inl ((vG X).2 1, 441, .inl (fI (F 2)))), ((ad 5), .inl ((vG X).2 1, 4410, .inl (fI (shF (F 5) 10))))]) (wr := [((ad 0), .inr (8, [vI (F 0 0), .ref (ad 1), vI (F 0 2), vI (F 0 3), vI (F 0 4), vI (F 0 5), vI (F 0 6), vI (F 0 7), vI (F 0 8), vI (F 0 9), .ref (ad 2), .ref (ad 3), .ref (ad 4), .ref (ad 5), vI ((F 0 14) - 1), .ref (ad 6), .ref (ad 7), vI (F 0 17), vI (F 0 18), .ref (ad 8), vI (F 0 20), .ref (ad 9), vI (F 0 22), vI (F 0 23), vI (F 0 24), vI (F 0 25), vI (F 0 26)])), ((ad 1), .inl ((vG X).2 0, 700, .inl (fI (F 1)))), ((ad 3), .inl ((vG X).2 1, 441, .inl (fI (F 3)))), ((ad 4), .inl ((vG X).2 1, 441, .inl (fI (F 4)))), ((ad 6), .inl ((vG X).2 1, 882, .inl (fI (F 6)))), ((ad 7), .inl ((vG X).2 3, 2, .inl (fI (F 7)))), ((ad 8), .inl ((vG X).2 1, 15, .inl (fI (F 8)))), ((ad 9), .inl ((vG X).2 1, 40, .inl (fI (F 9))))]) C [.ref (ad 2), vI 0, .ref (ad 5), vI ((F 0 14) - 1)] [] (c_X8_copy _ _ (ad 2) (ad 5) 441 4410 (F 2) (shF (F 5) 10) 0 ((F 0 14) - 1) (by omega) (by omega) (by decide) (by omega) (by omega) (by decide)) rfl (gwS mw_350 mw_348 mw_349 mw_5) (by decide +kernel) rfl rfl (Sb.pl [2, 5, 0, 1, 3, 4, 6, 7, 8, 9] rfl rfl) rfl rfl dX8_keep_61 (fun r w1 hp61_2 => ?_)
          obtain ⟨rfl, rfl⟩ := hp61_2
          refine V.sb (ws' := (mW (vG X) ad (up (up F 0 (up (F 0) 14 ((F 0 14) - 1))) 5 (cpF (F 2) (shF (F 5) 10) 0 ((F 0 14) - 1) 441)))) (Sb.pl [2, 3, 0, 4, 5, 1, 6, 7, 8, 9] rfl rfl) ?_
          show V X 0 0 64 [(0, .ref (ad 0)), (1, vI 10)] [] ((mW (vG X) ad (up (up F 0 (up (F 0) 14 ((F 0 14) - 1))) 5 (cpF (F 2) (shF (F 5) 10) 0 ((F 0 14) - 1) 441))))
          refine v_aload_n C dX8_keep_64 rfl 0 rfl ?_
          refine v_dup C dX8_keep_65 rfl ?_
          refine v_get (v := vI ((F 0 14) - 1)) C inw_8 0 14 rfl (by decide) (List.mem_cons_of_mem _ mw_125) rfl rfl dX8_keep_66 ?_
          refine v_iconst C dX8_keep_69 ?_
          refine v_iadd C dX8_keep_70 ?_
          refine v_put C inw_8 tyX8 tyX8_ok nmX8 0 14 rfl (by decide) (List.mem_cons_of_mem _ mw_125) rfl rfl rfl rfl (Nat.le_of_ble_eq_true rfl) dX8_keep_71 (ws' := (mW (vG X) ad (up (up F 0 (up (F 0) 14 (((F 0 14) - 1) + 1))) 5 (cpF (F 2) (shF (F 5) 10) 0 ((F 0 14) - 1) 441)))) rfl ?_
          exact v_vret C E rfl dX8_keep_74 (by decide) (by decide) (⟨rfl, by rw [show kpD (F 0 14) = F 0 14 - 1 from if_pos cD, show kpH (F 0 14) (F 5) = shF (F 5) 10 from if_pos cD] <;> rfl⟩)
        · refine v_aload_n C dX8_keep_17 rfl 0 rfl ?_
          refine v_get (v := .ref (ad 5)) C inw_8 0 13 rfl (by decide) (List.mem_cons_of_mem _ mw_108) rfl rfl dX8_keep_18 ?_
          refine v_iload_n C dX8_keep_21 rfl 1 rfl ?_
          refine v_aload_n C dX8_keep_22 rfl 0 rfl ?_
          refine v_get (v := .ref (ad 5)) C inw_8 0 13 rfl (by decide) (List.mem_cons_of_mem _ mw_108) rfl rfl dX8_keep_23 ?_
          refine v_iload_n C dX8_keep_26 rfl 1 rfl ?_
          refine v_iconst C dX8_keep_27 ?_
          refine v_isub C dX8_keep_28 ?_
          refine v_callS (na := 4) (wy := (Cond.code yX8_copy cX8_copy 5 none :: wsL_law)) (wc := [((ad 5), .inl ((vG X).2 1, 4410, .inl (fI (shF (F 5) d))))]) (wr := [((ad 0), .inr (8, [vI (F 0 0), .ref (ad 1), vI (F 0 2), vI (F 0 3), vI (F 0 4), vI (F 0 5), vI (F 0 6), vI (F 0 7), vI (F 0 8), vI (F 0 9), .ref (ad 2), .ref (ad 3), .ref (ad 4), .ref (ad 5), vI (F 0 14), .ref (ad 6), .ref (ad 7), vI (F 0 17), vI (F 0 18), .ref (ad 8), vI (F 0 20), .ref (ad 9), vI (F 0 22), vI (F 0 23), vI (F 0 24), vI (F 0 25), vI (F 0 26)])), ((ad 1), .inl ((vG X).2 0, 700, .inl (fI (F 1)))), ((ad 2), .inl ((vG X).2 1, 441, .inl (fI (F 2)))), ((ad 3), .inl ((vG X).2 1, 441, .inl (fI (F 3)))), ((ad 4), .inl ((vG X).2 1, 441, .inl (fI (F 4)))), ((ad 6), .inl ((vG X).2 1, 882, .inl (fI (F 6)))), ((ad 7), .inl ((vG X).2 3, 2, .inl (fI (F 7)))), ((ad 8), .inl ((vG X).2 1, 15, .inl (fI (F 8)))), ((ad 9), .inl ((vG X).2 1, 40, .inl (fI (F 9))))]) C [.ref (ad 5), vI d, .ref (ad 5), vI (d - 1)] [] (c_X8_copy_s _ _ (ad 5) 4410 (shF (F 5) d) d (d - 1) (by omega) (by decide) (by omega) (by omega)) rfl (gwS mw_350 mw_348 mw_349 mw_5) (by decide +kernel) rfl rfl (Sb.pl [5, 0, 1, 2, 3, 4, 6, 7, 8, 9] rfl rfl) rfl rfl dX8_keep_29 (fun r w1 hp29_3 => ?_)
          obtain ⟨rfl, rfl⟩ := hp29_3
          refine V.sb (ws' := (mW (vG X) ad (up F 5 (cpF (shF (F 5) d) (shF (F 5) d) d (d - 1) 441)))) (Sb.pl [1, 2, 3, 4, 5, 0, 6, 7, 8, 9] rfl rfl) ?_
          show V X 0 0 32 [(0, .ref (ad 0)), (1, vI d)] [] ((mW (vG X) ad (up F 5 (cpF (shF (F 5) d) (shF (F 5) d) d (d - 1) 441))))
          refine v_iinc C M dX8_keep_32 1 rfl (by decide) (z' := (d + 1)) rfl (L' := [(1, vI (d + 1)), (0, .ref (ad 0))]) rfl ?_
          refine v_goto (tgt := 11) C dX8_keep_35 (by decide) ?_
          refine V.loc (L' := [(0, .ref (ad 0)), (1, vI (d + 1))]) [1, 0] rfl ?_
          have key := ih (d + 1) (by omega) (by omega) (by omega)
          rw [← shF_s hd] at key
          exact key
    have key := lp 10 1 (by omega) (by omega) (by omega)
    rw [shF_1] at key
    exact key
end M3
