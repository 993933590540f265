section C12
set_option maxHeartbeats 4000000 in
set_option maxRecDepth 100000 in
theorem c_X3_step (G : GG) (l : Launch) (ad : Nat → Nat) (F : Int → Int → Int) (K : Int → Int → Int64) (a b : Nat) (f pl : Int → Int) (hf : ∀ i, sB 10000000 (F i)) (hT : F 0 1 = 0 ∨ F 0 1 = 1) (hd2 : isDL F → 0 ≤ leL F (nmL F) ∧ leL F (nmL F) ≤ 8) (hnu : isDL F → -1000000 < nmL F ∧ nmL F < 1000000) : Ct G l yX3_step (Cond.code yX3_step cX3_step 3 none :: wsL_law) 3 106 0 0 [.ref (ad 0), .ref a] ((liW G ad F K) ++ (frW G a b (f) (pl))) (fun r w => r = none ∧ ∃ f2 pl2 : Int → Int, w = liW G ad (spL K F) K ++ frW G a b f2 pl2) := by
  refine Ct.of (own := RX3) (cc := cX3_step) (maxL := 3) (ret := none) (by decide) rfl rfl (Nat.le_of_ble_eq_true rfl) (fun X C E M hG hl => ?_)
  subst hG hl
  have hT0 := hT
  have hf8 : ∀ i, sB 100000000 (F i) := fun i => sB_mono (by decide) (hf i)
  have hdl : 0 ≤ dlL F ∧ dlL F ≤ 8 := by
    unfold dlL; split
    · rename_i h; exact hd2 h
    · exact ⟨by decide, by decide⟩
  have hes := escI_in (f := pbL F K) (k := 7 + dlL F) (by omega)
  refine v_aload_n C dX3_step_0 rfl 1 rfl ?_
  refine v_aload_n C dX3_step_1 rfl 0 rfl ?_
  refine v_callV (na := 1) (wy := (Cond.code yX1_fillFrom cX1_fillFrom 6 none :: wsL_law)) (wc := (liW (vG X) ad F K) ++ (frW (vG X) a b (f) (pl))) (wr := []) C [.ref (ad 0)] [] (c_X1_fillFrom _ _ ad F K a b (f) (pl) hf8 hT0 hd2) rfl (gwV mw_113 mw_616 mw_111 mw_112 mw_21) rfl (by decide +kernel) 9 rfl rfl rfl rfl Sb.w rfl rfl dX3_step_2 (fun r w1 hp2_1 => ?_)
  obtain ⟨rfl, p2, s2, rfl, hpl2⟩ := hp2_1
  show V X 0 0 5 [(0, .ref (ad 0)), (1, .ref a)] [] ((liW (vG X) ad F K) ++ (frW (vG X) a b (up (up (up (up (up (f) 3 (bI (isDL F))) 4 (nuL F)) 0 (7 + dlL F)) 1 s2) 2 (escI (pbL F K) (7 + dlL F))) (p2)))
  refine v_aload_n C dX3_step_5 rfl 0 rfl ?_
  refine v_aload_n C dX3_step_6 rfl 0 rfl ?_
  refine v_callV (na := 0) (wy := (Cond.code yX3_framesSent cX3_framesSent 1 (some .int) :: wsL_law)) (wc := (liW (vG X) ad F K)) (wr := (frW (vG X) a b (up (up (up (up (up (f) 3 (bI (isDL F))) 4 (nuL F)) 0 (7 + dlL F)) 1 s2) 2 (escI (pbL F K) (7 + dlL F))) (p2))) C [] [.ref (ad 0)] (c_X3_framesSent _ _ ad F K ) rfl (gwV mw_162 mw_617 mw_160 mw_161 mw_15) rfl (by decide +kernel) 0 rfl rfl rfl rfl Sb.rf rfl rfl dX3_step_7 (fun r w1 hp7_2 => ?_)
  obtain ⟨rfl, rfl⟩ := hp7_2
  show V X 0 0 10 [(0, .ref (ad 0)), (1, .ref a)] [vI (F 5 0), .ref (ad 0)] ((liW (vG X) ad F K) ++ (frW (vG X) a b (up (up (up (up (up (f) 3 (bI (isDL F))) 4 (nuL F)) 0 (7 + dlL F)) 1 s2) 2 (escI (pbL F K) (7 + dlL F))) (p2)))
  refine v_callV (na := 1) (wy := (Cond.code yX3_tells cX3_tells 2 (some .boolean) :: wsL_law)) (wc := (liW (vG X) ad F K)) (wr := (frW (vG X) a b (up (up (up (up (up (f) 3 (bI (isDL F))) 4 (nuL F)) 0 (7 + dlL F)) 1 s2) 2 (escI (pbL F K) (7 + dlL F))) (p2))) C [vI (F 5 0)] [] (c_X3_tells _ _ ad F K (F 5 0) (by have := hf 5 0; first | assumption | exact ⟨by omega, by omega⟩)) rfl (gwV mw_166 mw_556 mw_164 mw_165 mw_15) rfl (by decide +kernel) 0 rfl rfl rfl rfl Sb.rf rfl rfl dX3_step_10 (fun r w1 hp10_3 => ?_)
  obtain ⟨rfl, rfl⟩ := hp10_3
  show V X 0 0 13 [(0, .ref (ad 0)), (1, .ref a)] [vI (bI (tlL (K 2) (F 5 0)))] ((liW (vG X) ad F K) ++ (frW (vG X) a b (up (up (up (up (up (f) 3 (bI (isDL F))) 4 (nuL F)) 0 (7 + dlL F)) 1 s2) 2 (escI (pbL F K) (7 + dlL F))) (p2)))
  suffices mrg : V X 0 0 32 [(0, .ref (ad 0)), (1, .ref a)] [vI (lsL F K)] ((liW (vG X) ad F K) ++ (frW (vG X) a b (up (up (up (up (up (f) 3 (bI (isDL F))) 4 (nuL F)) 0 (7 + dlL F)) 1 s2) 2 (escI (pbL F K) (7 + dlL F))) (p2))) by
    refine v_if_ne (tgt := 27) C dX3_step_13 (by decide) sm_bI (fun c13 => ?_) (fun c13 => ?_)
    · have c13 := bI_n0.mp c13
      refine v_iconst C dX3_step_27 ?_
      refine v_goto (tgt := 32) C dX3_step_28 (by decide) ?_
      exact V.top (show (1 : Int) = lsL F K from (if_pos (Or.inl c13)).symm) mrg
    · have c13 := bI_0.mp c13
      refine v_aload_n C dX3_step_16 rfl 0 rfl ?_
      refine v_callV (na := 0) (wy := (Cond.code yX3_framesSent cX3_framesSent 1 (some .int) :: wsL_law)) (wc := (liW (vG X) ad F K)) (wr := (frW (vG X) a b (up (up (up (up (up (f) 3 (bI (isDL F))) 4 (nuL F)) 0 (7 + dlL F)) 1 s2) 2 (escI (pbL F K) (7 + dlL F))) (p2))) C [] [] (c_X3_framesSent _ _ ad F K ) rfl (gwV mw_162 mw_617 mw_160 mw_161 mw_15) rfl (by decide +kernel) 0 rfl rfl rfl rfl Sb.rf rfl rfl dX3_step_17 (fun r w1 hp17_4 => ?_)
      obtain ⟨rfl, rfl⟩ := hp17_4
      show V X 0 0 20 [(0, .ref (ad 0)), (1, .ref a)] [vI (F 5 0)] ((liW (vG X) ad F K) ++ (frW (vG X) a b (up (up (up (up (up (f) 3 (bI (isDL F))) 4 (nuL F)) 0 (7 + dlL F)) 1 s2) 2 (escI (pbL F K) (7 + dlL F))) (p2)))
      refine v_aload_n C dX3_step_20 rfl 0 rfl ?_
      refine v_get (v := vI (F 0 9)) C inw_3 0 10 rfl (by decide) (List.mem_cons_of_mem _ mw_57) rfl rfl dX3_step_21 ?_
      refine v_icmp_ne (tgt := 31) C dX3_step_24 (by decide) (by have := hf 5 0; first | assumption | exact ⟨by omega, by omega⟩) (by have := hf 0 9; first | assumption | exact ⟨by omega, by omega⟩) (fun c24 => ?_) (fun c24 => ?_)
      · skip
        refine v_iconst C dX3_step_31 ?_
        exact V.top (show (0 : Int) = lsL F K from (if_neg (fun h => h.elim c13 c24)).symm) mrg
      · skip
        refine v_iconst C dX3_step_27 ?_
        refine v_goto (tgt := 32) C dX3_step_28 (by decide) ?_
        exact V.top (show (1 : Int) = lsL F K from (if_pos (Or.inr c24)).symm) mrg
  have hls : lsL F K = 0 ∨ lsL F K = 1 := by unfold lsL; split; exact Or.inr rfl; exact Or.inl rfl
  refine v_istore_n C M dX3_step_32 rfl (by decide) (L' := [(2, vI (lsL F K)), (0, .ref (ad 0)), (1, .ref a)]) rfl ?_
  refine v_aload_n C dX3_step_33 rfl 1 rfl ?_
  refine v_get (v := .ref (ad 7)) C inw_3 0 2 rfl (by decide) (List.mem_cons_of_mem _ mw_52) rfl rfl dX3_step_34 ?_
  refine v_iconst C dX3_step_37 ?_
  refine v_dup2 C dX3_step_38 rfl rfl ?_
  refine v_iald C 7 rfl (by decide) (by decide) (by decide) dX3_step_39 ?_
  refine v_iconst C dX3_step_40 ?_
  refine v_iadd C dX3_step_41 ?_
  refine v_iast C 7 rfl (by decide) (by decide) (by decide) dX3_step_42 (ws' := (liW (vG X) ad (up F 5 (up (F 5) 0 ((F 5 0) + 1))) K) ++ (frW (vG X) a b (up (up (up (up (up (f) 3 (bI (isDL F))) 4 (nuL F)) 0 (7 + dlL F)) 1 s2) 2 (escI (pbL F K) (7 + dlL F))) (p2))) rfl ?_
  refine v_aload_n C dX3_step_43 rfl 1 rfl ?_
  refine v_get (v := .ref (ad 7)) C inw_3 0 2 rfl (by decide) (List.mem_cons_of_mem _ mw_52) rfl rfl dX3_step_44 ?_
  refine v_bipush C dX3_step_47 (by decide +kernel) ?_
  refine v_dup2 C dX3_step_49 rfl rfl ?_
  refine v_iald C 7 rfl (by decide) (by decide) (by decide) dX3_step_50 ?_
  show V X 0 0 51 [(2, vI (lsL F K)), (0, .ref (ad 0)), (1, .ref a)] [vI ((up (F 5) 0 ((F 5 0) + 1)) 6), vI 6, .ref (ad 7)] ((liW (vG X) ad (up F 5 (up (F 5) 0 ((F 5 0) + 1))) K) ++ (frW (vG X) a b (up (up (up (up (up (f) 3 (bI (isDL F))) 4 (nuL F)) 0 (7 + dlL F)) 1 s2) 2 (escI (pbL F K) (7 + dlL F))) (p2)))
  rw [up_n (show (6 : Int) ≠ 0 by decide)]
  refine v_aload_n C dX3_step_51 rfl 2 rfl ?_
  refine v_callV (na := 0) (wy := (Cond.code yX1_bytesOnLine cX1_bytesOnLine 1 (some .int) :: wsL_law)) (wc := (frW (vG X) a b (up (up (up (up (up (f) 3 (bI (isDL F))) 4 (nuL F)) 0 (7 + dlL F)) 1 s2) 2 (escI (pbL F K) (7 + dlL F))) (p2))) (wr := (liW (vG X) ad (up F 5 (up (F 5) 0 ((F 5 0) + 1))) K)) C [] [vI (F 5 6), vI 6, .ref (ad 7)] (c_X1_bytesOnLine _ _ a b (up (up (up (up (up (f) 3 (bI (isDL F))) 4 (nuL F)) 0 (7 + dlL F)) 1 s2) 2 (escI (pbL F K) (7 + dlL F))) (p2)) rfl (gwV mw_158 mw_618 mw_156 mw_157 mw_21) rfl (by decide +kernel) 0 rfl rfl rfl rfl (Sb.pl [9, 10, 0, 1, 2, 3, 4, 5, 6, 7, 8] rfl rfl) rfl rfl dX3_step_52 (fun r w1 hp52_5 => ?_)
  obtain ⟨rfl, rfl⟩ := hp52_5
  refine V.sb (ws' := (liW (vG X) ad (up F 5 (up (F 5) 0 ((F 5 0) + 1))) K) ++ (frW (vG X) a b (up (up (up (up (up (f) 3 (bI (isDL F))) 4 (nuL F)) 0 (7 + dlL F)) 1 s2) 2 (escI (pbL F K) (7 + dlL F))) (p2))) (Sb.pl [2, 3, 4, 5, 6, 7, 8, 9, 10, 0, 1] rfl rfl) ?_
  show V X 0 0 55 [(2, vI (lsL F K)), (0, .ref (ad 0)), (1, .ref a)] [vI ((2 + (7 + dlL F)) + (escI (pbL F K) (7 + dlL F))), vI (F 5 6), vI 6, .ref (ad 7)] ((liW (vG X) ad (up F 5 (up (F 5) 0 ((F 5 0) + 1))) K) ++ (frW (vG X) a b (up (up (up (up (up (f) 3 (bI (isDL F))) 4 (nuL F)) 0 (7 + dlL F)) 1 s2) 2 (escI (pbL F K) (7 + dlL F))) (p2)))
  refine v_iadd C dX3_step_55 ?_
  refine v_iast C 7 rfl (by decide) (by decide) (by decide) dX3_step_56 (ws' := (liW (vG X) ad (up F 5 (up (up (F 5) 0 ((F 5 0) + 1)) 6 ((F 5 6) + ((2 + (7 + dlL F)) + (escI (pbL F K) (7 + dlL F)))))) K) ++ (frW (vG X) a b (up (up (up (up (up (f) 3 (bI (isDL F))) 4 (nuL F)) 0 (7 + dlL F)) 1 s2) 2 (escI (pbL F K) (7 + dlL F))) (p2))) rfl ?_
  refine v_aload_n C dX3_step_57 rfl 1 rfl ?_
  refine v_get (v := .ref (ad 7)) C inw_3 0 2 rfl (by decide) (List.mem_cons_of_mem _ mw_52) rfl rfl dX3_step_58 ?_
  refine v_bipush C dX3_step_61 (by decide +kernel) ?_
  refine v_dup2 C dX3_step_63 rfl rfl ?_
  refine v_iald C 7 rfl (by decide) (by decide) (by decide) dX3_step_64 ?_
  show V X 0 0 65 [(2, vI (lsL F K)), (0, .ref (ad 0)), (1, .ref a)] [vI ((up (up (F 5) 0 ((F 5 0) + 1)) 6 ((F 5 6) + ((2 + (7 + dlL F)) + (escI (pbL F K) (7 + dlL F))))) 7), vI 7, .ref (ad 7)] ((liW (vG X) ad (up F 5 (up (up (F 5) 0 ((F 5 0) + 1)) 6 ((F 5 6) + ((2 + (7 + dlL F)) + (escI (pbL F K) (7 + dlL F)))))) K) ++ (frW (vG X) a b (up (up (up (up (up (f) 3 (bI (isDL F))) 4 (nuL F)) 0 (7 + dlL F)) 1 s2) 2 (escI (pbL F K) (7 + dlL F))) (p2)))
  rw [up_n (show (7 : Int) ≠ 6 by decide), up_n (show (7 : Int) ≠ 0 by decide)]
  refine v_aload_n C dX3_step_65 rfl 2 rfl ?_
  refine v_getN (v := vI (escI (pbL F K) (7 + dlL F))) C inw_1 9 3 rfl (by decide) nw_31 rfl rfl dX3_step_66 ?_
  refine v_iadd C dX3_step_69 ?_
  refine v_iast C 7 rfl (by decide) (by decide) (by decide) dX3_step_70 (ws' := (liW (vG X) ad (up F 5 (up (up (up (F 5) 0 ((F 5 0) + 1)) 6 ((F 5 6) + ((2 + (7 + dlL F)) + (escI (pbL F K) (7 + dlL F))))) 7 ((F 5 7) + (escI (pbL F K) (7 + dlL F))))) K) ++ (frW (vG X) a b (up (up (up (up (up (f) 3 (bI (isDL F))) 4 (nuL F)) 0 (7 + dlL F)) 1 s2) 2 (escI (pbL F K) (7 + dlL F))) (p2))) rfl ?_
  refine v_iload_n C dX3_step_71 rfl 0 rfl ?_
  refine v_if_eq (tgt := 85) C dX3_step_72 (by decide) (by  first | assumption | exact ⟨by omega, by omega⟩) (fun c72 => ?_) (fun c72 => ?_)
  · skip
    refine v_aload_n C dX3_step_85 rfl 2 rfl ?_
    refine v_getN (v := vI (bI (isDL F))) C inw_1 9 4 rfl (by decide) nw_33 rfl rfl dX3_step_86 ?_
    refine v_if_eq (tgt := 104) C dX3_step_89 (by decide) sm_bI (fun c89 => ?_) (fun c89 => ?_)
    · have c89 := bI_0.mp c89
      refine v_aload_n C dX3_step_104 rfl 1 rfl ?_
      refine v_iload_n C dX3_step_105 rfl 0 rfl ?_
      refine v_callV (na := 1) (wy := (Cond.code yX3_sendTurn cX3_sendTurn 4 none :: wsL_law)) (wc := (liW (vG X) ad (up F 5 (up (up (up (F 5) 0 ((F 5 0) + 1)) 6 ((F 5 6) + ((2 + (7 + dlL F)) + (escI (pbL F K) (7 + dlL F))))) 7 ((F 5 7) + (escI (pbL F K) (7 + dlL F))))) K)) (wr := (frW (vG X) a b (up (up (up (up (up (f) 3 (bI (isDL F))) 4 (nuL F)) 0 (7 + dlL F)) 1 s2) 2 (escI (pbL F K) (7 + dlL F))) (p2))) C [vI (lsL F K)] [] (c_X3_sendTurn _ _ ad (up F 5 (up (up (up (F 5) 0 ((F 5 0) + 1)) 6 ((F 5 6) + ((2 + (7 + dlL F)) + (escI (pbL F K) (7 + dlL F))))) 7 ((F 5 7) + (escI (pbL F K) (7 + dlL F))))) K (lsL F K) (sBF_up hf8 (sB_up (sB_up (sB_up (hf8 5) (by have := hf 5 0; exact ⟨by omega, by omega⟩)) (by have := hf 5 6; exact ⟨by omega, by omega⟩)) (by have := hf 5 7; exact ⟨by omega, by omega⟩))) (show (up F 5 (up (up (up (F 5) 0 ((F 5 0) + 1)) 6 ((F 5 6) + ((2 + (7 + dlL F)) + (escI (pbL F K) (7 + dlL F))))) 7 ((F 5 7) + (escI (pbL F K) (7 + dlL F))))) 0 1 = 0 ∨ (up F 5 (up (up (up (F 5) 0 ((F 5 0) + 1)) 6 ((F 5 6) + ((2 + (7 + dlL F)) + (escI (pbL F K) (7 + dlL F))))) 7 ((F 5 7) + (escI (pbL F K) (7 + dlL F))))) 0 1 = 1 from hT) (by omega)) rfl (gwV mw_632 mw_629 mw_630 mw_631 mw_15) rfl (by decide +kernel) 0 rfl rfl rfl rfl Sb.rf rfl rfl dX3_step_106 (fun r w1 hp106_6 => ?_)
      obtain ⟨rfl, rfl⟩ := hp106_6
      show V X 0 0 109 [(2, vI (lsL F K)), (0, .ref (ad 0)), (1, .ref a)] [] ((liW (vG X) ad (stLn (lsL F K) (up F 5 (up (up (up (F 5) 0 ((F 5 0) + 1)) 6 ((F 5 6) + ((2 + (7 + dlL F)) + (escI (pbL F K) (7 + dlL F))))) 7 ((F 5 7) + (escI (pbL F K) (7 + dlL F)))))) K) ++ (frW (vG X) a b (up (up (up (up (up (f) 3 (bI (isDL F))) 4 (nuL F)) 0 (7 + dlL F)) 1 s2) 2 (escI (pbL F K) (7 + dlL F))) (p2)))
      exact v_vret C E rfl dX3_step_109 (by decide) (by decide) (⟨rfl, _, _, by rw [show spL K F = (stLn (lsL F K) (up F 5 (up (up (up (F 5) 0 ((F 5 0) + 1)) 6 ((F 5 6) + ((2 + (7 + dlL F)) + (escI (pbL F K) (7 + dlL F))))) 7 ((F 5 7) + (escI (pbL F K) (7 + dlL F)))))) from ((if_pos c72).trans (if_neg c89))]⟩)
    · have c89 := bI_n0.mp c89
      refine v_aload_n C dX3_step_92 rfl 1 rfl ?_
      refine v_aload_n C dX3_step_93 rfl 2 rfl ?_
      refine v_getN (v := vI (nuL F)) C inw_1 9 5 rfl (by decide) nw_35 rfl rfl dX3_step_94 ?_
      refine v_iload_n C dX3_step_97 rfl 0 rfl ?_
      refine v_callV (na := 2) (wy := (Cond.code yX3_sendData cX3_sendData 5 none :: wsL_law)) (wc := (liW (vG X) ad (up F 5 (up (up (up (F 5) 0 ((F 5 0) + 1)) 6 ((F 5 6) + ((2 + (7 + dlL F)) + (escI (pbL F K) (7 + dlL F))))) 7 ((F 5 7) + (escI (pbL F K) (7 + dlL F))))) K)) (wr := (frW (vG X) a b (up (up (up (up (up (f) 3 (bI (isDL F))) 4 (nuL F)) 0 (7 + dlL F)) 1 s2) 2 (escI (pbL F K) (7 + dlL F))) (p2))) C [vI (nuL F), vI (lsL F K)] [] (c_X3_sendData _ _ ad (up F 5 (up (up (up (F 5) 0 ((F 5 0) + 1)) 6 ((F 5 6) + ((2 + (7 + dlL F)) + (escI (pbL F K) (7 + dlL F))))) 7 ((F 5 7) + (escI (pbL F K) (7 + dlL F))))) K (nuL F) (lsL F K) (sBF_up hf8 (sB_up (sB_up (sB_up (hf8 5) (by have := hf 5 0; exact ⟨by omega, by omega⟩)) (by have := hf 5 6; exact ⟨by omega, by omega⟩)) (by have := hf 5 7; exact ⟨by omega, by omega⟩))) (show (up F 5 (up (up (up (F 5) 0 ((F 5 0) + 1)) 6 ((F 5 6) + ((2 + (7 + dlL F)) + (escI (pbL F K) (7 + dlL F))))) 7 ((F 5 7) + (escI (pbL F K) (7 + dlL F))))) 0 1 = 0 ∨ (up F 5 (up (up (up (F 5) 0 ((F 5 0) + 1)) 6 ((F 5 6) + ((2 + (7 + dlL F)) + (escI (pbL F K) (7 + dlL F))))) 7 ((F 5 7) + (escI (pbL F K) (7 + dlL F))))) 0 1 = 1 from hT) (by rw [show nuL F = nmL F from if_pos c89]; exact hnu c89) (by omega)) rfl (gwV mw_622 mw_619 mw_620 mw_621 mw_15) rfl (by decide +kernel) 0 rfl rfl rfl rfl Sb.rf rfl rfl dX3_step_98 (fun r w1 hp98_7 => ?_)
      obtain ⟨rfl, rfl⟩ := hp98_7
      show V X 0 0 101 [(2, vI (lsL F K)), (0, .ref (ad 0)), (1, .ref a)] [] ((liW (vG X) ad (sdL (nuL F) (lsL F K) (up F 5 (up (up (up (F 5) 0 ((F 5 0) + 1)) 6 ((F 5 6) + ((2 + (7 + dlL F)) + (escI (pbL F K) (7 + dlL F))))) 7 ((F 5 7) + (escI (pbL F K) (7 + dlL F)))))) K) ++ (frW (vG X) a b (up (up (up (up (up (f) 3 (bI (isDL F))) 4 (nuL F)) 0 (7 + dlL F)) 1 s2) 2 (escI (pbL F K) (7 + dlL F))) (p2)))
      refine v_goto (tgt := 109) C dX3_step_101 (by decide) ?_
      exact v_vret C E rfl dX3_step_109 (by decide) (by decide) (⟨rfl, _, _, by rw [show spL K F = (sdL (nuL F) (lsL F K) (up F 5 (up (up (up (F 5) 0 ((F 5 0) + 1)) 6 ((F 5 6) + ((2 + (7 + dlL F)) + (escI (pbL F K) (7 + dlL F))))) 7 ((F 5 7) + (escI (pbL F K) (7 + dlL F)))))) from ((if_pos c72).trans (if_pos c89))]⟩)
  · skip
    refine v_aload_n C dX3_step_75 rfl 1 rfl ?_
    refine v_get (v := .ref (ad 7)) C inw_3 0 2 rfl (by decide) (List.mem_cons_of_mem _ mw_52) rfl rfl dX3_step_76 ?_
    refine v_iconst C dX3_step_79 ?_
    refine v_dup2 C dX3_step_80 rfl rfl ?_
    refine v_iald C 7 rfl (by decide) (by decide) (by decide) dX3_step_81 ?_
    show V X 0 0 82 [(2, vI (lsL F K)), (0, .ref (ad 0)), (1, .ref a)] [vI ((up (up (up (F 5) 0 ((F 5 0) + 1)) 6 ((F 5 6) + ((2 + (7 + dlL F)) + (escI (pbL F K) (7 + dlL F))))) 7 ((F 5 7) + (escI (pbL F K) (7 + dlL F)))) 1), vI 1, .ref (ad 7)] ((liW (vG X) ad (up F 5 (up (up (up (F 5) 0 ((F 5 0) + 1)) 6 ((F 5 6) + ((2 + (7 + dlL F)) + (escI (pbL F K) (7 + dlL F))))) 7 ((F 5 7) + (escI (pbL F K) (7 + dlL F))))) K) ++ (frW (vG X) a b (up (up (up (up (up (f) 3 (bI (isDL F))) 4 (nuL F)) 0 (7 + dlL F)) 1 s2) 2 (escI (pbL F K) (7 + dlL F))) (p2)))
    rw [up_n (show (1 : Int) ≠ 7 by decide), up_n (show (1 : Int) ≠ 6 by decide), up_n (show (1 : Int) ≠ 0 by decide)]
    refine v_iconst C dX3_step_82 ?_
    refine v_iadd C dX3_step_83 ?_
    refine v_iast C 7 rfl (by decide) (by decide) (by decide) dX3_step_84 (ws' := (liW (vG X) ad (up F 5 (up (up (up (up (F 5) 0 ((F 5 0) + 1)) 6 ((F 5 6) + ((2 + (7 + dlL F)) + (escI (pbL F K) (7 + dlL F))))) 7 ((F 5 7) + (escI (pbL F K) (7 + dlL F)))) 1 ((F 5 1) + 1))) K) ++ (frW (vG X) a b (up (up (up (up (up (f) 3 (bI (isDL F))) 4 (nuL F)) 0 (7 + dlL F)) 1 s2) 2 (escI (pbL F K) (7 + dlL F))) (p2))) rfl ?_
    refine v_aload_n C dX3_step_85 rfl 2 rfl ?_
    refine v_getN (v := vI (bI (isDL F))) C inw_1 9 4 rfl (by decide) nw_33 rfl rfl dX3_step_86 ?_
    refine v_if_eq (tgt := 104) C dX3_step_89 (by decide) sm_bI (fun c89 => ?_) (fun c89 => ?_)
    · have c89 := bI_0.mp c89
      refine v_aload_n C dX3_step_104 rfl 1 rfl ?_
      refine v_iload_n C dX3_step_105 rfl 0 rfl ?_
      refine v_callV (na := 1) (wy := (Cond.code yX3_sendTurn cX3_sendTurn 4 none :: wsL_law)) (wc := (liW (vG X) ad (up F 5 (up (up (up (up (F 5) 0 ((F 5 0) + 1)) 6 ((F 5 6) + ((2 + (7 + dlL F)) + (escI (pbL F K) (7 + dlL F))))) 7 ((F 5 7) + (escI (pbL F K) (7 + dlL F)))) 1 ((F 5 1) + 1))) K)) (wr := (frW (vG X) a b (up (up (up (up (up (f) 3 (bI (isDL F))) 4 (nuL F)) 0 (7 + dlL F)) 1 s2) 2 (escI (pbL F K) (7 + dlL F))) (p2))) C [vI (lsL F K)] [] (c_X3_sendTurn _ _ ad (up F 5 (up (up (up (up (F 5) 0 ((F 5 0) + 1)) 6 ((F 5 6) + ((2 + (7 + dlL F)) + (escI (pbL F K) (7 + dlL F))))) 7 ((F 5 7) + (escI (pbL F K) (7 + dlL F)))) 1 ((F 5 1) + 1))) K (lsL F K) (sBF_up hf8 (sB_up (sB_up (sB_up (sB_up (hf8 5) (by have := hf 5 0; exact ⟨by omega, by omega⟩)) (by have := hf 5 6; exact ⟨by omega, by omega⟩)) (by have := hf 5 7; exact ⟨by omega, by omega⟩)) (by have := hf 5 1; exact ⟨by omega, by omega⟩))) (show (up F 5 (up (up (up (up (F 5) 0 ((F 5 0) + 1)) 6 ((F 5 6) + ((2 + (7 + dlL F)) + (escI (pbL F K) (7 + dlL F))))) 7 ((F 5 7) + (escI (pbL F K) (7 + dlL F)))) 1 ((F 5 1) + 1))) 0 1 = 0 ∨ (up F 5 (up (up (up (up (F 5) 0 ((F 5 0) + 1)) 6 ((F 5 6) + ((2 + (7 + dlL F)) + (escI (pbL F K) (7 + dlL F))))) 7 ((F 5 7) + (escI (pbL F K) (7 + dlL F)))) 1 ((F 5 1) + 1))) 0 1 = 1 from hT) (by omega)) rfl (gwV mw_632 mw_629 mw_630 mw_631 mw_15) rfl (by decide +kernel) 0 rfl rfl rfl rfl Sb.rf rfl rfl dX3_step_106 (fun r w1 hp106_8 => ?_)
      obtain ⟨rfl, rfl⟩ := hp106_8
      show V X 0 0 109 [(2, vI (lsL F K)), (0, .ref (ad 0)), (1, .ref a)] [] ((liW (vG X) ad (stLn (lsL F K) (up F 5 (up (up (up (up (F 5) 0 ((F 5 0) + 1)) 6 ((F 5 6) + ((2 + (7 + dlL F)) + (escI (pbL F K) (7 + dlL F))))) 7 ((F 5 7) + (escI (pbL F K) (7 + dlL F)))) 1 ((F 5 1) + 1)))) K) ++ (frW (vG X) a b (up (up (up (up (up (f) 3 (bI (isDL F))) 4 (nuL F)) 0 (7 + dlL F)) 1 s2) 2 (escI (pbL F K) (7 + dlL F))) (p2)))
      exact v_vret C E rfl dX3_step_109 (by decide) (by decide) (⟨rfl, _, _, by rw [show spL K F = (stLn (lsL F K) (up F 5 (up (up (up (up (F 5) 0 ((F 5 0) + 1)) 6 ((F 5 6) + ((2 + (7 + dlL F)) + (escI (pbL F K) (7 + dlL F))))) 7 ((F 5 7) + (escI (pbL F K) (7 + dlL F)))) 1 ((F 5 1) + 1)))) from ((if_neg c72).trans (if_neg c89))]⟩)
    · have c89 := bI_n0.mp c89
      refine v_aload_n C dX3_step_92 rfl 1 rfl ?_
      refine v_aload_n C dX3_step_93 rfl 2 rfl ?_
      refine v_getN (v := vI (nuL F)) C inw_1 9 5 rfl (by decide) nw_35 rfl rfl dX3_step_94 ?_
      refine v_iload_n C dX3_step_97 rfl 0 rfl ?_
      refine v_callV (na := 2) (wy := (Cond.code yX3_sendData cX3_sendData 5 none :: wsL_law)) (wc := (liW (vG X) ad (up F 5 (up (up (up (up (F 5) 0 ((F 5 0) + 1)) 6 ((F 5 6) + ((2 + (7 + dlL F)) + (escI (pbL F K) (7 + dlL F))))) 7 ((F 5 7) + (escI (pbL F K) (7 + dlL F)))) 1 ((F 5 1) + 1))) K)) (wr := (frW (vG X) a b (up (up (up (up (up (f) 3 (bI (isDL F))) 4 (nuL F)) 0 (7 + dlL F)) 1 s2) 2 (escI (pbL F K) (7 + dlL F))) (p2))) C [vI (nuL F), vI (lsL F K)] [] (c_X3_sendData _ _ ad (up F 5 (up (up (up (up (F 5) 0 ((F 5 0) + 1)) 6 ((F 5 6) + ((2 + (7 + dlL F)) + (escI (pbL F K) (7 + dlL F))))) 7 ((F 5 7) + (escI (pbL F K) (7 + dlL F)))) 1 ((F 5 1) + 1))) K (nuL F) (lsL F K) (sBF_up hf8 (sB_up (sB_up (sB_up (sB_up (hf8 5) (by have := hf 5 0; exact ⟨by omega, by omega⟩)) (by have := hf 5 6; exact ⟨by omega, by omega⟩)) (by have := hf 5 7; exact ⟨by omega, by omega⟩)) (by have := hf 5 1; exact ⟨by omega, by omega⟩))) (show (up F 5 (up (up (up (up (F 5) 0 ((F 5 0) + 1)) 6 ((F 5 6) + ((2 + (7 + dlL F)) + (escI (pbL F K) (7 + dlL F))))) 7 ((F 5 7) + (escI (pbL F K) (7 + dlL F)))) 1 ((F 5 1) + 1))) 0 1 = 0 ∨ (up F 5 (up (up (up (up (F 5) 0 ((F 5 0) + 1)) 6 ((F 5 6) + ((2 + (7 + dlL F)) + (escI (pbL F K) (7 + dlL F))))) 7 ((F 5 7) + (escI (pbL F K) (7 + dlL F)))) 1 ((F 5 1) + 1))) 0 1 = 1 from hT) (by rw [show nuL F = nmL F from if_pos c89]; exact hnu c89) (by omega)) rfl (gwV mw_622 mw_619 mw_620 mw_621 mw_15) rfl (by decide +kernel) 0 rfl rfl rfl rfl Sb.rf rfl rfl dX3_step_98 (fun r w1 hp98_9 => ?_)
      obtain ⟨rfl, rfl⟩ := hp98_9
      show V X 0 0 101 [(2, vI (lsL F K)), (0, .ref (ad 0)), (1, .ref a)] [] ((liW (vG X) ad (sdL (nuL F) (lsL F K) (up F 5 (up (up (up (up (F 5) 0 ((F 5 0) + 1)) 6 ((F 5 6) + ((2 + (7 + dlL F)) + (escI (pbL F K) (7 + dlL F))))) 7 ((F 5 7) + (escI (pbL F K) (7 + dlL F)))) 1 ((F 5 1) + 1)))) K) ++ (frW (vG X) a b (up (up (up (up (up (f) 3 (bI (isDL F))) 4 (nuL F)) 0 (7 + dlL F)) 1 s2) 2 (escI (pbL F K) (7 + dlL F))) (p2)))
      refine v_goto (tgt := 109) C dX3_step_101 (by decide) ?_
      exact v_vret C E rfl dX3_step_109 (by decide) (by decide) (⟨rfl, _, _, by rw [show spL K F = (sdL (nuL F) (lsL F K) (up F 5 (up (up (up (up (F 5) 0 ((F 5 0) + 1)) 6 ((F 5 6) + ((2 + (7 + dlL F)) + (escI (pbL F K) (7 + dlL F))))) 7 ((F 5 7) + (escI (pbL F K) (7 + dlL F)))) 1 ((F 5 1) + 1)))) from ((if_neg c72).trans (if_pos c89))]⟩)
end C12
