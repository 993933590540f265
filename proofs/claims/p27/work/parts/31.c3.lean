section C3
set_option maxHeartbeats 4000000 in
set_option maxRecDepth 100000 in
theorem c_X3_sendData (G : GG) (l : Launch) (ad : Nat → Nat) (F : Int → Int → Int) (K : Int → Int → Int64) (m z : Int) (hf : ∀ i, sB 100000000 (F i)) (hT : F 0 1 = 0 ∨ F 0 1 = 1) (hm : -1000000 < m ∧ m < 1000000) (hz : z = 0 ∨ z = 1) : Ct G l yX3_sendData (Cond.code yX3_sendData cX3_sendData 5 none :: wsL_law) 2 42 0 0 [.ref (ad 0), vI m, vI z] ((liW G ad F K)) (fun r w => r = none ∧ w = liW G ad (sdL m z F) K) := by
  refine Ct.of (own := RX3) (cc := cX3_sendData) (maxL := 5) (ret := none) (by decide) rfl rfl (Nat.le_of_ble_eq_true rfl) (fun X C E M hG hl => ?_)
  subst hG hl
  have hT0 := hT
  rcases hT with hT | hT
  · skip
    refine v_aload_n C dX3_sendData_0 rfl 0 rfl ?_
    refine v_aload_n C dX3_sendData_1 rfl 0 rfl ?_
    refine v_get (v := vI (F 0 1)) C inw_3 0 7 rfl (by decide) (List.mem_cons_of_mem _ mw_189) rfl rfl dX3_sendData_2 ?_
    refine v_callV (na := 1) (wy := (Cond.code yX3_side cX3_side 2 (some (.object "TurnLine$Station")) :: wsL_law)) (wc := (liW (vG X) ad F K)) (wr := []) C [vI (F 0 1)] [] (c_X3_side _ _ ad F K (F 0 1) (by have := hf 0 1; first | assumption | exact ⟨by omega, by omega⟩)) rfl (gwV mw_122 mw_623 mw_120 mw_121 mw_15) rfl (by decide +kernel) 0 rfl rfl rfl rfl Sb.w rfl rfl dX3_sendData_5 (fun r w1 hp5_1 => ?_)
    obtain ⟨rfl, rfl⟩ := hp5_1
    show V X 0 0 8 [(0, .ref (ad 0)), (1, vI m), (2, vI z)] [.ref (if (F 0 1) = 0 then (ad 1) else (ad 4))] ((liW (vG X) ad F K))
    rw [if_pos (show (F 0 1) = 0 by omega)]
    refine v_astore_n C M dX3_sendData_8 rfl (by decide) (L' := [(3, .ref (ad 1)), (0, .ref (ad 0)), (1, vI m), (2, vI z)]) rfl ?_
    refine v_aload_n C dX3_sendData_9 rfl 1 rfl ?_
    refine v_iconst C dX3_sendData_10 ?_
    refine v_aload_n C dX3_sendData_11 rfl 1 rfl ?_
    refine v_get (v := vI (F 0 1)) C inw_3 0 7 rfl (by decide) (List.mem_cons_of_mem _ mw_189) rfl rfl dX3_sendData_12 ?_
    refine v_isub C dX3_sendData_15 ?_
    refine v_callV (na := 1) (wy := (Cond.code yX3_side cX3_side 2 (some (.object "TurnLine$Station")) :: wsL_law)) (wc := (liW (vG X) ad F K)) (wr := []) C [vI (1 - (F 0 1))] [] (c_X3_side _ _ ad F K (1 - (F 0 1)) (by have := hf 0 1; first | assumption | exact ⟨by omega, by omega⟩)) rfl (gwV mw_122 mw_623 mw_120 mw_121 mw_15) rfl (by decide +kernel) 0 rfl rfl rfl rfl Sb.w rfl rfl dX3_sendData_16 (fun r w1 hp16_2 => ?_)
    obtain ⟨rfl, rfl⟩ := hp16_2
    show V X 0 0 19 [(3, .ref (ad 1)), (0, .ref (ad 0)), (1, vI m), (2, vI z)] [.ref (if (1 - (F 0 1)) = 0 then (ad 1) else (ad 4))] ((liW (vG X) ad F K))
    rw [if_neg (show ¬ (1 - (F 0 1)) = 0 by omega)]
    refine v_astore C M dX3_sendData_19 (by decide) (L' := [(4, .ref (ad 4)), (3, .ref (ad 1)), (0, .ref (ad 0)), (1, vI m), (2, vI z)]) rfl ?_
    refine v_aload_n C dX3_sendData_21 rfl 2 rfl ?_
    refine v_get (v := .ref (ad 7)) C inw_3 0 2 rfl (by decide) (List.mem_cons_of_mem _ mw_52) rfl rfl dX3_sendData_22 ?_
    refine v_iconst C dX3_sendData_25 ?_
    refine v_dup2 C dX3_sendData_26 rfl rfl ?_
    refine v_iald C 7 rfl (by decide) (by decide) (by decide) dX3_sendData_27 ?_
    refine v_iconst C dX3_sendData_28 ?_
    refine v_iadd C dX3_sendData_29 ?_
    refine v_iast C 7 rfl (by decide) (by decide) (by decide) dX3_sendData_30 (ws' := (liW (vG X) ad (up F 5 (up (F 5) 2 ((F 5 2) + 1))) K)) rfl ?_
    refine v_aload_n C dX3_sendData_31 rfl 2 rfl ?_
    refine v_dup C dX3_sendData_32 rfl ?_
    refine v_get (v := vI (F 0 2)) C inw_3 0 8 rfl (by decide) (List.mem_cons_of_mem _ mw_127) rfl rfl dX3_sendData_33 ?_
    refine v_iconst C dX3_sendData_36 ?_
    refine v_iadd C dX3_sendData_37 ?_
    refine v_put C inw_3 tyX3 tyX3_ok nmX3 0 8 rfl (by decide) (List.mem_cons_of_mem _ mw_127) rfl rfl rfl rfl (Nat.le_of_ble_eq_true rfl) dX3_sendData_38 (ws' := (liW (vG X) ad (up (up F 0 (up (F 0) 2 ((F 0 2) + 1))) 5 (up (F 5) 2 ((F 5 2) + 1))) K)) rfl ?_
    refine v_iload_n C dX3_sendData_41 rfl 3 rfl ?_
    refine v_aload_n C dX3_sendData_42 rfl 1 rfl ?_
    refine v_getN (v := vI (F 1 8)) C inw_5 1 11 rfl (by decide) nw_14 rfl rfl dX3_sendData_43 ?_
    refine v_icmp_ge (tgt := 62) C dX3_sendData_46 (by decide) (by  first | assumption | exact ⟨by omega, by omega⟩) (by have := hf 1 8; first | assumption | exact ⟨by omega, by omega⟩) (fun c46 => ?_) (fun c46 => ?_)
    · skip
      refine v_aload_n C dX3_sendData_62 rfl 1 rfl ?_
      refine v_iload_n C dX3_sendData_63 rfl 3 rfl ?_
      refine v_iconst C dX3_sendData_64 ?_
      refine v_iadd C dX3_sendData_65 ?_
      refine v_putN C inw_5 tyX5 tyX5_ok nmX5 1 11 rfl (by decide) nw_14 rfl rfl rfl rfl (Nat.le_of_ble_eq_true rfl) dX3_sendData_66 (ws' := (liW (vG X) ad (up (up (up F 0 (up (F 0) 2 ((F 0 2) + 1))) 1 (up (F 1) 8 (m + 1))) 5 (up (F 5) 2 ((F 5 2) + 1))) K)) rfl ?_
      refine v_iload_n C dX3_sendData_69 rfl 4 rfl ?_
      refine v_if_eq (tgt := 74) C dX3_sendData_70 (by decide) (by  first | assumption | exact ⟨by omega, by omega⟩) (fun c70 => ?_) (fun c70 => ?_)
      · skip
        refine v_aload C dX3_sendData_74 0 rfl ?_
        refine v_aload_n C dX3_sendData_76 rfl 1 rfl ?_
        refine v_callV (na := 1) (wy := (Cond.code yX5_noteHeadOf cX5_noteHeadOf 3 none :: wsL_law)) (wc := (stW (vG X) (ad 4) (ad 5) (ad 6) (F 2) (F 4) (K 1)) ++ (stW (vG X) (ad 1) (ad 2) (ad 3) (up (F 1) 8 (m + 1)) (F 3) (K 0))) (wr := [((ad 0), .inr (3, [.ref (ad 1), .ref (ad 4), .ref (ad 7), .ref (ad 8), vI (F 0 7), vI (F 0 4), vI (F 0 5), vI (F 0 1), vI ((F 0 2) + 1), vI (F 0 6), vI (F 0 9)])), ((ad 7), .inl ((vG X).2 1, 10, .inl (fI (up (F 5) 2 ((F 5 2) + 1))))), ((ad 8), .inl ((vG X).2 2, 32, .inr (.inl (fL (K 2)))))]) C [.ref (ad 1)] [] (c_X5_noteHeadOf _ _ (ad 4) (ad 5) (ad 6) (F 2) (F 4) (K 1) (ad 1) (ad 2) (ad 3) (up (F 1) 8 (m + 1)) (F 3) (K 0) (sB_mono (by decide) (hf 2)) (sB_up (sB_mono (by decide) (hf 1)) (by exact ⟨by omega, by omega⟩))) rfl (gwV mw_627 mw_624 mw_625 mw_626 mw_48) rfl (by decide +kernel) 0 rfl rfl rfl rfl (Sb.pl [4, 5, 6, 1, 2, 3, 0, 7, 8] rfl rfl) rfl rfl dX3_sendData_77 (fun r w1 hp77_3 => ?_)
        obtain ⟨rfl, rfl⟩ := hp77_3
        have hnh77 : sB 1000000000 (nhF (F 2) (up (F 1) 8 (m + 1))) := nhF_B (sB_mono (by decide) (hf 2)) (sB_up (sB_mono (by decide) (hf 1)) (by exact ⟨by omega, by omega⟩))
        refine V.sb (ws' := (liW (vG X) ad (up (up (up (up F 0 (up (F 0) 2 ((F 0 2) + 1))) 1 (up (F 1) 8 (m + 1))) 2 (nhF (F 2) (up (F 1) 8 (m + 1)))) 5 (up (F 5) 2 ((F 5 2) + 1))) K)) (Sb.pl [6, 3, 4, 5, 0, 1, 2, 7, 8] rfl rfl) ?_
        show V X 0 0 80 [(4, .ref (ad 4)), (3, .ref (ad 1)), (0, .ref (ad 0)), (1, vI m), (2, vI z)] [] ((liW (vG X) ad (up (up (up (up F 0 (up (F 0) 2 ((F 0 2) + 1))) 1 (up (F 1) 8 (m + 1))) 2 (nhF (F 2) (up (F 1) 8 (m + 1)))) 5 (up (F 5) 2 ((F 5 2) + 1))) K))
        refine v_iload_n C dX3_sendData_80 rfl 3 rfl ?_
        refine v_aload C dX3_sendData_81 0 rfl ?_
        refine v_getN (v := vI ((nhF (F 2) (up (F 1) 8 (m + 1))) 1)) C inw_5 4 3 rfl (by decide) nw_4 rfl rfl dX3_sendData_83 ?_
        refine v_icmp_ne (tgt := 103) C dX3_sendData_86 (by decide) (by  first | assumption | exact ⟨by omega, by omega⟩) (by have := hnh77 1; first | assumption | exact ⟨by omega, by omega⟩) (fun c86 => ?_) (fun c86 => ?_)
        · skip
          refine v_aload_n C dX3_sendData_103 rfl 2 rfl ?_
          refine v_get (v := .ref (ad 7)) C inw_3 0 2 rfl (by decide) (List.mem_cons_of_mem _ mw_52) rfl rfl dX3_sendData_104 ?_
          refine v_bipush C dX3_sendData_107 (by decide +kernel) ?_
          refine v_dup2 C dX3_sendData_109 rfl rfl ?_
          refine v_iald C 7 rfl (by decide) (by decide) (by decide) dX3_sendData_110 ?_
          show V X 0 0 111 [(4, .ref (ad 4)), (3, .ref (ad 1)), (0, .ref (ad 0)), (1, vI m), (2, vI z)] [vI ((up (F 5) 2 ((F 5 2) + 1)) 9), vI 9, .ref (ad 7)] ((liW (vG X) ad (up (up (up (up F 0 (up (F 0) 2 ((F 0 2) + 1))) 1 (up (F 1) 8 (m + 1))) 2 (nhF (F 2) (up (F 1) 8 (m + 1)))) 5 (up (F 5) 2 ((F 5 2) + 1))) K))
          rw [up_n (show (9 : Int) ≠ 2 by decide)]
          refine v_iconst C dX3_sendData_111 ?_
          refine v_iadd C dX3_sendData_112 ?_
          refine v_iast C 7 rfl (by decide) (by decide) (by decide) dX3_sendData_113 (ws' := (liW (vG X) ad (up (up (up (up F 0 (up (F 0) 2 ((F 0 2) + 1))) 1 (up (F 1) 8 (m + 1))) 2 (nhF (F 2) (up (F 1) 8 (m + 1)))) 5 (up (up (F 5) 2 ((F 5 2) + 1)) 9 ((F 5 9) + 1))) K)) rfl ?_
          exact v_vret C E rfl dX3_sendData_114 (by decide) (by decide) (⟨rfl, by rw [show (sdL m z F) = (up (up (up (up F 0 (up (F 0) 2 ((F 0 2) + 1))) 1 (up (F 1) 8 (m + 1))) 2 (nhF (F 2) (up (F 1) 8 (m + 1)))) 5 (up (up (F 5) 2 ((F 5 2) + 1)) 9 ((F 5 9) + 1))) from ((if_pos hT).trans ((if_pos c46).trans ((if_pos c70).trans (if_neg c86))))]⟩)
        · skip
          refine v_aload C dX3_sendData_89 0 rfl ?_
          refine v_dup C dX3_sendData_91 rfl ?_
          refine v_getN (v := vI ((nhF (F 2) (up (F 1) 8 (m + 1))) 1)) C inw_5 4 3 rfl (by decide) nw_4 rfl rfl dX3_sendData_92 ?_
          refine v_iconst C dX3_sendData_95 ?_
          refine v_iadd C dX3_sendData_96 ?_
          refine v_putN C inw_5 tyX5 tyX5_ok nmX5 4 3 rfl (by decide) nw_4 rfl rfl rfl rfl (Nat.le_of_ble_eq_true rfl) dX3_sendData_97 (ws' := (liW (vG X) ad (up (up (up (up F 0 (up (F 0) 2 ((F 0 2) + 1))) 1 (up (F 1) 8 (m + 1))) 2 (up (nhF (F 2) (up (F 1) 8 (m + 1))) 1 (((nhF (F 2) (up (F 1) 8 (m + 1))) 1) + 1))) 5 (up (F 5) 2 ((F 5 2) + 1))) K)) rfl ?_
          refine v_goto (tgt := 114) C dX3_sendData_100 (by decide) ?_
          exact v_vret C E rfl dX3_sendData_114 (by decide) (by decide) (⟨rfl, by rw [show (sdL m z F) = (up (up (up (up F 0 (up (F 0) 2 ((F 0 2) + 1))) 1 (up (F 1) 8 (m + 1))) 2 (up (nhF (F 2) (up (F 1) 8 (m + 1))) 1 (((nhF (F 2) (up (F 1) 8 (m + 1))) 1) + 1))) 5 (up (F 5) 2 ((F 5 2) + 1))) from ((if_pos hT).trans ((if_pos c46).trans ((if_pos c70).trans (if_pos c86))))]⟩)
      · skip
        exact v_vret C E rfl dX3_sendData_73 (by decide) (by decide) (⟨rfl, by rw [show (sdL m z F) = (up (up (up F 0 (up (F 0) 2 ((F 0 2) + 1))) 1 (up (F 1) 8 (m + 1))) 5 (up (F 5) 2 ((F 5 2) + 1))) from ((if_pos hT).trans ((if_pos c46).trans (if_neg c70)))]⟩)
    · skip
      refine v_aload_n C dX3_sendData_49 rfl 2 rfl ?_
      refine v_get (v := .ref (ad 7)) C inw_3 0 2 rfl (by decide) (List.mem_cons_of_mem _ mw_52) rfl rfl dX3_sendData_50 ?_
      refine v_iconst C dX3_sendData_53 ?_
      refine v_dup2 C dX3_sendData_54 rfl rfl ?_
      refine v_iald C 7 rfl (by decide) (by decide) (by decide) dX3_sendData_55 ?_
      show V X 0 0 56 [(4, .ref (ad 4)), (3, .ref (ad 1)), (0, .ref (ad 0)), (1, vI m), (2, vI z)] [vI ((up (F 5) 2 ((F 5 2) + 1)) 3), vI 3, .ref (ad 7)] ((liW (vG X) ad (up (up F 0 (up (F 0) 2 ((F 0 2) + 1))) 5 (up (F 5) 2 ((F 5 2) + 1))) K))
      rw [up_n (show (3 : Int) ≠ 2 by decide)]
      refine v_iconst C dX3_sendData_56 ?_
      refine v_iadd C dX3_sendData_57 ?_
      refine v_iast C 7 rfl (by decide) (by decide) (by decide) dX3_sendData_58 (ws' := (liW (vG X) ad (up (up F 0 (up (F 0) 2 ((F 0 2) + 1))) 5 (up (up (F 5) 2 ((F 5 2) + 1)) 3 ((F 5 3) + 1))) K)) rfl ?_
      refine v_goto (tgt := 69) C dX3_sendData_59 (by decide) ?_
      refine v_iload_n C dX3_sendData_69 rfl 4 rfl ?_
      refine v_if_eq (tgt := 74) C dX3_sendData_70 (by decide) (by  first | assumption | exact ⟨by omega, by omega⟩) (fun c70 => ?_) (fun c70 => ?_)
      · skip
        refine v_aload C dX3_sendData_74 0 rfl ?_
        refine v_aload_n C dX3_sendData_76 rfl 1 rfl ?_
        refine v_callV (na := 1) (wy := (Cond.code yX5_noteHeadOf cX5_noteHeadOf 3 none :: wsL_law)) (wc := (stW (vG X) (ad 4) (ad 5) (ad 6) (F 2) (F 4) (K 1)) ++ (stW (vG X) (ad 1) (ad 2) (ad 3) (F 1) (F 3) (K 0))) (wr := [((ad 0), .inr (3, [.ref (ad 1), .ref (ad 4), .ref (ad 7), .ref (ad 8), vI (F 0 7), vI (F 0 4), vI (F 0 5), vI (F 0 1), vI ((F 0 2) + 1), vI (F 0 6), vI (F 0 9)])), ((ad 7), .inl ((vG X).2 1, 10, .inl (fI (up (up (F 5) 2 ((F 5 2) + 1)) 3 ((F 5 3) + 1))))), ((ad 8), .inl ((vG X).2 2, 32, .inr (.inl (fL (K 2)))))]) C [.ref (ad 1)] [] (c_X5_noteHeadOf _ _ (ad 4) (ad 5) (ad 6) (F 2) (F 4) (K 1) (ad 1) (ad 2) (ad 3) (F 1) (F 3) (K 0) (sB_mono (by decide) (hf 2)) (sB_mono (by decide) (hf 1))) rfl (gwV mw_627 mw_624 mw_625 mw_626 mw_48) rfl (by decide +kernel) 0 rfl rfl rfl rfl (Sb.pl [4, 5, 6, 1, 2, 3, 0, 7, 8] rfl rfl) rfl rfl dX3_sendData_77 (fun r w1 hp77_4 => ?_)
        obtain ⟨rfl, rfl⟩ := hp77_4
        have hnh77 : sB 1000000000 (nhF (F 2) (F 1)) := nhF_B (sB_mono (by decide) (hf 2)) (sB_mono (by decide) (hf 1))
        refine V.sb (ws' := (liW (vG X) ad (up (up (up F 0 (up (F 0) 2 ((F 0 2) + 1))) 2 (nhF (F 2) (F 1))) 5 (up (up (F 5) 2 ((F 5 2) + 1)) 3 ((F 5 3) + 1))) K)) (Sb.pl [6, 3, 4, 5, 0, 1, 2, 7, 8] rfl rfl) ?_
        show V X 0 0 80 [(4, .ref (ad 4)), (3, .ref (ad 1)), (0, .ref (ad 0)), (1, vI m), (2, vI z)] [] ((liW (vG X) ad (up (up (up F 0 (up (F 0) 2 ((F 0 2) + 1))) 2 (nhF (F 2) (F 1))) 5 (up (up (F 5) 2 ((F 5 2) + 1)) 3 ((F 5 3) + 1))) K))
        refine v_iload_n C dX3_sendData_80 rfl 3 rfl ?_
        refine v_aload C dX3_sendData_81 0 rfl ?_
        refine v_getN (v := vI ((nhF (F 2) (F 1)) 1)) C inw_5 4 3 rfl (by decide) nw_4 rfl rfl dX3_sendData_83 ?_
        refine v_icmp_ne (tgt := 103) C dX3_sendData_86 (by decide) (by  first | assumption | exact ⟨by omega, by omega⟩) (by have := hnh77 1; first | assumption | exact ⟨by omega, by omega⟩) (fun c86 => ?_) (fun c86 => ?_)
        · skip
          refine v_aload_n C dX3_sendData_103 rfl 2 rfl ?_
          refine v_get (v := .ref (ad 7)) C inw_3 0 2 rfl (by decide) (List.mem_cons_of_mem _ mw_52) rfl rfl dX3_sendData_104 ?_
          refine v_bipush C dX3_sendData_107 (by decide +kernel) ?_
          refine v_dup2 C dX3_sendData_109 rfl rfl ?_
          refine v_iald C 7 rfl (by decide) (by decide) (by decide) dX3_sendData_110 ?_
          show V X 0 0 111 [(4, .ref (ad 4)), (3, .ref (ad 1)), (0, .ref (ad 0)), (1, vI m), (2, vI z)] [vI ((up (up (F 5) 2 ((F 5 2) + 1)) 3 ((F 5 3) + 1)) 9), vI 9, .ref (ad 7)] ((liW (vG X) ad (up (up (up F 0 (up (F 0) 2 ((F 0 2) + 1))) 2 (nhF (F 2) (F 1))) 5 (up (up (F 5) 2 ((F 5 2) + 1)) 3 ((F 5 3) + 1))) K))
          rw [up_n (show (9 : Int) ≠ 3 by decide), up_n (show (9 : Int) ≠ 2 by decide)]
          refine v_iconst C dX3_sendData_111 ?_
          refine v_iadd C dX3_sendData_112 ?_
          refine v_iast C 7 rfl (by decide) (by decide) (by decide) dX3_sendData_113 (ws' := (liW (vG X) ad (up (up (up F 0 (up (F 0) 2 ((F 0 2) + 1))) 2 (nhF (F 2) (F 1))) 5 (up (up (up (F 5) 2 ((F 5 2) + 1)) 3 ((F 5 3) + 1)) 9 ((F 5 9) + 1))) K)) rfl ?_
          exact v_vret C E rfl dX3_sendData_114 (by decide) (by decide) (⟨rfl, by rw [show (sdL m z F) = (up (up (up F 0 (up (F 0) 2 ((F 0 2) + 1))) 2 (nhF (F 2) (F 1))) 5 (up (up (up (F 5) 2 ((F 5 2) + 1)) 3 ((F 5 3) + 1)) 9 ((F 5 9) + 1))) from ((if_pos hT).trans ((if_neg c46).trans ((if_pos c70).trans (if_neg c86))))]⟩)
        · skip
          refine v_aload C dX3_sendData_89 0 rfl ?_
          refine v_dup C dX3_sendData_91 rfl ?_
          refine v_getN (v := vI ((nhF (F 2) (F 1)) 1)) C inw_5 4 3 rfl (by decide) nw_4 rfl rfl dX3_sendData_92 ?_
          refine v_iconst C dX3_sendData_95 ?_
          refine v_iadd C dX3_sendData_96 ?_
          refine v_putN C inw_5 tyX5 tyX5_ok nmX5 4 3 rfl (by decide) nw_4 rfl rfl rfl rfl (Nat.le_of_ble_eq_true rfl) dX3_sendData_97 (ws' := (liW (vG X) ad (up (up (up F 0 (up (F 0) 2 ((F 0 2) + 1))) 2 (up (nhF (F 2) (F 1)) 1 (((nhF (F 2) (F 1)) 1) + 1))) 5 (up (up (F 5) 2 ((F 5 2) + 1)) 3 ((F 5 3) + 1))) K)) rfl ?_
          refine v_goto (tgt := 114) C dX3_sendData_100 (by decide) ?_
          exact v_vret C E rfl dX3_sendData_114 (by decide) (by decide) (⟨rfl, by rw [show (sdL m z F) = (up (up (up F 0 (up (F 0) 2 ((F 0 2) + 1))) 2 (up (nhF (F 2) (F 1)) 1 (((nhF (F 2) (F 1)) 1) + 1))) 5 (up (up (F 5) 2 ((F 5 2) + 1)) 3 ((F 5 3) + 1))) from ((if_pos hT).trans ((if_neg c46).trans ((if_pos c70).trans (if_pos c86))))]⟩)
      · skip
        exact v_vret C E rfl dX3_sendData_73 (by decide) (by decide) (⟨rfl, by rw [show (sdL m z F) = (up (up F 0 (up (F 0) 2 ((F 0 2) + 1))) 5 (up (up (F 5) 2 ((F 5 2) + 1)) 3 ((F 5 3) + 1))) from ((if_pos hT).trans ((if_neg c46).trans (if_neg c70)))]⟩)
  · skip
    refine v_aload_n C dX3_sendData_0 rfl 0 rfl ?_
    refine v_aload_n C dX3_sendData_1 rfl 0 rfl ?_
    refine v_get (v := vI (F 0 1)) C inw_3 0 7 rfl (by decide) (List.mem_cons_of_mem _ mw_189) rfl rfl dX3_sendData_2 ?_
    refine v_callV (na := 1) (wy := (Cond.code yX3_side cX3_side 2 (some (.object "TurnLine$Station")) :: wsL_law)) (wc := (liW (vG X) ad F K)) (wr := []) C [vI (F 0 1)] [] (c_X3_side _ _ ad F K (F 0 1) (by have := hf 0 1; first | assumption | exact ⟨by omega, by omega⟩)) rfl (gwV mw_122 mw_623 mw_120 mw_121 mw_15) rfl (by decide +kernel) 0 rfl rfl rfl rfl Sb.w rfl rfl dX3_sendData_5 (fun r w1 hp5_5 => ?_)
    obtain ⟨rfl, rfl⟩ := hp5_5
    show V X 0 0 8 [(0, .ref (ad 0)), (1, vI m), (2, vI z)] [.ref (if (F 0 1) = 0 then (ad 1) else (ad 4))] ((liW (vG X) ad F K))
    rw [if_neg (show ¬ (F 0 1) = 0 by omega)]
    refine v_astore_n C M dX3_sendData_8 rfl (by decide) (L' := [(3, .ref (ad 4)), (0, .ref (ad 0)), (1, vI m), (2, vI z)]) rfl ?_
    refine v_aload_n C dX3_sendData_9 rfl 1 rfl ?_
    refine v_iconst C dX3_sendData_10 ?_
    refine v_aload_n C dX3_sendData_11 rfl 1 rfl ?_
    refine v_get (v := vI (F 0 1)) C inw_3 0 7 rfl (by decide) (List.mem_cons_of_mem _ mw_189) rfl rfl dX3_sendData_12 ?_
    refine v_isub C dX3_sendData_15 ?_
    refine v_callV (na := 1) (wy := (Cond.code yX3_side cX3_side 2 (some (.object "TurnLine$Station")) :: wsL_law)) (wc := (liW (vG X) ad F K)) (wr := []) C [vI (1 - (F 0 1))] [] (c_X3_side _ _ ad F K (1 - (F 0 1)) (by have := hf 0 1; first | assumption | exact ⟨by omega, by omega⟩)) rfl (gwV mw_122 mw_623 mw_120 mw_121 mw_15) rfl (by decide +kernel) 0 rfl rfl rfl rfl Sb.w rfl rfl dX3_sendData_16 (fun r w1 hp16_6 => ?_)
    obtain ⟨rfl, rfl⟩ := hp16_6
    show V X 0 0 19 [(3, .ref (ad 4)), (0, .ref (ad 0)), (1, vI m), (2, vI z)] [.ref (if (1 - (F 0 1)) = 0 then (ad 1) else (ad 4))] ((liW (vG X) ad F K))
    rw [if_pos (show (1 - (F 0 1)) = 0 by omega)]
    refine v_astore C M dX3_sendData_19 (by decide) (L' := [(4, .ref (ad 1)), (3, .ref (ad 4)), (0, .ref (ad 0)), (1, vI m), (2, vI z)]) rfl ?_
    refine v_aload_n C dX3_sendData_21 rfl 2 rfl ?_
    refine v_get (v := .ref (ad 7)) C inw_3 0 2 rfl (by decide) (List.mem_cons_of_mem _ mw_52) rfl rfl dX3_sendData_22 ?_
    refine v_iconst C dX3_sendData_25 ?_
    refine v_dup2 C dX3_sendData_26 rfl rfl ?_
    refine v_iald C 7 rfl (by decide) (by decide) (by decide) dX3_sendData_27 ?_
    refine v_iconst C dX3_sendData_28 ?_
    refine v_iadd C dX3_sendData_29 ?_
    refine v_iast C 7 rfl (by decide) (by decide) (by decide) dX3_sendData_30 (ws' := (liW (vG X) ad (up F 5 (up (F 5) 2 ((F 5 2) + 1))) K)) rfl ?_
    refine v_aload_n C dX3_sendData_31 rfl 2 rfl ?_
    refine v_dup C dX3_sendData_32 rfl ?_
    refine v_get (v := vI (F 0 2)) C inw_3 0 8 rfl (by decide) (List.mem_cons_of_mem _ mw_127) rfl rfl dX3_sendData_33 ?_
    refine v_iconst C dX3_sendData_36 ?_
    refine v_iadd C dX3_sendData_37 ?_
    refine v_put C inw_3 tyX3 tyX3_ok nmX3 0 8 rfl (by decide) (List.mem_cons_of_mem _ mw_127) rfl rfl rfl rfl (Nat.le_of_ble_eq_true rfl) dX3_sendData_38 (ws' := (liW (vG X) ad (up (up F 0 (up (F 0) 2 ((F 0 2) + 1))) 5 (up (F 5) 2 ((F 5 2) + 1))) K)) rfl ?_
    refine v_iload_n C dX3_sendData_41 rfl 3 rfl ?_
    refine v_aload_n C dX3_sendData_42 rfl 1 rfl ?_
    refine v_getN (v := vI (F 2 8)) C inw_5 4 11 rfl (by decide) nw_14 rfl rfl dX3_sendData_43 ?_
    refine v_icmp_ge (tgt := 62) C dX3_sendData_46 (by decide) (by  first | assumption | exact ⟨by omega, by omega⟩) (by have := hf 2 8; first | assumption | exact ⟨by omega, by omega⟩) (fun c46 => ?_) (fun c46 => ?_)
    · skip
      refine v_aload_n C dX3_sendData_62 rfl 1 rfl ?_
      refine v_iload_n C dX3_sendData_63 rfl 3 rfl ?_
      refine v_iconst C dX3_sendData_64 ?_
      refine v_iadd C dX3_sendData_65 ?_
      refine v_putN C inw_5 tyX5 tyX5_ok nmX5 4 11 rfl (by decide) nw_14 rfl rfl rfl rfl (Nat.le_of_ble_eq_true rfl) dX3_sendData_66 (ws' := (liW (vG X) ad (up (up (up F 0 (up (F 0) 2 ((F 0 2) + 1))) 2 (up (F 2) 8 (m + 1))) 5 (up (F 5) 2 ((F 5 2) + 1))) K)) rfl ?_
      refine v_iload_n C dX3_sendData_69 rfl 4 rfl ?_
      refine v_if_eq (tgt := 74) C dX3_sendData_70 (by decide) (by  first | assumption | exact ⟨by omega, by omega⟩) (fun c70 => ?_) (fun c70 => ?_)
      · skip
        refine v_aload C dX3_sendData_74 0 rfl ?_
        refine v_aload_n C dX3_sendData_76 rfl 1 rfl ?_
        refine v_callV (na := 1) (wy := (Cond.code yX5_noteHeadOf cX5_noteHeadOf 3 none :: wsL_law)) (wc := (stW (vG X) (ad 1) (ad 2) (ad 3) (F 1) (F 3) (K 0)) ++ (stW (vG X) (ad 4) (ad 5) (ad 6) (up (F 2) 8 (m + 1)) (F 4) (K 1))) (wr := [((ad 0), .inr (3, [.ref (ad 1), .ref (ad 4), .ref (ad 7), .ref (ad 8), vI (F 0 7), vI (F 0 4), vI (F 0 5), vI (F 0 1), vI ((F 0 2) + 1), vI (F 0 6), vI (F 0 9)])), ((ad 7), .inl ((vG X).2 1, 10, .inl (fI (up (F 5) 2 ((F 5 2) + 1))))), ((ad 8), .inl ((vG X).2 2, 32, .inr (.inl (fL (K 2)))))]) C [.ref (ad 4)] [] (c_X5_noteHeadOf _ _ (ad 1) (ad 2) (ad 3) (F 1) (F 3) (K 0) (ad 4) (ad 5) (ad 6) (up (F 2) 8 (m + 1)) (F 4) (K 1) (sB_mono (by decide) (hf 1)) (sB_up (sB_mono (by decide) (hf 2)) (by exact ⟨by omega, by omega⟩))) rfl (gwV mw_627 mw_624 mw_625 mw_626 mw_48) rfl (by decide +kernel) 0 rfl rfl rfl rfl (Sb.pl [1, 2, 3, 4, 5, 6, 0, 7, 8] rfl rfl) rfl rfl dX3_sendData_77 (fun r w1 hp77_7 => ?_)
        obtain ⟨rfl, rfl⟩ := hp77_7
        have hnh77 : sB 1000000000 (nhF (F 1) (up (F 2) 8 (m + 1))) := nhF_B (sB_mono (by decide) (hf 1)) (sB_up (sB_mono (by decide) (hf 2)) (by exact ⟨by omega, by omega⟩))
        refine V.sb (ws' := (liW (vG X) ad (up (up (up (up F 0 (up (F 0) 2 ((F 0 2) + 1))) 1 (nhF (F 1) (up (F 2) 8 (m + 1)))) 2 (up (F 2) 8 (m + 1))) 5 (up (F 5) 2 ((F 5 2) + 1))) K)) (Sb.pl [6, 0, 1, 2, 3, 4, 5, 7, 8] rfl rfl) ?_
        show V X 0 0 80 [(4, .ref (ad 1)), (3, .ref (ad 4)), (0, .ref (ad 0)), (1, vI m), (2, vI z)] [] ((liW (vG X) ad (up (up (up (up F 0 (up (F 0) 2 ((F 0 2) + 1))) 1 (nhF (F 1) (up (F 2) 8 (m + 1)))) 2 (up (F 2) 8 (m + 1))) 5 (up (F 5) 2 ((F 5 2) + 1))) K))
        refine v_iload_n C dX3_sendData_80 rfl 3 rfl ?_
        refine v_aload C dX3_sendData_81 0 rfl ?_
        refine v_getN (v := vI ((nhF (F 1) (up (F 2) 8 (m + 1))) 1)) C inw_5 1 3 rfl (by decide) nw_4 rfl rfl dX3_sendData_83 ?_
        refine v_icmp_ne (tgt := 103) C dX3_sendData_86 (by decide) (by  first | assumption | exact ⟨by omega, by omega⟩) (by have := hnh77 1; first | assumption | exact ⟨by omega, by omega⟩) (fun c86 => ?_) (fun c86 => ?_)
        · skip
          refine v_aload_n C dX3_sendData_103 rfl 2 rfl ?_
          refine v_get (v := .ref (ad 7)) C inw_3 0 2 rfl (by decide) (List.mem_cons_of_mem _ mw_52) rfl rfl dX3_sendData_104 ?_
          refine v_bipush C dX3_sendData_107 (by decide +kernel) ?_
          refine v_dup2 C dX3_sendData_109 rfl rfl ?_
          refine v_iald C 7 rfl (by decide) (by decide) (by decide) dX3_sendData_110 ?_
          show V X 0 0 111 [(4, .ref (ad 1)), (3, .ref (ad 4)), (0, .ref (ad 0)), (1, vI m), (2, vI z)] [vI ((up (F 5) 2 ((F 5 2) + 1)) 9), vI 9, .ref (ad 7)] ((liW (vG X) ad (up (up (up (up F 0 (up (F 0) 2 ((F 0 2) + 1))) 1 (nhF (F 1) (up (F 2) 8 (m + 1)))) 2 (up (F 2) 8 (m + 1))) 5 (up (F 5) 2 ((F 5 2) + 1))) K))
          rw [up_n (show (9 : Int) ≠ 2 by decide)]
          refine v_iconst C dX3_sendData_111 ?_
          refine v_iadd C dX3_sendData_112 ?_
          refine v_iast C 7 rfl (by decide) (by decide) (by decide) dX3_sendData_113 (ws' := (liW (vG X) ad (up (up (up (up F 0 (up (F 0) 2 ((F 0 2) + 1))) 1 (nhF (F 1) (up (F 2) 8 (m + 1)))) 2 (up (F 2) 8 (m + 1))) 5 (up (up (F 5) 2 ((F 5 2) + 1)) 9 ((F 5 9) + 1))) K)) rfl ?_
          exact v_vret C E rfl dX3_sendData_114 (by decide) (by decide) (⟨rfl, by rw [show (sdL m z F) = (up (up (up (up F 0 (up (F 0) 2 ((F 0 2) + 1))) 1 (nhF (F 1) (up (F 2) 8 (m + 1)))) 2 (up (F 2) 8 (m + 1))) 5 (up (up (F 5) 2 ((F 5 2) + 1)) 9 ((F 5 9) + 1))) from ((if_neg (by omega)).trans ((if_pos c46).trans ((if_pos c70).trans (if_neg c86))))]⟩)
        · skip
          refine v_aload C dX3_sendData_89 0 rfl ?_
          refine v_dup C dX3_sendData_91 rfl ?_
          refine v_getN (v := vI ((nhF (F 1) (up (F 2) 8 (m + 1))) 1)) C inw_5 1 3 rfl (by decide) nw_4 rfl rfl dX3_sendData_92 ?_
          refine v_iconst C dX3_sendData_95 ?_
          refine v_iadd C dX3_sendData_96 ?_
          refine v_putN C inw_5 tyX5 tyX5_ok nmX5 1 3 rfl (by decide) nw_4 rfl rfl rfl rfl (Nat.le_of_ble_eq_true rfl) dX3_sendData_97 (ws' := (liW (vG X) ad (up (up (up (up F 0 (up (F 0) 2 ((F 0 2) + 1))) 1 (up (nhF (F 1) (up (F 2) 8 (m + 1))) 1 (((nhF (F 1) (up (F 2) 8 (m + 1))) 1) + 1))) 2 (up (F 2) 8 (m + 1))) 5 (up (F 5) 2 ((F 5 2) + 1))) K)) rfl ?_
          refine v_goto (tgt := 114) C dX3_sendData_100 (by decide) ?_
          exact v_vret C E rfl dX3_sendData_114 (by decide) (by decide) (⟨rfl, by rw [show (sdL m z F) = (up (up (up (up F 0 (up (F 0) 2 ((F 0 2) + 1))) 1 (up (nhF (F 1) (up (F 2) 8 (m + 1))) 1 (((nhF (F 1) (up (F 2) 8 (m + 1))) 1) + 1))) 2 (up (F 2) 8 (m + 1))) 5 (up (F 5) 2 ((F 5 2) + 1))) from ((if_neg (by omega)).trans ((if_pos c46).trans ((if_pos c70).trans (if_pos c86))))]⟩)
      · skip
        exact v_vret C E rfl dX3_sendData_73 (by decide) (by decide) (⟨rfl, by rw [show (sdL m z F) = (up (up (up F 0 (up (F 0) 2 ((F 0 2) + 1))) 2 (up (F 2) 8 (m + 1))) 5 (up (F 5) 2 ((F 5 2) + 1))) from ((if_neg (by omega)).trans ((if_pos c46).trans (if_neg c70)))]⟩)
    · skip
      refine v_aload_n C dX3_sendData_49 rfl 2 rfl ?_
      refine v_get (v := .ref (ad 7)) C inw_3 0 2 rfl (by decide) (List.mem_cons_of_mem _ mw_52) rfl rfl dX3_sendData_50 ?_
      refine v_iconst C dX3_sendData_53 ?_
      refine v_dup2 C dX3_sendData_54 rfl rfl ?_
      refine v_iald C 7 rfl (by decide) (by decide) (by decide) dX3_sendData_55 ?_
      show V X 0 0 56 [(4, .ref (ad 1)), (3, .ref (ad 4)), (0, .ref (ad 0)), (1, vI m), (2, vI z)] [vI ((up (F 5) 2 ((F 5 2) + 1)) 3), vI 3, .ref (ad 7)] ((liW (vG X) ad (up (up F 0 (up (F 0) 2 ((F 0 2) + 1))) 5 (up (F 5) 2 ((F 5 2) + 1))) K))
      rw [up_n (show (3 : Int) ≠ 2 by decide)]
      refine v_iconst C dX3_sendData_56 ?_
      refine v_iadd C dX3_sendData_57 ?_
      refine v_iast C 7 rfl (by decide) (by decide) (by decide) dX3_sendData_58 (ws' := (liW (vG X) ad (up (up F 0 (up (F 0) 2 ((F 0 2) + 1))) 5 (up (up (F 5) 2 ((F 5 2) + 1)) 3 ((F 5 3) + 1))) K)) rfl ?_
      refine v_goto (tgt := 69) C dX3_sendData_59 (by decide) ?_
      refine v_iload_n C dX3_sendData_69 rfl 4 rfl ?_
      refine v_if_eq (tgt := 74) C dX3_sendData_70 (by decide) (by  first | assumption | exact ⟨by omega, by omega⟩) (fun c70 => ?_) (fun c70 => ?_)
      · skip
        refine v_aload C dX3_sendData_74 0 rfl ?_
        refine v_aload_n C dX3_sendData_76 rfl 1 rfl ?_
        refine v_callV (na := 1) (wy := (Cond.code yX5_noteHeadOf cX5_noteHeadOf 3 none :: wsL_law)) (wc := (stW (vG X) (ad 1) (ad 2) (ad 3) (F 1) (F 3) (K 0)) ++ (stW (vG X) (ad 4) (ad 5) (ad 6) (F 2) (F 4) (K 1))) (wr := [((ad 0), .inr (3, [.ref (ad 1), .ref (ad 4), .ref (ad 7), .ref (ad 8), vI (F 0 7), vI (F 0 4), vI (F 0 5), vI (F 0 1), vI ((F 0 2) + 1), vI (F 0 6), vI (F 0 9)])), ((ad 7), .inl ((vG X).2 1, 10, .inl (fI (up (up (F 5) 2 ((F 5 2) + 1)) 3 ((F 5 3) + 1))))), ((ad 8), .inl ((vG X).2 2, 32, .inr (.inl (fL (K 2)))))]) C [.ref (ad 4)] [] (c_X5_noteHeadOf _ _ (ad 1) (ad 2) (ad 3) (F 1) (F 3) (K 0) (ad 4) (ad 5) (ad 6) (F 2) (F 4) (K 1) (sB_mono (by decide) (hf 1)) (sB_mono (by decide) (hf 2))) rfl (gwV mw_627 mw_624 mw_625 mw_626 mw_48) rfl (by decide +kernel) 0 rfl rfl rfl rfl (Sb.pl [1, 2, 3, 4, 5, 6, 0, 7, 8] rfl rfl) rfl rfl dX3_sendData_77 (fun r w1 hp77_8 => ?_)
        obtain ⟨rfl, rfl⟩ := hp77_8
        have hnh77 : sB 1000000000 (nhF (F 1) (F 2)) := nhF_B (sB_mono (by decide) (hf 1)) (sB_mono (by decide) (hf 2))
        refine V.sb (ws' := (liW (vG X) ad (up (up (up F 0 (up (F 0) 2 ((F 0 2) + 1))) 1 (nhF (F 1) (F 2))) 5 (up (up (F 5) 2 ((F 5 2) + 1)) 3 ((F 5 3) + 1))) K)) (Sb.pl [6, 0, 1, 2, 3, 4, 5, 7, 8] rfl rfl) ?_
        show V X 0 0 80 [(4, .ref (ad 1)), (3, .ref (ad 4)), (0, .ref (ad 0)), (1, vI m), (2, vI z)] [] ((liW (vG X) ad (up (up (up F 0 (up (F 0) 2 ((F 0 2) + 1))) 1 (nhF (F 1) (F 2))) 5 (up (up (F 5) 2 ((F 5 2) + 1)) 3 ((F 5 3) + 1))) K))
        refine v_iload_n C dX3_sendData_80 rfl 3 rfl ?_
        refine v_aload C dX3_sendData_81 0 rfl ?_
        refine v_getN (v := vI ((nhF (F 1) (F 2)) 1)) C inw_5 1 3 rfl (by decide) nw_4 rfl rfl dX3_sendData_83 ?_
        refine v_icmp_ne (tgt := 103) C dX3_sendData_86 (by decide) (by  first | assumption | exact ⟨by omega, by omega⟩) (by have := hnh77 1; first | assumption | exact ⟨by omega, by omega⟩) (fun c86 => ?_) (fun c86 => ?_)
        · skip
          refine v_aload_n C dX3_sendData_103 rfl 2 rfl ?_
          refine v_get (v := .ref (ad 7)) C inw_3 0 2 rfl (by decide) (List.mem_cons_of_mem _ mw_52) rfl rfl dX3_sendData_104 ?_
          refine v_bipush C dX3_sendData_107 (by decide +kernel) ?_
          refine v_dup2 C dX3_sendData_109 rfl rfl ?_
          refine v_iald C 7 rfl (by decide) (by decide) (by decide) dX3_sendData_110 ?_
          show V X 0 0 111 [(4, .ref (ad 1)), (3, .ref (ad 4)), (0, .ref (ad 0)), (1, vI m), (2, vI z)] [vI ((up (up (F 5) 2 ((F 5 2) + 1)) 3 ((F 5 3) + 1)) 9), vI 9, .ref (ad 7)] ((liW (vG X) ad (up (up (up F 0 (up (F 0) 2 ((F 0 2) + 1))) 1 (nhF (F 1) (F 2))) 5 (up (up (F 5) 2 ((F 5 2) + 1)) 3 ((F 5 3) + 1))) K))
          rw [up_n (show (9 : Int) ≠ 3 by decide), up_n (show (9 : Int) ≠ 2 by decide)]
          refine v_iconst C dX3_sendData_111 ?_
          refine v_iadd C dX3_sendData_112 ?_
          refine v_iast C 7 rfl (by decide) (by decide) (by decide) dX3_sendData_113 (ws' := (liW (vG X) ad (up (up (up F 0 (up (F 0) 2 ((F 0 2) + 1))) 1 (nhF (F 1) (F 2))) 5 (up (up (up (F 5) 2 ((F 5 2) + 1)) 3 ((F 5 3) + 1)) 9 ((F 5 9) + 1))) K)) rfl ?_
          exact v_vret C E rfl dX3_sendData_114 (by decide) (by decide) (⟨rfl, by rw [show (sdL m z F) = (up (up (up F 0 (up (F 0) 2 ((F 0 2) + 1))) 1 (nhF (F 1) (F 2))) 5 (up (up (up (F 5) 2 ((F 5 2) + 1)) 3 ((F 5 3) + 1)) 9 ((F 5 9) + 1))) from ((if_neg (by omega)).trans ((if_neg c46).trans ((if_pos c70).trans (if_neg c86))))]⟩)
        · skip
          refine v_aload C dX3_sendData_89 0 rfl ?_
          refine v_dup C dX3_sendData_91 rfl ?_
          refine v_getN (v := vI ((nhF (F 1) (F 2)) 1)) C inw_5 1 3 rfl (by decide) nw_4 rfl rfl dX3_sendData_92 ?_
          refine v_iconst C dX3_sendData_95 ?_
          refine v_iadd C dX3_sendData_96 ?_
          refine v_putN C inw_5 tyX5 tyX5_ok nmX5 1 3 rfl (by decide) nw_4 rfl rfl rfl rfl (Nat.le_of_ble_eq_true rfl) dX3_sendData_97 (ws' := (liW (vG X) ad (up (up (up F 0 (up (F 0) 2 ((F 0 2) + 1))) 1 (up (nhF (F 1) (F 2)) 1 (((nhF (F 1) (F 2)) 1) + 1))) 5 (up (up (F 5) 2 ((F 5 2) + 1)) 3 ((F 5 3) + 1))) K)) rfl ?_
          refine v_goto (tgt := 114) C dX3_sendData_100 (by decide) ?_
          exact v_vret C E rfl dX3_sendData_114 (by decide) (by decide) (⟨rfl, by rw [show (sdL m z F) = (up (up (up F 0 (up (F 0) 2 ((F 0 2) + 1))) 1 (up (nhF (F 1) (F 2)) 1 (((nhF (F 1) (F 2)) 1) + 1))) 5 (up (up (F 5) 2 ((F 5 2) + 1)) 3 ((F 5 3) + 1))) from ((if_neg (by omega)).trans ((if_neg c46).trans ((if_pos c70).trans (if_pos c86))))]⟩)
      · skip
        exact v_vret C E rfl dX3_sendData_73 (by decide) (by decide) (⟨rfl, by rw [show (sdL m z F) = (up (up F 0 (up (F 0) 2 ((F 0 2) + 1))) 5 (up (up (F 5) 2 ((F 5 2) + 1)) 3 ((F 5 3) + 1))) from ((if_neg (by omega)).trans ((if_neg c46).trans (if_neg c70)))]⟩)
set_option maxHeartbeats 4000000 in
set_option maxRecDepth 100000 in
theorem c_X3_sendTurn (G : GG) (l : Launch) (ad : Nat → Nat) (F : Int → Int → Int) (K : Int → Int → Int64) (z : Int) (hf : ∀ i, sB 100000000 (F i)) (hT : F 0 1 = 0 ∨ F 0 1 = 1) (hz : z = 0 ∨ z = 1) : Ct G l yX3_sendTurn (Cond.code yX3_sendTurn cX3_sendTurn 4 none :: wsL_law) 2 83 0 0 [.ref (ad 0), vI z] ((liW G ad F K)) (fun r w => r = none ∧ w = liW G ad (stLn z F) K) := by
  refine Ct.of (own := RX3) (cc := cX3_sendTurn) (maxL := 4) (ret := none) (by decide) rfl rfl (Nat.le_of_ble_eq_true rfl) (fun X C E M hG hl => ?_)
  subst hG hl
  have hT0 := hT
  rcases hT with hT | hT
  · skip
    refine v_aload_n C dX3_sendTurn_0 rfl 0 rfl ?_
    refine v_aload_n C dX3_sendTurn_1 rfl 0 rfl ?_
    refine v_get (v := vI (F 0 1)) C inw_3 0 7 rfl (by decide) (List.mem_cons_of_mem _ mw_189) rfl rfl dX3_sendTurn_2 ?_
    refine v_callV (na := 1) (wy := (Cond.code yX3_side cX3_side 2 (some (.object "TurnLine$Station")) :: wsL_law)) (wc := (liW (vG X) ad F K)) (wr := []) C [vI (F 0 1)] [] (c_X3_side _ _ ad F K (F 0 1) (by have := hf 0 1; first | assumption | exact ⟨by omega, by omega⟩)) rfl (gwV mw_122 mw_623 mw_120 mw_121 mw_15) rfl (by decide +kernel) 0 rfl rfl rfl rfl Sb.w rfl rfl dX3_sendTurn_5 (fun r w1 hp5_1 => ?_)
    obtain ⟨rfl, rfl⟩ := hp5_1
    show V X 0 0 8 [(0, .ref (ad 0)), (1, vI z)] [.ref (if (F 0 1) = 0 then (ad 1) else (ad 4))] ((liW (vG X) ad F K))
    rw [if_pos (show (F 0 1) = 0 by omega)]
    refine v_astore_n C M dX3_sendTurn_8 rfl (by decide) (L' := [(2, .ref (ad 1)), (0, .ref (ad 0)), (1, vI z)]) rfl ?_
    refine v_aload_n C dX3_sendTurn_9 rfl 1 rfl ?_
    refine v_iconst C dX3_sendTurn_10 ?_
    refine v_aload_n C dX3_sendTurn_11 rfl 1 rfl ?_
    refine v_get (v := vI (F 0 1)) C inw_3 0 7 rfl (by decide) (List.mem_cons_of_mem _ mw_189) rfl rfl dX3_sendTurn_12 ?_
    refine v_isub C dX3_sendTurn_15 ?_
    refine v_callV (na := 1) (wy := (Cond.code yX3_side cX3_side 2 (some (.object "TurnLine$Station")) :: wsL_law)) (wc := (liW (vG X) ad F K)) (wr := []) C [vI (1 - (F 0 1))] [] (c_X3_side _ _ ad F K (1 - (F 0 1)) (by have := hf 0 1; first | assumption | exact ⟨by omega, by omega⟩)) rfl (gwV mw_122 mw_623 mw_120 mw_121 mw_15) rfl (by decide +kernel) 0 rfl rfl rfl rfl Sb.w rfl rfl dX3_sendTurn_16 (fun r w1 hp16_2 => ?_)
    obtain ⟨rfl, rfl⟩ := hp16_2
    show V X 0 0 19 [(2, .ref (ad 1)), (0, .ref (ad 0)), (1, vI z)] [.ref (if (1 - (F 0 1)) = 0 then (ad 1) else (ad 4))] ((liW (vG X) ad F K))
    rw [if_neg (show ¬ (1 - (F 0 1)) = 0 by omega)]
    refine v_astore_n C M dX3_sendTurn_19 rfl (by decide) (L' := [(3, .ref (ad 4)), (2, .ref (ad 1)), (0, .ref (ad 0)), (1, vI z)]) rfl ?_
    refine v_aload_n C dX3_sendTurn_20 rfl 2 rfl ?_
    refine v_get (v := .ref (ad 7)) C inw_3 0 2 rfl (by decide) (List.mem_cons_of_mem _ mw_52) rfl rfl dX3_sendTurn_21 ?_
    refine v_iconst C dX3_sendTurn_24 ?_
    refine v_dup2 C dX3_sendTurn_25 rfl rfl ?_
    refine v_iald C 7 rfl (by decide) (by decide) (by decide) dX3_sendTurn_26 ?_
    refine v_iconst C dX3_sendTurn_27 ?_
    refine v_iadd C dX3_sendTurn_28 ?_
    refine v_iast C 7 rfl (by decide) (by decide) (by decide) dX3_sendTurn_29 (ws' := (liW (vG X) ad (up F 5 (up (F 5) 4 ((F 5 4) + 1))) K)) rfl ?_
    refine v_aload_n C dX3_sendTurn_30 rfl 2 rfl ?_
    refine v_get (v := vI (F 0 6)) C inw_3 0 9 rfl (by decide) (List.mem_cons_of_mem _ mw_128) rfl rfl dX3_sendTurn_31 ?_
    refine v_if_eq (tgt := 47) C dX3_sendTurn_34 (by decide) (by have := hf 0 6; first | assumption | exact ⟨by omega, by omega⟩) (fun c34 => ?_) (fun c34 => ?_)
    · skip
      refine v_aload_n C dX3_sendTurn_47 rfl 2 rfl ?_
      refine v_iload_n C dX3_sendTurn_48 rfl 3 rfl ?_
      refine v_put C inw_3 tyX3 tyX3_ok nmX3 0 9 rfl (by decide) (List.mem_cons_of_mem _ mw_128) rfl rfl (nb_01 (by omega)) (fb_01 (by omega)) (Nat.le_of_ble_eq_true rfl) dX3_sendTurn_49 (ws' := (liW (vG X) ad (up (up F 0 (up (F 0) 6 z)) 5 (up (F 5) 4 ((F 5 4) + 1))) K)) rfl ?_
      refine v_iload_n C dX3_sendTurn_52 rfl 3 rfl ?_
      refine v_if_eq (tgt := 71) C dX3_sendTurn_53 (by decide) (by  first | assumption | exact ⟨by omega, by omega⟩) (fun c53 => ?_) (fun c53 => ?_)
      · skip
        refine v_aload_n C dX3_sendTurn_71 rfl 0 rfl ?_
        refine v_aload_n C dX3_sendTurn_72 rfl 1 rfl ?_
        refine v_callV (na := 1) (wy := (Cond.code yX5_noteHeadOf cX5_noteHeadOf 3 none :: wsL_law)) (wc := (stW (vG X) (ad 4) (ad 5) (ad 6) (F 2) (F 4) (K 1)) ++ (stW (vG X) (ad 1) (ad 2) (ad 3) (F 1) (F 3) (K 0))) (wr := [((ad 0), .inr (3, [.ref (ad 1), .ref (ad 4), .ref (ad 7), .ref (ad 8), vI (F 0 7), vI (F 0 4), vI (F 0 5), vI (F 0 1), vI (F 0 2), vI z, vI (F 0 9)])), ((ad 7), .inl ((vG X).2 1, 10, .inl (fI (up (F 5) 4 ((F 5 4) + 1))))), ((ad 8), .inl ((vG X).2 2, 32, .inr (.inl (fL (K 2)))))]) C [.ref (ad 1)] [] (c_X5_noteHeadOf _ _ (ad 4) (ad 5) (ad 6) (F 2) (F 4) (K 1) (ad 1) (ad 2) (ad 3) (F 1) (F 3) (K 0) (sB_mono (by decide) (hf 2)) (sB_mono (by decide) (hf 1))) rfl (gwV mw_627 mw_624 mw_625 mw_626 mw_48) rfl (by decide +kernel) 0 rfl rfl rfl rfl (Sb.pl [4, 5, 6, 1, 2, 3, 0, 7, 8] rfl rfl) rfl rfl dX3_sendTurn_73 (fun r w1 hp73_3 => ?_)
        obtain ⟨rfl, rfl⟩ := hp73_3
        have hnh73 : sB 1000000000 (nhF (F 2) (F 1)) := nhF_B (sB_mono (by decide) (hf 2)) (sB_mono (by decide) (hf 1))
        refine V.sb (ws' := (liW (vG X) ad (up (up (up F 0 (up (F 0) 6 z)) 2 (nhF (F 2) (F 1))) 5 (up (F 5) 4 ((F 5 4) + 1))) K)) (Sb.pl [6, 3, 4, 5, 0, 1, 2, 7, 8] rfl rfl) ?_
        show V X 0 0 76 [(3, .ref (ad 4)), (2, .ref (ad 1)), (0, .ref (ad 0)), (1, vI z)] [] ((liW (vG X) ad (up (up (up F 0 (up (F 0) 6 z)) 2 (nhF (F 2) (F 1))) 5 (up (F 5) 4 ((F 5 4) + 1))) K))
        refine v_aload_n C dX3_sendTurn_76 rfl 1 rfl ?_
        refine v_dup C dX3_sendTurn_77 rfl ?_
        refine v_getN (v := vI (F 1 9)) C inw_5 1 12 rfl (by decide) nw_16 rfl rfl dX3_sendTurn_78 ?_
        refine v_iconst C dX3_sendTurn_81 ?_
        refine v_iadd C dX3_sendTurn_82 ?_
        refine v_putN C inw_5 tyX5 tyX5_ok nmX5 1 12 rfl (by decide) nw_16 rfl rfl rfl rfl (Nat.le_of_ble_eq_true rfl) dX3_sendTurn_83 (ws' := (liW (vG X) ad (up (up (up (up F 0 (up (F 0) 6 z)) 1 (up (F 1) 9 ((F 1 9) + 1))) 2 (nhF (F 2) (F 1))) 5 (up (F 5) 4 ((F 5 4) + 1))) K)) rfl ?_
        refine v_aload_n C dX3_sendTurn_86 rfl 2 rfl ?_
        refine v_iconst C dX3_sendTurn_87 ?_
        refine v_aload_n C dX3_sendTurn_88 rfl 2 rfl ?_
        refine v_get (v := vI (F 0 1)) C inw_3 0 7 rfl (by decide) (List.mem_cons_of_mem _ mw_189) rfl rfl dX3_sendTurn_89 ?_
        refine v_isub C dX3_sendTurn_92 ?_
        refine v_put C inw_3 tyX3 tyX3_ok nmX3 0 7 rfl (by decide) (List.mem_cons_of_mem _ mw_189) rfl rfl rfl rfl (Nat.le_of_ble_eq_true rfl) dX3_sendTurn_93 (ws' := (liW (vG X) ad (up (up (up (up F 0 (up (up (F 0) 6 z) 1 (1 - (F 0 1)))) 1 (up (F 1) 9 ((F 1 9) + 1))) 2 (nhF (F 2) (F 1))) 5 (up (F 5) 4 ((F 5 4) + 1))) K)) rfl ?_
        refine v_aload_n C dX3_sendTurn_96 rfl 2 rfl ?_
        refine v_iconst C dX3_sendTurn_97 ?_
        refine v_put C inw_3 tyX3 tyX3_ok nmX3 0 8 rfl (by decide) (List.mem_cons_of_mem _ mw_127) rfl rfl rfl rfl (Nat.le_of_ble_eq_true rfl) dX3_sendTurn_98 (ws' := (liW (vG X) ad (up (up (up (up F 0 (up (up (up (F 0) 6 z) 1 (1 - (F 0 1))) 2 0)) 1 (up (F 1) 9 ((F 1 9) + 1))) 2 (nhF (F 2) (F 1))) 5 (up (F 5) 4 ((F 5 4) + 1))) K)) rfl ?_
        refine v_aload_n C dX3_sendTurn_101 rfl 0 rfl ?_
        refine v_aload_n C dX3_sendTurn_102 rfl 1 rfl ?_
        refine v_getN (v := vI (F 1 4)) C inw_5 1 6 rfl (by decide) nw_9 rfl rfl dX3_sendTurn_103 ?_
        refine v_callV (na := 1) (wy := (Cond.code yX5_returnCapacity cX5_returnCapacity 4 none :: wsL_law)) (wc := (stW (vG X) (ad 4) (ad 5) (ad 6) (nhF (F 2) (F 1)) (F 4) (K 1))) (wr := [((ad 0), .inr (3, [.ref (ad 1), .ref (ad 4), .ref (ad 7), .ref (ad 8), vI (F 0 7), vI (F 0 4), vI (F 0 5), vI (1 - (F 0 1)), vI 0, vI z, vI (F 0 9)])), ((ad 1), .inr (5, [.ref (ad 2), .ref (ad 3), vI (F 1 0), vI (F 1 1), vI (F 1 2), vI (F 1 3), vI (F 1 4), vI (F 1 5), vI (F 1 10), vI (F 1 6), vI (F 1 7), vI (F 1 8), vI ((F 1 9) + 1)])), ((ad 2), .inl ((vG X).2 1, 20, .inl (fI (F 3)))), ((ad 3), .inl ((vG X).2 2, 20, .inr (.inl (fL (K 0))))), ((ad 7), .inl ((vG X).2 1, 10, .inl (fI (up (F 5) 4 ((F 5 4) + 1))))), ((ad 8), .inl ((vG X).2 2, 32, .inr (.inl (fL (K 2)))))]) C [vI (F 1 4)] [] (c_X5_returnCapacity _ _ (ad 4) (ad 5) (ad 6) (nhF (F 2) (F 1)) (F 4) (K 1) (F 1 4) (sB_mono (by decide) hnh73) (by have := hf 1 4; first | assumption | exact ⟨by omega, by omega⟩)) rfl (gwV mw_636 mw_633 mw_634 mw_635 mw_48) rfl (by decide +kernel) 0 rfl rfl rfl rfl (Sb.pl [4, 5, 6, 0, 1, 2, 3, 7, 8] rfl rfl) rfl rfl dX3_sendTurn_106 (fun r w1 hp106_4 => ?_)
        obtain ⟨rfl, rfl⟩ := hp106_4
        refine V.sb (ws' := (liW (vG X) ad (up (up (up (up F 0 (up (up (up (F 0) 6 z) 1 (1 - (F 0 1))) 2 0)) 1 (up (F 1) 9 ((F 1 9) + 1))) 2 (rcF (F 1 4) (nhF (F 2) (F 1)))) 5 (up (F 5) 4 ((F 5 4) + 1))) K)) (Sb.pl [3, 4, 5, 6, 0, 1, 2, 7, 8] rfl rfl) ?_
        show V X 0 0 109 [(3, .ref (ad 4)), (2, .ref (ad 1)), (0, .ref (ad 0)), (1, vI z)] [] ((liW (vG X) ad (up (up (up (up F 0 (up (up (up (F 0) 6 z) 1 (1 - (F 0 1))) 2 0)) 1 (up (F 1) 9 ((F 1 9) + 1))) 2 (rcF (F 1 4) (nhF (F 2) (F 1)))) 5 (up (F 5) 4 ((F 5 4) + 1))) K))
        exact v_vret C E rfl dX3_sendTurn_109 (by decide) (by decide) (⟨rfl, by rw [show (stLn z F) = (up (up (up (up F 0 (up (up (up (F 0) 6 z) 1 (1 - (F 0 1))) 2 0)) 1 (up (F 1) 9 ((F 1 9) + 1))) 2 (rcF (F 1 4) (nhF (F 2) (F 1)))) 5 (up (F 5) 4 ((F 5 4) + 1))) from ((if_pos hT).trans ((if_pos c34).trans (if_pos c53)))]⟩)
      · skip
        refine v_aload_n C dX3_sendTurn_56 rfl 2 rfl ?_
        refine v_get (v := .ref (ad 7)) C inw_3 0 2 rfl (by decide) (List.mem_cons_of_mem _ mw_52) rfl rfl dX3_sendTurn_57 ?_
        refine v_bipush C dX3_sendTurn_60 (by decide +kernel) ?_
        refine v_dup2 C dX3_sendTurn_62 rfl rfl ?_
        refine v_iald C 7 rfl (by decide) (by decide) (by decide) dX3_sendTurn_63 ?_
        show V X 0 0 64 [(3, .ref (ad 4)), (2, .ref (ad 1)), (0, .ref (ad 0)), (1, vI z)] [vI ((up (F 5) 4 ((F 5 4) + 1)) 8), vI 8, .ref (ad 7)] ((liW (vG X) ad (up (up F 0 (up (F 0) 6 z)) 5 (up (F 5) 4 ((F 5 4) + 1))) K))
        rw [up_n (show (8 : Int) ≠ 4 by decide)]
        refine v_aload_n C dX3_sendTurn_64 rfl 2 rfl ?_
        refine v_get (v := vI (F 0 5)) C inw_3 0 6 rfl (by decide) (List.mem_cons_of_mem _ mw_56) rfl rfl dX3_sendTurn_65 ?_
        refine v_iadd C dX3_sendTurn_68 ?_
        refine v_iast C 7 rfl (by decide) (by decide) (by decide) dX3_sendTurn_69 (ws' := (liW (vG X) ad (up (up F 0 (up (F 0) 6 z)) 5 (up (up (F 5) 4 ((F 5 4) + 1)) 8 ((F 5 8) + (F 0 5)))) K)) rfl ?_
        exact v_vret C E rfl dX3_sendTurn_70 (by decide) (by decide) (⟨rfl, by rw [show (stLn z F) = (up (up F 0 (up (F 0) 6 z)) 5 (up (up (F 5) 4 ((F 5 4) + 1)) 8 ((F 5 8) + (F 0 5)))) from ((if_pos hT).trans ((if_pos c34).trans (if_neg c53)))]⟩)
    · skip
      refine v_aload_n C dX3_sendTurn_37 rfl 2 rfl ?_
      refine v_get (v := .ref (ad 7)) C inw_3 0 2 rfl (by decide) (List.mem_cons_of_mem _ mw_52) rfl rfl dX3_sendTurn_38 ?_
      refine v_iconst C dX3_sendTurn_41 ?_
      refine v_dup2 C dX3_sendTurn_42 rfl rfl ?_
      refine v_iald C 7 rfl (by decide) (by decide) (by decide) dX3_sendTurn_43 ?_
      show V X 0 0 44 [(3, .ref (ad 4)), (2, .ref (ad 1)), (0, .ref (ad 0)), (1, vI z)] [vI ((up (F 5) 4 ((F 5 4) + 1)) 5), vI 5, .ref (ad 7)] ((liW (vG X) ad (up F 5 (up (F 5) 4 ((F 5 4) + 1))) K))
      rw [up_n (show (5 : Int) ≠ 4 by decide)]
      refine v_iconst C dX3_sendTurn_44 ?_
      refine v_iadd C dX3_sendTurn_45 ?_
      refine v_iast C 7 rfl (by decide) (by decide) (by decide) dX3_sendTurn_46 (ws' := (liW (vG X) ad (up F 5 (up (up (F 5) 4 ((F 5 4) + 1)) 5 ((F 5 5) + 1))) K)) rfl ?_
      refine v_aload_n C dX3_sendTurn_47 rfl 2 rfl ?_
      refine v_iload_n C dX3_sendTurn_48 rfl 3 rfl ?_
      refine v_put C inw_3 tyX3 tyX3_ok nmX3 0 9 rfl (by decide) (List.mem_cons_of_mem _ mw_128) rfl rfl (nb_01 (by omega)) (fb_01 (by omega)) (Nat.le_of_ble_eq_true rfl) dX3_sendTurn_49 (ws' := (liW (vG X) ad (up (up F 0 (up (F 0) 6 z)) 5 (up (up (F 5) 4 ((F 5 4) + 1)) 5 ((F 5 5) + 1))) K)) rfl ?_
      refine v_iload_n C dX3_sendTurn_52 rfl 3 rfl ?_
      refine v_if_eq (tgt := 71) C dX3_sendTurn_53 (by decide) (by  first | assumption | exact ⟨by omega, by omega⟩) (fun c53 => ?_) (fun c53 => ?_)
      · skip
        refine v_aload_n C dX3_sendTurn_71 rfl 0 rfl ?_
        refine v_aload_n C dX3_sendTurn_72 rfl 1 rfl ?_
        refine v_callV (na := 1) (wy := (Cond.code yX5_noteHeadOf cX5_noteHeadOf 3 none :: wsL_law)) (wc := (stW (vG X) (ad 4) (ad 5) (ad 6) (F 2) (F 4) (K 1)) ++ (stW (vG X) (ad 1) (ad 2) (ad 3) (F 1) (F 3) (K 0))) (wr := [((ad 0), .inr (3, [.ref (ad 1), .ref (ad 4), .ref (ad 7), .ref (ad 8), vI (F 0 7), vI (F 0 4), vI (F 0 5), vI (F 0 1), vI (F 0 2), vI z, vI (F 0 9)])), ((ad 7), .inl ((vG X).2 1, 10, .inl (fI (up (up (F 5) 4 ((F 5 4) + 1)) 5 ((F 5 5) + 1))))), ((ad 8), .inl ((vG X).2 2, 32, .inr (.inl (fL (K 2)))))]) C [.ref (ad 1)] [] (c_X5_noteHeadOf _ _ (ad 4) (ad 5) (ad 6) (F 2) (F 4) (K 1) (ad 1) (ad 2) (ad 3) (F 1) (F 3) (K 0) (sB_mono (by decide) (hf 2)) (sB_mono (by decide) (hf 1))) rfl (gwV mw_627 mw_624 mw_625 mw_626 mw_48) rfl (by decide +kernel) 0 rfl rfl rfl rfl (Sb.pl [4, 5, 6, 1, 2, 3, 0, 7, 8] rfl rfl) rfl rfl dX3_sendTurn_73 (fun r w1 hp73_5 => ?_)
        obtain ⟨rfl, rfl⟩ := hp73_5
        have hnh73 : sB 1000000000 (nhF (F 2) (F 1)) := nhF_B (sB_mono (by decide) (hf 2)) (sB_mono (by decide) (hf 1))
        refine V.sb (ws' := (liW (vG X) ad (up (up (up F 0 (up (F 0) 6 z)) 2 (nhF (F 2) (F 1))) 5 (up (up (F 5) 4 ((F 5 4) + 1)) 5 ((F 5 5) + 1))) K)) (Sb.pl [6, 3, 4, 5, 0, 1, 2, 7, 8] rfl rfl) ?_
        show V X 0 0 76 [(3, .ref (ad 4)), (2, .ref (ad 1)), (0, .ref (ad 0)), (1, vI z)] [] ((liW (vG X) ad (up (up (up F 0 (up (F 0) 6 z)) 2 (nhF (F 2) (F 1))) 5 (up (up (F 5) 4 ((F 5 4) + 1)) 5 ((F 5 5) + 1))) K))
        refine v_aload_n C dX3_sendTurn_76 rfl 1 rfl ?_
        refine v_dup C dX3_sendTurn_77 rfl ?_
        refine v_getN (v := vI (F 1 9)) C inw_5 1 12 rfl (by decide) nw_16 rfl rfl dX3_sendTurn_78 ?_
        refine v_iconst C dX3_sendTurn_81 ?_
        refine v_iadd C dX3_sendTurn_82 ?_
        refine v_putN C inw_5 tyX5 tyX5_ok nmX5 1 12 rfl (by decide) nw_16 rfl rfl rfl rfl (Nat.le_of_ble_eq_true rfl) dX3_sendTurn_83 (ws' := (liW (vG X) ad (up (up (up (up F 0 (up (F 0) 6 z)) 1 (up (F 1) 9 ((F 1 9) + 1))) 2 (nhF (F 2) (F 1))) 5 (up (up (F 5) 4 ((F 5 4) + 1)) 5 ((F 5 5) + 1))) K)) rfl ?_
        refine v_aload_n C dX3_sendTurn_86 rfl 2 rfl ?_
        refine v_iconst C dX3_sendTurn_87 ?_
        refine v_aload_n C dX3_sendTurn_88 rfl 2 rfl ?_
        refine v_get (v := vI (F 0 1)) C inw_3 0 7 rfl (by decide) (List.mem_cons_of_mem _ mw_189) rfl rfl dX3_sendTurn_89 ?_
        refine v_isub C dX3_sendTurn_92 ?_
        refine v_put C inw_3 tyX3 tyX3_ok nmX3 0 7 rfl (by decide) (List.mem_cons_of_mem _ mw_189) rfl rfl rfl rfl (Nat.le_of_ble_eq_true rfl) dX3_sendTurn_93 (ws' := (liW (vG X) ad (up (up (up (up F 0 (up (up (F 0) 6 z) 1 (1 - (F 0 1)))) 1 (up (F 1) 9 ((F 1 9) + 1))) 2 (nhF (F 2) (F 1))) 5 (up (up (F 5) 4 ((F 5 4) + 1)) 5 ((F 5 5) + 1))) K)) rfl ?_
        refine v_aload_n C dX3_sendTurn_96 rfl 2 rfl ?_
        refine v_iconst C dX3_sendTurn_97 ?_
        refine v_put C inw_3 tyX3 tyX3_ok nmX3 0 8 rfl (by decide) (List.mem_cons_of_mem _ mw_127) rfl rfl rfl rfl (Nat.le_of_ble_eq_true rfl) dX3_sendTurn_98 (ws' := (liW (vG X) ad (up (up (up (up F 0 (up (up (up (F 0) 6 z) 1 (1 - (F 0 1))) 2 0)) 1 (up (F 1) 9 ((F 1 9) + 1))) 2 (nhF (F 2) (F 1))) 5 (up (up (F 5) 4 ((F 5 4) + 1)) 5 ((F 5 5) + 1))) K)) rfl ?_
        refine v_aload_n C dX3_sendTurn_101 rfl 0 rfl ?_
        refine v_aload_n C dX3_sendTurn_102 rfl 1 rfl ?_
        refine v_getN (v := vI (F 1 4)) C inw_5 1 6 rfl (by decide) nw_9 rfl rfl dX3_sendTurn_103 ?_
        refine v_callV (na := 1) (wy := (Cond.code yX5_returnCapacity cX5_returnCapacity 4 none :: wsL_law)) (wc := (stW (vG X) (ad 4) (ad 5) (ad 6) (nhF (F 2) (F 1)) (F 4) (K 1))) (wr := [((ad 0), .inr (3, [.ref (ad 1), .ref (ad 4), .ref (ad 7), .ref (ad 8), vI (F 0 7), vI (F 0 4), vI (F 0 5), vI (1 - (F 0 1)), vI 0, vI z, vI (F 0 9)])), ((ad 1), .inr (5, [.ref (ad 2), .ref (ad 3), vI (F 1 0), vI (F 1 1), vI (F 1 2), vI (F 1 3), vI (F 1 4), vI (F 1 5), vI (F 1 10), vI (F 1 6), vI (F 1 7), vI (F 1 8), vI ((F 1 9) + 1)])), ((ad 2), .inl ((vG X).2 1, 20, .inl (fI (F 3)))), ((ad 3), .inl ((vG X).2 2, 20, .inr (.inl (fL (K 0))))), ((ad 7), .inl ((vG X).2 1, 10, .inl (fI (up (up (F 5) 4 ((F 5 4) + 1)) 5 ((F 5 5) + 1))))), ((ad 8), .inl ((vG X).2 2, 32, .inr (.inl (fL (K 2)))))]) C [vI (F 1 4)] [] (c_X5_returnCapacity _ _ (ad 4) (ad 5) (ad 6) (nhF (F 2) (F 1)) (F 4) (K 1) (F 1 4) (sB_mono (by decide) hnh73) (by have := hf 1 4; first | assumption | exact ⟨by omega, by omega⟩)) rfl (gwV mw_636 mw_633 mw_634 mw_635 mw_48) rfl (by decide +kernel) 0 rfl rfl rfl rfl (Sb.pl [4, 5, 6, 0, 1, 2, 3, 7, 8] rfl rfl) rfl rfl dX3_sendTurn_106 (fun r w1 hp106_6 => ?_)
        obtain ⟨rfl, rfl⟩ := hp106_6
        refine V.sb (ws' := (liW (vG X) ad (up (up (up (up F 0 (up (up (up (F 0) 6 z) 1 (1 - (F 0 1))) 2 0)) 1 (up (F 1) 9 ((F 1 9) + 1))) 2 (rcF (F 1 4) (nhF (F 2) (F 1)))) 5 (up (up (F 5) 4 ((F 5 4) + 1)) 5 ((F 5 5) + 1))) K)) (Sb.pl [3, 4, 5, 6, 0, 1, 2, 7, 8] rfl rfl) ?_
        show V X 0 0 109 [(3, .ref (ad 4)), (2, .ref (ad 1)), (0, .ref (ad 0)), (1, vI z)] [] ((liW (vG X) ad (up (up (up (up F 0 (up (up (up (F 0) 6 z) 1 (1 - (F 0 1))) 2 0)) 1 (up (F 1) 9 ((F 1 9) + 1))) 2 (rcF (F 1 4) (nhF (F 2) (F 1)))) 5 (up (up (F 5) 4 ((F 5 4) + 1)) 5 ((F 5 5) + 1))) K))
        exact v_vret C E rfl dX3_sendTurn_109 (by decide) (by decide) (⟨rfl, by rw [show (stLn z F) = (up (up (up (up F 0 (up (up (up (F 0) 6 z) 1 (1 - (F 0 1))) 2 0)) 1 (up (F 1) 9 ((F 1 9) + 1))) 2 (rcF (F 1 4) (nhF (F 2) (F 1)))) 5 (up (up (F 5) 4 ((F 5 4) + 1)) 5 ((F 5 5) + 1))) from ((if_pos hT).trans ((if_neg c34).trans (if_pos c53)))]⟩)
      · skip
        refine v_aload_n C dX3_sendTurn_56 rfl 2 rfl ?_
        refine v_get (v := .ref (ad 7)) C inw_3 0 2 rfl (by decide) (List.mem_cons_of_mem _ mw_52) rfl rfl dX3_sendTurn_57 ?_
        refine v_bipush C dX3_sendTurn_60 (by decide +kernel) ?_
        refine v_dup2 C dX3_sendTurn_62 rfl rfl ?_
        refine v_iald C 7 rfl (by decide) (by decide) (by decide) dX3_sendTurn_63 ?_
        show V X 0 0 64 [(3, .ref (ad 4)), (2, .ref (ad 1)), (0, .ref (ad 0)), (1, vI z)] [vI ((up (up (F 5) 4 ((F 5 4) + 1)) 5 ((F 5 5) + 1)) 8), vI 8, .ref (ad 7)] ((liW (vG X) ad (up (up F 0 (up (F 0) 6 z)) 5 (up (up (F 5) 4 ((F 5 4) + 1)) 5 ((F 5 5) + 1))) K))
        rw [up_n (show (8 : Int) ≠ 5 by decide), up_n (show (8 : Int) ≠ 4 by decide)]
        refine v_aload_n C dX3_sendTurn_64 rfl 2 rfl ?_
        refine v_get (v := vI (F 0 5)) C inw_3 0 6 rfl (by decide) (List.mem_cons_of_mem _ mw_56) rfl rfl dX3_sendTurn_65 ?_
        refine v_iadd C dX3_sendTurn_68 ?_
        refine v_iast C 7 rfl (by decide) (by decide) (by decide) dX3_sendTurn_69 (ws' := (liW (vG X) ad (up (up F 0 (up (F 0) 6 z)) 5 (up (up (up (F 5) 4 ((F 5 4) + 1)) 5 ((F 5 5) + 1)) 8 ((F 5 8) + (F 0 5)))) K)) rfl ?_
        exact v_vret C E rfl dX3_sendTurn_70 (by decide) (by decide) (⟨rfl, by rw [show (stLn z F) = (up (up F 0 (up (F 0) 6 z)) 5 (up (up (up (F 5) 4 ((F 5 4) + 1)) 5 ((F 5 5) + 1)) 8 ((F 5 8) + (F 0 5)))) from ((if_pos hT).trans ((if_neg c34).trans (if_neg c53)))]⟩)
  · skip
    refine v_aload_n C dX3_sendTurn_0 rfl 0 rfl ?_
    refine v_aload_n C dX3_sendTurn_1 rfl 0 rfl ?_
    refine v_get (v := vI (F 0 1)) C inw_3 0 7 rfl (by decide) (List.mem_cons_of_mem _ mw_189) rfl rfl dX3_sendTurn_2 ?_
    refine v_callV (na := 1) (wy := (Cond.code yX3_side cX3_side 2 (some (.object "TurnLine$Station")) :: wsL_law)) (wc := (liW (vG X) ad F K)) (wr := []) C [vI (F 0 1)] [] (c_X3_side _ _ ad F K (F 0 1) (by have := hf 0 1; first | assumption | exact ⟨by omega, by omega⟩)) rfl (gwV mw_122 mw_623 mw_120 mw_121 mw_15) rfl (by decide +kernel) 0 rfl rfl rfl rfl Sb.w rfl rfl dX3_sendTurn_5 (fun r w1 hp5_7 => ?_)
    obtain ⟨rfl, rfl⟩ := hp5_7
    show V X 0 0 8 [(0, .ref (ad 0)), (1, vI z)] [.ref (if (F 0 1) = 0 then (ad 1) else (ad 4))] ((liW (vG X) ad F K))
    rw [if_neg (show ¬ (F 0 1) = 0 by omega)]
    refine v_astore_n C M dX3_sendTurn_8 rfl (by decide) (L' := [(2, .ref (ad 4)), (0, .ref (ad 0)), (1, vI z)]) rfl ?_
    refine v_aload_n C dX3_sendTurn_9 rfl 1 rfl ?_
    refine v_iconst C dX3_sendTurn_10 ?_
    refine v_aload_n C dX3_sendTurn_11 rfl 1 rfl ?_
    refine v_get (v := vI (F 0 1)) C inw_3 0 7 rfl (by decide) (List.mem_cons_of_mem _ mw_189) rfl rfl dX3_sendTurn_12 ?_
    refine v_isub C dX3_sendTurn_15 ?_
    refine v_callV (na := 1) (wy := (Cond.code yX3_side cX3_side 2 (some (.object "TurnLine$Station")) :: wsL_law)) (wc := (liW (vG X) ad F K)) (wr := []) C [vI (1 - (F 0 1))] [] (c_X3_side _ _ ad F K (1 - (F 0 1)) (by have := hf 0 1; first | assumption | exact ⟨by omega, by omega⟩)) rfl (gwV mw_122 mw_623 mw_120 mw_121 mw_15) rfl (by decide +kernel) 0 rfl rfl rfl rfl Sb.w rfl rfl dX3_sendTurn_16 (fun r w1 hp16_8 => ?_)
    obtain ⟨rfl, rfl⟩ := hp16_8
    show V X 0 0 19 [(2, .ref (ad 4)), (0, .ref (ad 0)), (1, vI z)] [.ref (if (1 - (F 0 1)) = 0 then (ad 1) else (ad 4))] ((liW (vG X) ad F K))
    rw [if_pos (show (1 - (F 0 1)) = 0 by omega)]
    refine v_astore_n C M dX3_sendTurn_19 rfl (by decide) (L' := [(3, .ref (ad 1)), (2, .ref (ad 4)), (0, .ref (ad 0)), (1, vI z)]) rfl ?_
    refine v_aload_n C dX3_sendTurn_20 rfl 2 rfl ?_
    refine v_get (v := .ref (ad 7)) C inw_3 0 2 rfl (by decide) (List.mem_cons_of_mem _ mw_52) rfl rfl dX3_sendTurn_21 ?_
    refine v_iconst C dX3_sendTurn_24 ?_
    refine v_dup2 C dX3_sendTurn_25 rfl rfl ?_
    refine v_iald C 7 rfl (by decide) (by decide) (by decide) dX3_sendTurn_26 ?_
    refine v_iconst C dX3_sendTurn_27 ?_
    refine v_iadd C dX3_sendTurn_28 ?_
    refine v_iast C 7 rfl (by decide) (by decide) (by decide) dX3_sendTurn_29 (ws' := (liW (vG X) ad (up F 5 (up (F 5) 4 ((F 5 4) + 1))) K)) rfl ?_
    refine v_aload_n C dX3_sendTurn_30 rfl 2 rfl ?_
    refine v_get (v := vI (F 0 6)) C inw_3 0 9 rfl (by decide) (List.mem_cons_of_mem _ mw_128) rfl rfl dX3_sendTurn_31 ?_
    refine v_if_eq (tgt := 47) C dX3_sendTurn_34 (by decide) (by have := hf 0 6; first | assumption | exact ⟨by omega, by omega⟩) (fun c34 => ?_) (fun c34 => ?_)
    · skip
      refine v_aload_n C dX3_sendTurn_47 rfl 2 rfl ?_
      refine v_iload_n C dX3_sendTurn_48 rfl 3 rfl ?_
      refine v_put C inw_3 tyX3 tyX3_ok nmX3 0 9 rfl (by decide) (List.mem_cons_of_mem _ mw_128) rfl rfl (nb_01 (by omega)) (fb_01 (by omega)) (Nat.le_of_ble_eq_true rfl) dX3_sendTurn_49 (ws' := (liW (vG X) ad (up (up F 0 (up (F 0) 6 z)) 5 (up (F 5) 4 ((F 5 4) + 1))) K)) rfl ?_
      refine v_iload_n C dX3_sendTurn_52 rfl 3 rfl ?_
      refine v_if_eq (tgt := 71) C dX3_sendTurn_53 (by decide) (by  first | assumption | exact ⟨by omega, by omega⟩) (fun c53 => ?_) (fun c53 => ?_)
      · skip
        refine v_aload_n C dX3_sendTurn_71 rfl 0 rfl ?_
        refine v_aload_n C dX3_sendTurn_72 rfl 1 rfl ?_
        refine v_callV (na := 1) (wy := (Cond.code yX5_noteHeadOf cX5_noteHeadOf 3 none :: wsL_law)) (wc := (stW (vG X) (ad 1) (ad 2) (ad 3) (F 1) (F 3) (K 0)) ++ (stW (vG X) (ad 4) (ad 5) (ad 6) (F 2) (F 4) (K 1))) (wr := [((ad 0), .inr (3, [.ref (ad 1), .ref (ad 4), .ref (ad 7), .ref (ad 8), vI (F 0 7), vI (F 0 4), vI (F 0 5), vI (F 0 1), vI (F 0 2), vI z, vI (F 0 9)])), ((ad 7), .inl ((vG X).2 1, 10, .inl (fI (up (F 5) 4 ((F 5 4) + 1))))), ((ad 8), .inl ((vG X).2 2, 32, .inr (.inl (fL (K 2)))))]) C [.ref (ad 4)] [] (c_X5_noteHeadOf _ _ (ad 1) (ad 2) (ad 3) (F 1) (F 3) (K 0) (ad 4) (ad 5) (ad 6) (F 2) (F 4) (K 1) (sB_mono (by decide) (hf 1)) (sB_mono (by decide) (hf 2))) rfl (gwV mw_627 mw_624 mw_625 mw_626 mw_48) rfl (by decide +kernel) 0 rfl rfl rfl rfl (Sb.pl [1, 2, 3, 4, 5, 6, 0, 7, 8] rfl rfl) rfl rfl dX3_sendTurn_73 (fun r w1 hp73_9 => ?_)
        obtain ⟨rfl, rfl⟩ := hp73_9
        have hnh73 : sB 1000000000 (nhF (F 1) (F 2)) := nhF_B (sB_mono (by decide) (hf 1)) (sB_mono (by decide) (hf 2))
        refine V.sb (ws' := (liW (vG X) ad (up (up (up F 0 (up (F 0) 6 z)) 1 (nhF (F 1) (F 2))) 5 (up (F 5) 4 ((F 5 4) + 1))) K)) (Sb.pl [6, 0, 1, 2, 3, 4, 5, 7, 8] rfl rfl) ?_
        show V X 0 0 76 [(3, .ref (ad 1)), (2, .ref (ad 4)), (0, .ref (ad 0)), (1, vI z)] [] ((liW (vG X) ad (up (up (up F 0 (up (F 0) 6 z)) 1 (nhF (F 1) (F 2))) 5 (up (F 5) 4 ((F 5 4) + 1))) K))
        refine v_aload_n C dX3_sendTurn_76 rfl 1 rfl ?_
        refine v_dup C dX3_sendTurn_77 rfl ?_
        refine v_getN (v := vI (F 2 9)) C inw_5 4 12 rfl (by decide) nw_16 rfl rfl dX3_sendTurn_78 ?_
        refine v_iconst C dX3_sendTurn_81 ?_
        refine v_iadd C dX3_sendTurn_82 ?_
        refine v_putN C inw_5 tyX5 tyX5_ok nmX5 4 12 rfl (by decide) nw_16 rfl rfl rfl rfl (Nat.le_of_ble_eq_true rfl) dX3_sendTurn_83 (ws' := (liW (vG X) ad (up (up (up (up F 0 (up (F 0) 6 z)) 1 (nhF (F 1) (F 2))) 2 (up (F 2) 9 ((F 2 9) + 1))) 5 (up (F 5) 4 ((F 5 4) + 1))) K)) rfl ?_
        refine v_aload_n C dX3_sendTurn_86 rfl 2 rfl ?_
        refine v_iconst C dX3_sendTurn_87 ?_
        refine v_aload_n C dX3_sendTurn_88 rfl 2 rfl ?_
        refine v_get (v := vI (F 0 1)) C inw_3 0 7 rfl (by decide) (List.mem_cons_of_mem _ mw_189) rfl rfl dX3_sendTurn_89 ?_
        refine v_isub C dX3_sendTurn_92 ?_
        refine v_put C inw_3 tyX3 tyX3_ok nmX3 0 7 rfl (by decide) (List.mem_cons_of_mem _ mw_189) rfl rfl rfl rfl (Nat.le_of_ble_eq_true rfl) dX3_sendTurn_93 (ws' := (liW (vG X) ad (up (up (up (up F 0 (up (up (F 0) 6 z) 1 (1 - (F 0 1)))) 1 (nhF (F 1) (F 2))) 2 (up (F 2) 9 ((F 2 9) + 1))) 5 (up (F 5) 4 ((F 5 4) + 1))) K)) rfl ?_
        refine v_aload_n C dX3_sendTurn_96 rfl 2 rfl ?_
        refine v_iconst C dX3_sendTurn_97 ?_
        refine v_put C inw_3 tyX3 tyX3_ok nmX3 0 8 rfl (by decide) (List.mem_cons_of_mem _ mw_127) rfl rfl rfl rfl (Nat.le_of_ble_eq_true rfl) dX3_sendTurn_98 (ws' := (liW (vG X) ad (up (up (up (up F 0 (up (up (up (F 0) 6 z) 1 (1 - (F 0 1))) 2 0)) 1 (nhF (F 1) (F 2))) 2 (up (F 2) 9 ((F 2 9) + 1))) 5 (up (F 5) 4 ((F 5 4) + 1))) K)) rfl ?_
        refine v_aload_n C dX3_sendTurn_101 rfl 0 rfl ?_
        refine v_aload_n C dX3_sendTurn_102 rfl 1 rfl ?_
        refine v_getN (v := vI (F 2 4)) C inw_5 4 6 rfl (by decide) nw_9 rfl rfl dX3_sendTurn_103 ?_
        refine v_callV (na := 1) (wy := (Cond.code yX5_returnCapacity cX5_returnCapacity 4 none :: wsL_law)) (wc := (stW (vG X) (ad 1) (ad 2) (ad 3) (nhF (F 1) (F 2)) (F 3) (K 0))) (wr := [((ad 0), .inr (3, [.ref (ad 1), .ref (ad 4), .ref (ad 7), .ref (ad 8), vI (F 0 7), vI (F 0 4), vI (F 0 5), vI (1 - (F 0 1)), vI 0, vI z, vI (F 0 9)])), ((ad 4), .inr (5, [.ref (ad 5), .ref (ad 6), vI (F 2 0), vI (F 2 1), vI (F 2 2), vI (F 2 3), vI (F 2 4), vI (F 2 5), vI (F 2 10), vI (F 2 6), vI (F 2 7), vI (F 2 8), vI ((F 2 9) + 1)])), ((ad 5), .inl ((vG X).2 1, 20, .inl (fI (F 4)))), ((ad 6), .inl ((vG X).2 2, 20, .inr (.inl (fL (K 1))))), ((ad 7), .inl ((vG X).2 1, 10, .inl (fI (up (F 5) 4 ((F 5 4) + 1))))), ((ad 8), .inl ((vG X).2 2, 32, .inr (.inl (fL (K 2)))))]) C [vI (F 2 4)] [] (c_X5_returnCapacity _ _ (ad 1) (ad 2) (ad 3) (nhF (F 1) (F 2)) (F 3) (K 0) (F 2 4) (sB_mono (by decide) hnh73) (by have := hf 2 4; first | assumption | exact ⟨by omega, by omega⟩)) rfl (gwV mw_636 mw_633 mw_634 mw_635 mw_48) rfl (by decide +kernel) 0 rfl rfl rfl rfl (Sb.pl [1, 2, 3, 0, 4, 5, 6, 7, 8] rfl rfl) rfl rfl dX3_sendTurn_106 (fun r w1 hp106_10 => ?_)
        obtain ⟨rfl, rfl⟩ := hp106_10
        refine V.sb (ws' := (liW (vG X) ad (up (up (up (up F 0 (up (up (up (F 0) 6 z) 1 (1 - (F 0 1))) 2 0)) 1 (rcF (F 2 4) (nhF (F 1) (F 2)))) 2 (up (F 2) 9 ((F 2 9) + 1))) 5 (up (F 5) 4 ((F 5 4) + 1))) K)) (Sb.pl [3, 0, 1, 2, 4, 5, 6, 7, 8] rfl rfl) ?_
        show V X 0 0 109 [(3, .ref (ad 1)), (2, .ref (ad 4)), (0, .ref (ad 0)), (1, vI z)] [] ((liW (vG X) ad (up (up (up (up F 0 (up (up (up (F 0) 6 z) 1 (1 - (F 0 1))) 2 0)) 1 (rcF (F 2 4) (nhF (F 1) (F 2)))) 2 (up (F 2) 9 ((F 2 9) + 1))) 5 (up (F 5) 4 ((F 5 4) + 1))) K))
        exact v_vret C E rfl dX3_sendTurn_109 (by decide) (by decide) (⟨rfl, by rw [show (stLn z F) = (up (up (up (up F 0 (up (up (up (F 0) 6 z) 1 (1 - (F 0 1))) 2 0)) 1 (rcF (F 2 4) (nhF (F 1) (F 2)))) 2 (up (F 2) 9 ((F 2 9) + 1))) 5 (up (F 5) 4 ((F 5 4) + 1))) from ((if_neg (by omega)).trans ((if_pos c34).trans (if_pos c53)))]⟩)
      · skip
        refine v_aload_n C dX3_sendTurn_56 rfl 2 rfl ?_
        refine v_get (v := .ref (ad 7)) C inw_3 0 2 rfl (by decide) (List.mem_cons_of_mem _ mw_52) rfl rfl dX3_sendTurn_57 ?_
        refine v_bipush C dX3_sendTurn_60 (by decide +kernel) ?_
        refine v_dup2 C dX3_sendTurn_62 rfl rfl ?_
        refine v_iald C 7 rfl (by decide) (by decide) (by decide) dX3_sendTurn_63 ?_
        show V X 0 0 64 [(3, .ref (ad 1)), (2, .ref (ad 4)), (0, .ref (ad 0)), (1, vI z)] [vI ((up (F 5) 4 ((F 5 4) + 1)) 8), vI 8, .ref (ad 7)] ((liW (vG X) ad (up (up F 0 (up (F 0) 6 z)) 5 (up (F 5) 4 ((F 5 4) + 1))) K))
        rw [up_n (show (8 : Int) ≠ 4 by decide)]
        refine v_aload_n C dX3_sendTurn_64 rfl 2 rfl ?_
        refine v_get (v := vI (F 0 5)) C inw_3 0 6 rfl (by decide) (List.mem_cons_of_mem _ mw_56) rfl rfl dX3_sendTurn_65 ?_
        refine v_iadd C dX3_sendTurn_68 ?_
        refine v_iast C 7 rfl (by decide) (by decide) (by decide) dX3_sendTurn_69 (ws' := (liW (vG X) ad (up (up F 0 (up (F 0) 6 z)) 5 (up (up (F 5) 4 ((F 5 4) + 1)) 8 ((F 5 8) + (F 0 5)))) K)) rfl ?_
        exact v_vret C E rfl dX3_sendTurn_70 (by decide) (by decide) (⟨rfl, by rw [show (stLn z F) = (up (up F 0 (up (F 0) 6 z)) 5 (up (up (F 5) 4 ((F 5 4) + 1)) 8 ((F 5 8) + (F 0 5)))) from ((if_neg (by omega)).trans ((if_pos c34).trans (if_neg c53)))]⟩)
    · skip
      refine v_aload_n C dX3_sendTurn_37 rfl 2 rfl ?_
      refine v_get (v := .ref (ad 7)) C inw_3 0 2 rfl (by decide) (List.mem_cons_of_mem _ mw_52) rfl rfl dX3_sendTurn_38 ?_
      refine v_iconst C dX3_sendTurn_41 ?_
      refine v_dup2 C dX3_sendTurn_42 rfl rfl ?_
      refine v_iald C 7 rfl (by decide) (by decide) (by decide) dX3_sendTurn_43 ?_
      show V X 0 0 44 [(3, .ref (ad 1)), (2, .ref (ad 4)), (0, .ref (ad 0)), (1, vI z)] [vI ((up (F 5) 4 ((F 5 4) + 1)) 5), vI 5, .ref (ad 7)] ((liW (vG X) ad (up F 5 (up (F 5) 4 ((F 5 4) + 1))) K))
      rw [up_n (show (5 : Int) ≠ 4 by decide)]
      refine v_iconst C dX3_sendTurn_44 ?_
      refine v_iadd C dX3_sendTurn_45 ?_
      refine v_iast C 7 rfl (by decide) (by decide) (by decide) dX3_sendTurn_46 (ws' := (liW (vG X) ad (up F 5 (up (up (F 5) 4 ((F 5 4) + 1)) 5 ((F 5 5) + 1))) K)) rfl ?_
      refine v_aload_n C dX3_sendTurn_47 rfl 2 rfl ?_
      refine v_iload_n C dX3_sendTurn_48 rfl 3 rfl ?_
      refine v_put C inw_3 tyX3 tyX3_ok nmX3 0 9 rfl (by decide) (List.mem_cons_of_mem _ mw_128) rfl rfl (nb_01 (by omega)) (fb_01 (by omega)) (Nat.le_of_ble_eq_true rfl) dX3_sendTurn_49 (ws' := (liW (vG X) ad (up (up F 0 (up (F 0) 6 z)) 5 (up (up (F 5) 4 ((F 5 4) + 1)) 5 ((F 5 5) + 1))) K)) rfl ?_
      refine v_iload_n C dX3_sendTurn_52 rfl 3 rfl ?_
      refine v_if_eq (tgt := 71) C dX3_sendTurn_53 (by decide) (by  first | assumption | exact ⟨by omega, by omega⟩) (fun c53 => ?_) (fun c53 => ?_)
      · skip
        refine v_aload_n C dX3_sendTurn_71 rfl 0 rfl ?_
        refine v_aload_n C dX3_sendTurn_72 rfl 1 rfl ?_
        refine v_callV (na := 1) (wy := (Cond.code yX5_noteHeadOf cX5_noteHeadOf 3 none :: wsL_law)) (wc := (stW (vG X) (ad 1) (ad 2) (ad 3) (F 1) (F 3) (K 0)) ++ (stW (vG X) (ad 4) (ad 5) (ad 6) (F 2) (F 4) (K 1))) (wr := [((ad 0), .inr (3, [.ref (ad 1), .ref (ad 4), .ref (ad 7), .ref (ad 8), vI (F 0 7), vI (F 0 4), vI (F 0 5), vI (F 0 1), vI (F 0 2), vI z, vI (F 0 9)])), ((ad 7), .inl ((vG X).2 1, 10, .inl (fI (up (up (F 5) 4 ((F 5 4) + 1)) 5 ((F 5 5) + 1))))), ((ad 8), .inl ((vG X).2 2, 32, .inr (.inl (fL (K 2)))))]) C [.ref (ad 4)] [] (c_X5_noteHeadOf _ _ (ad 1) (ad 2) (ad 3) (F 1) (F 3) (K 0) (ad 4) (ad 5) (ad 6) (F 2) (F 4) (K 1) (sB_mono (by decide) (hf 1)) (sB_mono (by decide) (hf 2))) rfl (gwV mw_627 mw_624 mw_625 mw_626 mw_48) rfl (by decide +kernel) 0 rfl rfl rfl rfl (Sb.pl [1, 2, 3, 4, 5, 6, 0, 7, 8] rfl rfl) rfl rfl dX3_sendTurn_73 (fun r w1 hp73_11 => ?_)
        obtain ⟨rfl, rfl⟩ := hp73_11
        have hnh73 : sB 1000000000 (nhF (F 1) (F 2)) := nhF_B (sB_mono (by decide) (hf 1)) (sB_mono (by decide) (hf 2))
        refine V.sb (ws' := (liW (vG X) ad (up (up (up F 0 (up (F 0) 6 z)) 1 (nhF (F 1) (F 2))) 5 (up (up (F 5) 4 ((F 5 4) + 1)) 5 ((F 5 5) + 1))) K)) (Sb.pl [6, 0, 1, 2, 3, 4, 5, 7, 8] rfl rfl) ?_
        show V X 0 0 76 [(3, .ref (ad 1)), (2, .ref (ad 4)), (0, .ref (ad 0)), (1, vI z)] [] ((liW (vG X) ad (up (up (up F 0 (up (F 0) 6 z)) 1 (nhF (F 1) (F 2))) 5 (up (up (F 5) 4 ((F 5 4) + 1)) 5 ((F 5 5) + 1))) K))
        refine v_aload_n C dX3_sendTurn_76 rfl 1 rfl ?_
        refine v_dup C dX3_sendTurn_77 rfl ?_
        refine v_getN (v := vI (F 2 9)) C inw_5 4 12 rfl (by decide) nw_16 rfl rfl dX3_sendTurn_78 ?_
        refine v_iconst C dX3_sendTurn_81 ?_
        refine v_iadd C dX3_sendTurn_82 ?_
        refine v_putN C inw_5 tyX5 tyX5_ok nmX5 4 12 rfl (by decide) nw_16 rfl rfl rfl rfl (Nat.le_of_ble_eq_true rfl) dX3_sendTurn_83 (ws' := (liW (vG X) ad (up (up (up (up F 0 (up (F 0) 6 z)) 1 (nhF (F 1) (F 2))) 2 (up (F 2) 9 ((F 2 9) + 1))) 5 (up (up (F 5) 4 ((F 5 4) + 1)) 5 ((F 5 5) + 1))) K)) rfl ?_
        refine v_aload_n C dX3_sendTurn_86 rfl 2 rfl ?_
        refine v_iconst C dX3_sendTurn_87 ?_
        refine v_aload_n C dX3_sendTurn_88 rfl 2 rfl ?_
        refine v_get (v := vI (F 0 1)) C inw_3 0 7 rfl (by decide) (List.mem_cons_of_mem _ mw_189) rfl rfl dX3_sendTurn_89 ?_
        refine v_isub C dX3_sendTurn_92 ?_
        refine v_put C inw_3 tyX3 tyX3_ok nmX3 0 7 rfl (by decide) (List.mem_cons_of_mem _ mw_189) rfl rfl rfl rfl (Nat.le_of_ble_eq_true rfl) dX3_sendTurn_93 (ws' := (liW (vG X) ad (up (up (up (up F 0 (up (up (F 0) 6 z) 1 (1 - (F 0 1)))) 1 (nhF (F 1) (F 2))) 2 (up (F 2) 9 ((F 2 9) + 1))) 5 (up (up (F 5) 4 ((F 5 4) + 1)) 5 ((F 5 5) + 1))) K)) rfl ?_
        refine v_aload_n C dX3_sendTurn_96 rfl 2 rfl ?_
        refine v_iconst C dX3_sendTurn_97 ?_
        refine v_put C inw_3 tyX3 tyX3_ok nmX3 0 8 rfl (by decide) (List.mem_cons_of_mem _ mw_127) rfl rfl rfl rfl (Nat.le_of_ble_eq_true rfl) dX3_sendTurn_98 (ws' := (liW (vG X) ad (up (up (up (up F 0 (up (up (up (F 0) 6 z) 1 (1 - (F 0 1))) 2 0)) 1 (nhF (F 1) (F 2))) 2 (up (F 2) 9 ((F 2 9) + 1))) 5 (up (up (F 5) 4 ((F 5 4) + 1)) 5 ((F 5 5) + 1))) K)) rfl ?_
        refine v_aload_n C dX3_sendTurn_101 rfl 0 rfl ?_
        refine v_aload_n C dX3_sendTurn_102 rfl 1 rfl ?_
        refine v_getN (v := vI (F 2 4)) C inw_5 4 6 rfl (by decide) nw_9 rfl rfl dX3_sendTurn_103 ?_
        refine v_callV (na := 1) (wy := (Cond.code yX5_returnCapacity cX5_returnCapacity 4 none :: wsL_law)) (wc := (stW (vG X) (ad 1) (ad 2) (ad 3) (nhF (F 1) (F 2)) (F 3) (K 0))) (wr := [((ad 0), .inr (3, [.ref (ad 1), .ref (ad 4), .ref (ad 7), .ref (ad 8), vI (F 0 7), vI (F 0 4), vI (F 0 5), vI (1 - (F 0 1)), vI 0, vI z, vI (F 0 9)])), ((ad 4), .inr (5, [.ref (ad 5), .ref (ad 6), vI (F 2 0), vI (F 2 1), vI (F 2 2), vI (F 2 3), vI (F 2 4), vI (F 2 5), vI (F 2 10), vI (F 2 6), vI (F 2 7), vI (F 2 8), vI ((F 2 9) + 1)])), ((ad 5), .inl ((vG X).2 1, 20, .inl (fI (F 4)))), ((ad 6), .inl ((vG X).2 2, 20, .inr (.inl (fL (K 1))))), ((ad 7), .inl ((vG X).2 1, 10, .inl (fI (up (up (F 5) 4 ((F 5 4) + 1)) 5 ((F 5 5) + 1))))), ((ad 8), .inl ((vG X).2 2, 32, .inr (.inl (fL (K 2)))))]) C [vI (F 2 4)] [] (c_X5_returnCapacity _ _ (ad 1) (ad 2) (ad 3) (nhF (F 1) (F 2)) (F 3) (K 0) (F 2 4) (sB_mono (by decide) hnh73) (by have := hf 2 4; first | assumption | exact ⟨by omega, by omega⟩)) rfl (gwV mw_636 mw_633 mw_634 mw_635 mw_48) rfl (by decide +kernel) 0 rfl rfl rfl rfl (Sb.pl [1, 2, 3, 0, 4, 5, 6, 7, 8] rfl rfl) rfl rfl dX3_sendTurn_106 (fun r w1 hp106_12 => ?_)
        obtain ⟨rfl, rfl⟩ := hp106_12
        refine V.sb (ws' := (liW (vG X) ad (up (up (up (up F 0 (up (up (up (F 0) 6 z) 1 (1 - (F 0 1))) 2 0)) 1 (rcF (F 2 4) (nhF (F 1) (F 2)))) 2 (up (F 2) 9 ((F 2 9) + 1))) 5 (up (up (F 5) 4 ((F 5 4) + 1)) 5 ((F 5 5) + 1))) K)) (Sb.pl [3, 0, 1, 2, 4, 5, 6, 7, 8] rfl rfl) ?_
        show V X 0 0 109 [(3, .ref (ad 1)), (2, .ref (ad 4)), (0, .ref (ad 0)), (1, vI z)] [] ((liW (vG X) ad (up (up (up (up F 0 (up (up (up (F 0) 6 z) 1 (1 - (F 0 1))) 2 0)) 1 (rcF (F 2 4) (nhF (F 1) (F 2)))) 2 (up (F 2) 9 ((F 2 9) + 1))) 5 (up (up (F 5) 4 ((F 5 4) + 1)) 5 ((F 5 5) + 1))) K))
        exact v_vret C E rfl dX3_sendTurn_109 (by decide) (by decide) (⟨rfl, by rw [show (stLn z F) = (up (up (up (up F 0 (up (up (up (F 0) 6 z) 1 (1 - (F 0 1))) 2 0)) 1 (rcF (F 2 4) (nhF (F 1) (F 2)))) 2 (up (F 2) 9 ((F 2 9) + 1))) 5 (up (up (F 5) 4 ((F 5 4) + 1)) 5 ((F 5 5) + 1))) from ((if_neg (by omega)).trans ((if_neg c34).trans (if_pos c53)))]⟩)
      · skip
        refine v_aload_n C dX3_sendTurn_56 rfl 2 rfl ?_
        refine v_get (v := .ref (ad 7)) C inw_3 0 2 rfl (by decide) (List.mem_cons_of_mem _ mw_52) rfl rfl dX3_sendTurn_57 ?_
        refine v_bipush C dX3_sendTurn_60 (by decide +kernel) ?_
        refine v_dup2 C dX3_sendTurn_62 rfl rfl ?_
        refine v_iald C 7 rfl (by decide) (by decide) (by decide) dX3_sendTurn_63 ?_
        show V X 0 0 64 [(3, .ref (ad 1)), (2, .ref (ad 4)), (0, .ref (ad 0)), (1, vI z)] [vI ((up (up (F 5) 4 ((F 5 4) + 1)) 5 ((F 5 5) + 1)) 8), vI 8, .ref (ad 7)] ((liW (vG X) ad (up (up F 0 (up (F 0) 6 z)) 5 (up (up (F 5) 4 ((F 5 4) + 1)) 5 ((F 5 5) + 1))) K))
        rw [up_n (show (8 : Int) ≠ 5 by decide), up_n (show (8 : Int) ≠ 4 by decide)]
        refine v_aload_n C dX3_sendTurn_64 rfl 2 rfl ?_
        refine v_get (v := vI (F 0 5)) C inw_3 0 6 rfl (by decide) (List.mem_cons_of_mem _ mw_56) rfl rfl dX3_sendTurn_65 ?_
        refine v_iadd C dX3_sendTurn_68 ?_
        refine v_iast C 7 rfl (by decide) (by decide) (by decide) dX3_sendTurn_69 (ws' := (liW (vG X) ad (up (up F 0 (up (F 0) 6 z)) 5 (up (up (up (F 5) 4 ((F 5 4) + 1)) 5 ((F 5 5) + 1)) 8 ((F 5 8) + (F 0 5)))) K)) rfl ?_
        exact v_vret C E rfl dX3_sendTurn_70 (by decide) (by decide) (⟨rfl, by rw [show (stLn z F) = (up (up F 0 (up (F 0) 6 z)) 5 (up (up (up (F 5) 4 ((F 5 4) + 1)) 5 ((F 5 5) + 1)) 8 ((F 5 8) + (F 0 5)))) from ((if_neg (by omega)).trans ((if_neg c34).trans (if_neg c53)))]⟩)
end C3
