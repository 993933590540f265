section M4
set_option maxHeartbeats 4000000 in
set_option maxRecDepth 100000 in
theorem c_X8_goes (G : GG) (l : Launch) (ad : Nat → Nat) (F : Int → Int → Int) (rd lost b : Int) (hrd : rd = 0 ∨ rd = 1) (hlo : sm lost) (hb : 0 ≤ b ∧ b ≤ 7) (hB : sB 1000000 (F 2)) (h70 : 0 ≤ F 2 7) (h7 : F 2 7 ≤ 40) (hok : ∀ k : Nat, k < 600 → OKs (itF rd (gsF rd lost b (F 2)) k)) (hbd : ∀ k : Nat, k ≤ 600 → sB 1000000 (itF rd (gsF rd lost b (F 2)) k)) (hfr : ∀ k : Nat, k ≤ 600 → itF rd (gsF rd lost b (F 2)) k 3 = F 2 3 + k) : Ct G l yX8_goes (Cond.code yX8_goes cX8_goes 5 (some .boolean) :: wsL_law) 6 135 0 0 [.ref (ad 0), vI rd, vI lost, vI b] ((mW G ad F)) (fun r w => ∃ (x y z : Int) (f4 f8 f9 : Int → Int), r = some (vI (bI (goO rd lost b (F 2)))) ∧ w = mW G ad (up (up (up (up F 0 (up (up (up (up (up (up (F 0) 20 x) 22 y) 23 z) 24 0) 25 (goT rd lost b (F 2))) 26 (goN rd lost b (F 2)))) 4 f4) 8 f8) 9 f9)) := by
  refine Ct.of (own := RX8) (cc := cX8_goes) (maxL := 5) (ret := (some .boolean)) (by decide) rfl rfl (Nat.le_of_ble_eq_true rfl) (fun X C E M hG hl => ?_)
  subst hG hl
  refine v_aload_n C dX8_goes_0 rfl 0 rfl ?_
  refine v_get (v := .ref (ad 2)) C inw_8 0 10 rfl (by decide) (List.mem_cons_of_mem _ mw_105) rfl rfl dX8_goes_1 ?_
  refine v_iconst C dX8_goes_4 ?_
  refine v_aload_n C dX8_goes_5 rfl 0 rfl ?_
  refine v_get (v := .ref (ad 4)) C inw_8 0 12 rfl (by decide) (List.mem_cons_of_mem _ mw_107) rfl rfl dX8_goes_6 ?_
  refine v_iconst C dX8_goes_9 ?_
  refine v_callS (na := 4) (wy := (Cond.code yX8_copy cX8_copy 5 none :: wsL_law)) (wc := [((ad 2), .inl ((vG X).2 1, 441, .inl (fI (F 2)))), ((ad 4), .inl ((vG X).2 1, 441, .inl (fI (F 4))))]) (wr := [((ad 0), .inr (8, [vI (F 0 0), .ref (ad 1), vI (F 0 2), vI (F 0 3), vI (F 0 4), vI (F 0 5), vI (F 0 6), vI (F 0 7), vI (F 0 8), vI (F 0 9), .ref (ad 2), .ref (ad 3), .ref (ad 4), .ref (ad 5), vI (F 0 14), .ref (ad 6), .ref (ad 7), vI (F 0 17), vI (F 0 18), .ref (ad 8), vI (F 0 20), .ref (ad 9), vI (F 0 22), vI (F 0 23), vI (F 0 24), vI (F 0 25), vI (F 0 26)])), ((ad 1), .inl ((vG X).2 0, 700, .inl (fI (F 1)))), ((ad 3), .inl ((vG X).2 1, 441, .inl (fI (F 3)))), ((ad 5), .inl ((vG X).2 1, 4410, .inl (fI (F 5)))), ((ad 6), .inl ((vG X).2 1, 882, .inl (fI (F 6)))), ((ad 7), .inl ((vG X).2 3, 2, .inl (fI (F 7)))), ((ad 8), .inl ((vG X).2 1, 15, .inl (fI (F 8)))), ((ad 9), .inl ((vG X).2 1, 40, .inl (fI (F 9))))]) C [.ref (ad 2), vI 0, .ref (ad 4), vI 0] [] (c_X8_copy _ _ (ad 2) (ad 4) 441 441 (F 2) (F 4) 0 0 (by omega) (by omega) (by decide) (by omega) (by omega) (by decide)) rfl (gwS mw_350 mw_348 mw_349 mw_5) (by decide +kernel) rfl rfl (Sb.pl [2, 4, 0, 1, 3, 5, 6, 7, 8, 9] rfl rfl) rfl rfl dX8_goes_10 (fun r w1 hp10_1 => ?_)
  obtain ⟨rfl, rfl⟩ := hp10_1
  refine V.sb (ws' := (mW (vG X) ad (up F 4 (cpF (F 2) (F 4) 0 0 441)))) (Sb.pl [2, 3, 0, 4, 1, 5, 6, 7, 8, 9] rfl rfl) ?_
  show V X 0 0 13 [(0, .ref (ad 0)), (1, vI rd), (2, vI lost), (3, vI b)] [] ((mW (vG X) ad (up F 4 (cpF (F 2) (F 4) 0 0 441))))
  refine v_aload_n C dX8_goes_13 rfl 0 rfl ?_
  refine v_iload_n C dX8_goes_14 rfl 1 rfl ?_
  refine v_put C inw_8 tyX8 tyX8_ok nmX8 0 24 rfl (by decide) (List.mem_cons_of_mem _ mw_646) rfl rfl (nb_01 hrd) (fb_01 hrd) (Nat.le_of_ble_eq_true rfl) dX8_goes_15 (ws' := (mW (vG X) ad (up (up F 0 (up (F 0) 24 rd)) 4 (cpF (F 2) (F 4) 0 0 441)))) rfl ?_
  refine v_aload_n C dX8_goes_18 rfl 0 rfl ?_
  refine v_get (v := .ref (ad 2)) C inw_8 0 10 rfl (by decide) (List.mem_cons_of_mem _ mw_105) rfl rfl dX8_goes_19 ?_
  refine v_iconst C dX8_goes_22 ?_
  refine v_iload_n C dX8_goes_23 rfl 3 rfl ?_
  refine v_iast C 2 rfl (by decide) (by decide) (by decide) dX8_goes_24 (ws' := (mW (vG X) ad (up (up (up F 0 (up (F 0) 24 rd)) 2 (up (F 2) 4 b)) 4 (cpF (F 2) (F 4) 0 0 441)))) rfl ?_
  refine v_iload_n C dX8_goes_25 rfl 1 rfl ?_
  suffices lp1 : V X 0 0 33 [(0, .ref (ad 0)), (1, vI rd), (2, vI lost), (3, vI b)] [] ((mW (vG X) ad (up (up (up F 0 (up (F 0) 24 rd)) 2 (gs1 rd b (F 2))) 4 (cpF (F 2) (F 4) 0 0 441)))) by
    refine v_if_eq (tgt := 33) C dX8_goes_26 (by decide) (by  first | assumption | exact ⟨by omega, by omega⟩) (fun c26 => ?_) (fun c26 => ?_)
    · skip
      rw [show (gs1 rd b (F 2)) = (up (F 2) 4 b) from if_pos c26] at lp1
      exact lp1
    · skip
      refine v_aload_n C dX8_goes_29 rfl 0 rfl ?_
      refine v_callV (na := 0) (wy := (Cond.code yX8_readsAll cX8_readsAll 2 none :: wsL_law)) (wc := (mW (vG X) ad (up (up (up F 0 (up (F 0) 24 rd)) 2 (up (F 2) 4 b)) 4 (cpF (F 2) (F 4) 0 0 441)))) (wr := []) C [] [] (c_X8_readsAll _ _ ad (up (up (up F 0 (up (F 0) 24 rd)) 2 (up (F 2) 4 b)) 4 (cpF (F 2) (F 4) 0 0 441)) ) rfl (gwV mw_650 mw_647 mw_648 mw_649 mw_5) rfl (by decide +kernel) 0 rfl rfl rfl rfl Sb.w rfl rfl dX8_goes_30 (fun r w1 hp30_2 => ?_)
      obtain ⟨rfl, rfl⟩ := hp30_2
      show V X 0 0 33 [(0, .ref (ad 0)), (1, vI rd), (2, vI lost), (3, vI b)] [] ((mW (vG X) ad (up (up (up F 0 (up (F 0) 24 rd)) 2 (rdF (up (F 2) 4 b))) 4 (cpF (F 2) (F 4) 0 0 441))))
      rw [show (gs1 rd b (F 2)) = (rdF (up (F 2) 4 b)) from if_neg c26] at lp1
      exact lp1
  have hB1 : sB 1000000 (gs1 rd b (F 2)) := gs1_B hB hb
  have e7 : (gs1 rd b (F 2)) 7 = F 2 7 := gs1_at (by decide) (by decide) (by decide)
  have e3 : (gs1 rd b (F 2)) 3 = F 2 3 := gs1_at (by decide) (by decide) (by decide)
  suffices lp2 : V X 0 0 79 [(0, .ref (ad 0)), (1, vI rd), (2, vI lost), (3, vI b)] [] ((mW (vG X) ad (up (up (up F 0 (up (F 0) 24 rd)) 2 (gsF rd lost b (F 2))) 4 (cpF (F 2) (F 4) 0 0 441)))) by
    refine v_iload_n C dX8_goes_33 rfl 2 rfl ?_
    refine v_aload_n C dX8_goes_34 rfl 0 rfl ?_
    refine v_get (v := .ref (ad 2)) C inw_8 0 10 rfl (by decide) (List.mem_cons_of_mem _ mw_105) rfl rfl dX8_goes_35 ?_
    refine v_iconst C dX8_goes_38 ?_
    refine v_iald C 2 rfl (by decide) (by decide) (by decide) dX8_goes_39 ?_
    show V X 0 0 40 [(0, .ref (ad 0)), (1, vI rd), (2, vI lost), (3, vI b)] [vI ((gs1 rd b (F 2)) 3), vI lost] ((mW (vG X) ad (up (up (up F 0 (up (F 0) 24 rd)) 2 (gs1 rd b (F 2))) 4 (cpF (F 2) (F 4) 0 0 441))))
    refine v_icmp_lt (tgt := 79) C dX8_goes_40 (by decide) (by  first | assumption | exact ⟨by omega, by omega⟩) (by have := hB1 3; first | assumption | exact ⟨by omega, by omega⟩) (fun c40 => ?_) (fun c40 => ?_)
    · skip
      rw [show (gsF rd lost b (F 2)) = (gs1 rd b (F 2)) from if_pos c40] at lp2
      exact lp2
    · skip
      refine v_aload_n C dX8_goes_43 rfl 0 rfl ?_
      refine v_iload_n C dX8_goes_44 rfl 2 rfl ?_
      refine v_callV (na := 1) (wy := (Cond.code yX8_isLost cX8_isLost 4 (some .boolean) :: wsL_law)) (wc := (mW (vG X) ad (up (up (up F 0 (up (F 0) 24 rd)) 2 (gs1 rd b (F 2))) 4 (cpF (F 2) (F 4) 0 0 441)))) (wr := []) C [vI lost] [] (c_X8_isLost _ _ ad (up (up (up F 0 (up (F 0) 24 rd)) 2 (gs1 rd b (F 2))) 4 (cpF (F 2) (F 4) 0 0 441)) lost (sB_mono (by decide) hB1) (by first | assumption | exact ⟨by omega, by omega⟩) (show 0 ≤ (gs1 rd b (F 2)) 7 by omega) (show (gs1 rd b (F 2)) 7 ≤ 41 by omega)) rfl (gwV mw_408 mw_405 mw_406 mw_407 mw_5) rfl (by decide +kernel) 0 rfl rfl rfl rfl Sb.w rfl rfl dX8_goes_45 (fun r w1 hp45_3 => ?_)
      obtain ⟨rfl, rfl⟩ := hp45_3
      have hlz45 := lz_01 (gs1 rd b (F 2)) lost
      show V X 0 0 48 [(0, .ref (ad 0)), (1, vI rd), (2, vI lost), (3, vI b)] [vI (lz (gs1 rd b (F 2)) lost)] ((mW (vG X) ad (up (up (up F 0 (up (F 0) 24 rd)) 2 (gs1 rd b (F 2))) 4 (cpF (F 2) (F 4) 0 0 441))))
      refine v_if_ne (tgt := 79) C dX8_goes_48 (by decide) (by  first | assumption | exact ⟨by omega, by omega⟩) (fun c48 => ?_) (fun c48 => ?_)
      · skip
        rw [show (gsF rd lost b (F 2)) = (gs1 rd b (F 2)) from (if_neg c40).trans (if_neg c48)] at lp2
        exact lp2
      · skip
        refine v_aload_n C dX8_goes_51 rfl 0 rfl ?_
        refine v_get (v := .ref (ad 2)) C inw_8 0 10 rfl (by decide) (List.mem_cons_of_mem _ mw_105) rfl rfl dX8_goes_52 ?_
        refine v_sipush C dX8_goes_55 (by decide +kernel) ?_
        refine v_aload_n C dX8_goes_58 rfl 0 rfl ?_
        refine v_get (v := .ref (ad 2)) C inw_8 0 10 rfl (by decide) (List.mem_cons_of_mem _ mw_105) rfl rfl dX8_goes_59 ?_
        refine v_bipush C dX8_goes_62 (by decide +kernel) ?_
        refine v_iald C 2 rfl (by decide) (by decide) (by decide) dX8_goes_64 ?_
        show V X 0 0 65 [(0, .ref (ad 0)), (1, vI rd), (2, vI lost), (3, vI b)] [vI ((gs1 rd b (F 2)) 7), vI 400, .ref (ad 2)] ((mW (vG X) ad (up (up (up F 0 (up (F 0) 24 rd)) 2 (gs1 rd b (F 2))) 4 (cpF (F 2) (F 4) 0 0 441))))
        refine v_iadd C dX8_goes_65 ?_
        refine v_iload_n C dX8_goes_66 rfl 2 rfl ?_
        refine v_iast C 2 rfl (by have := hB1 7; omega) (by have := hB1 7; omega) (by decide) dX8_goes_67 (ws' := (mW (vG X) ad (up (up (up F 0 (up (F 0) 24 rd)) 2 (up (gs1 rd b (F 2)) (400 + ((gs1 rd b (F 2)) 7)) lost)) 4 (cpF (F 2) (F 4) 0 0 441)))) rfl ?_
        refine v_aload_n C dX8_goes_68 rfl 0 rfl ?_
        refine v_get (v := .ref (ad 2)) C inw_8 0 10 rfl (by decide) (List.mem_cons_of_mem _ mw_105) rfl rfl dX8_goes_69 ?_
        refine v_bipush C dX8_goes_72 (by decide +kernel) ?_
        refine v_dup2 C dX8_goes_74 rfl rfl ?_
        refine v_iald C 2 rfl (by decide) (by decide) (by decide) dX8_goes_75 ?_
        show V X 0 0 76 [(0, .ref (ad 0)), (1, vI rd), (2, vI lost), (3, vI b)] [vI ((up (gs1 rd b (F 2)) (400 + ((gs1 rd b (F 2)) 7)) lost) 7), vI 7, .ref (ad 2)] ((mW (vG X) ad (up (up (up F 0 (up (F 0) 24 rd)) 2 (up (gs1 rd b (F 2)) (400 + ((gs1 rd b (F 2)) 7)) lost)) 4 (cpF (F 2) (F 4) 0 0 441))))
        rw [up_n (show (7 : Int) ≠ (400 + ((gs1 rd b (F 2)) 7)) by have := hB1 7; omega)]
        refine v_iconst C dX8_goes_76 ?_
        refine v_iadd C dX8_goes_77 ?_
        refine v_iast C 2 rfl (by decide) (by decide) (by decide) dX8_goes_78 (ws' := (mW (vG X) ad (up (up (up F 0 (up (F 0) 24 rd)) 2 (up (up (gs1 rd b (F 2)) (400 + ((gs1 rd b (F 2)) 7)) lost) 7 (((gs1 rd b (F 2)) 7) + 1))) 4 (cpF (F 2) (F 4) 0 0 441)))) rfl ?_
        rw [show (gsF rd lost b (F 2)) = (up (up (gs1 rd b (F 2)) (400 + ((gs1 rd b (F 2)) 7)) lost) 7 (((gs1 rd b (F 2)) 7) + 1)) from (if_neg c40).trans (if_pos c48)] at lp2
        exact lp2
  have ex : ∀ (k : Nat) (x y z : Int) (f8 f9 : Int → Int), k ≤ 600 → (∀ j : Nat, j < k → ¬ isOverP (itF rd (gsF rd lost b (F 2)) j)) → (isOverP (itF rd (gsF rd lost b (F 2)) k) ∨ k = 600) → V X 0 0 112 [(0, .ref (ad 0)), (1, vI rd), (2, vI lost), (3, vI b)] [] ((mW (vG X) ad (up (up (up (up (up F 0 (up (up (up (up (F 0) 20 x) 22 y) 23 z) 24 rd)) 2 (itF rd (gsF rd lost b (F 2)) k)) 4 (cpF (F 2) (F 4) 0 0 441)) 8 (f8)) 9 (f9)))) := by
    intro k x y z f8 f9 hk hno hov
    have hBk := hbd k hk
    have hfk := hfr k hk
    refine v_aload_n C dX8_goes_112 rfl 0 rfl ?_
    refine v_callV (na := 0) (wy := (Cond.code yX8_isOver cX8_isOver 1 (some .boolean) :: wsL_law)) (wc := (mW (vG X) ad (up (up (up (up (up F 0 (up (up (up (up (F 0) 20 x) 22 y) 23 z) 24 rd)) 2 (itF rd (gsF rd lost b (F 2)) k)) 4 (cpF (F 2) (F 4) 0 0 441)) 8 (f8)) 9 (f9)))) (wr := []) C [] [] (c_X8_isOver _ _ ad (up (up (up (up (up F 0 (up (up (up (up (F 0) 20 x) 22 y) 23 z) 24 rd)) 2 (itF rd (gsF rd lost b (F 2)) k)) 4 (cpF (F 2) (F 4) 0 0 441)) 8 (f8)) 9 (f9)) (sB_mono (by decide) hBk)) rfl (gwV mw_654 mw_651 mw_652 mw_653 mw_5) rfl (by decide +kernel) 0 rfl rfl rfl rfl Sb.w rfl rfl dX8_goes_113 (fun r w1 hp113_4 => ?_)
    obtain ⟨rfl, rfl⟩ := hp113_4
    show V X 0 0 116 [(0, .ref (ad 0)), (1, vI rd), (2, vI lost), (3, vI b)] [vI (bI (isOverP (itF rd (gsF rd lost b (F 2)) k)))] ((mW (vG X) ad (up (up (up (up (up F 0 (up (up (up (up (F 0) 20 x) 22 y) 23 z) 24 rd)) 2 (itF rd (gsF rd lost b (F 2)) k)) 4 (cpF (F 2) (F 4) 0 0 441)) 8 (f8)) 9 (f9))))
    refine v_istore C M dX8_goes_116 (by decide) (L' := [(4, vI (bI (isOverP (itF rd (gsF rd lost b (F 2)) k)))), (0, .ref (ad 0)), (1, vI rd), (2, vI lost), (3, vI b)]) rfl ?_
    refine v_aload_n C dX8_goes_118 rfl 1 rfl ?_
    refine v_aload_n C dX8_goes_119 rfl 1 rfl ?_
    refine v_get (v := .ref (ad 2)) C inw_8 0 10 rfl (by decide) (List.mem_cons_of_mem _ mw_105) rfl rfl dX8_goes_120 ?_
    refine v_iconst C dX8_goes_123 ?_
    refine v_iald C 2 rfl (by decide) (by decide) (by decide) dX8_goes_124 ?_
    show V X 0 0 125 [(4, vI (bI (isOverP (itF rd (gsF rd lost b (F 2)) k)))), (0, .ref (ad 0)), (1, vI rd), (2, vI lost), (3, vI b)] [vI ((itF rd (gsF rd lost b (F 2)) k) 0), .ref (ad 0)] ((mW (vG X) ad (up (up (up (up (up F 0 (up (up (up (up (F 0) 20 x) 22 y) 23 z) 24 rd)) 2 (itF rd (gsF rd lost b (F 2)) k)) 4 (cpF (F 2) (F 4) 0 0 441)) 8 (f8)) 9 (f9))))
    refine v_aload_n C dX8_goes_125 rfl 1 rfl ?_
    refine v_get (v := .ref (ad 4)) C inw_8 0 12 rfl (by decide) (List.mem_cons_of_mem _ mw_107) rfl rfl dX8_goes_126 ?_
    refine v_iconst C dX8_goes_129 ?_
    refine v_iald C 4 rfl (by decide) (by decide) (by decide) dX8_goes_130 ?_
    show V X 0 0 131 [(4, vI (bI (isOverP (itF rd (gsF rd lost b (F 2)) k)))), (0, .ref (ad 0)), (1, vI rd), (2, vI lost), (3, vI b)] [vI ((cpF (F 2) (F 4) 0 0 441) 0), vI ((itF rd (gsF rd lost b (F 2)) k) 0), .ref (ad 0)] ((mW (vG X) ad (up (up (up (up (up F 0 (up (up (up (up (F 0) 20 x) 22 y) 23 z) 24 rd)) 2 (itF rd (gsF rd lost b (F 2)) k)) 4 (cpF (F 2) (F 4) 0 0 441)) 8 (f8)) 9 (f9))))
    rw [cpF_in (by decide) (by decide)]
    refine v_isub C dX8_goes_131 ?_
    refine v_put C inw_8 tyX8 tyX8_ok nmX8 0 25 rfl (by decide) (List.mem_cons_of_mem _ mw_640) rfl rfl rfl rfl (Nat.le_of_ble_eq_true rfl) dX8_goes_132 (ws' := (mW (vG X) ad (up (up (up (up (up F 0 (up (up (up (up (up (F 0) 20 x) 22 y) 23 z) 24 rd) 25 (((itF rd (gsF rd lost b (F 2)) k) 0) - (F 2 0)))) 2 (itF rd (gsF rd lost b (F 2)) k)) 4 (cpF (F 2) (F 4) 0 0 441)) 8 (f8)) 9 (f9)))) rfl ?_
    refine v_aload_n C dX8_goes_135 rfl 1 rfl ?_
    refine v_aload_n C dX8_goes_136 rfl 1 rfl ?_
    refine v_get (v := .ref (ad 2)) C inw_8 0 10 rfl (by decide) (List.mem_cons_of_mem _ mw_105) rfl rfl dX8_goes_137 ?_
    refine v_iconst C dX8_goes_140 ?_
    refine v_iald C 2 rfl (by decide) (by decide) (by decide) dX8_goes_141 ?_
    show V X 0 0 142 [(4, vI (bI (isOverP (itF rd (gsF rd lost b (F 2)) k)))), (0, .ref (ad 0)), (1, vI rd), (2, vI lost), (3, vI b)] [vI ((itF rd (gsF rd lost b (F 2)) k) 3), .ref (ad 0)] ((mW (vG X) ad (up (up (up (up (up F 0 (up (up (up (up (up (F 0) 20 x) 22 y) 23 z) 24 rd) 25 (((itF rd (gsF rd lost b (F 2)) k) 0) - (F 2 0)))) 2 (itF rd (gsF rd lost b (F 2)) k)) 4 (cpF (F 2) (F 4) 0 0 441)) 8 (f8)) 9 (f9))))
    refine v_aload_n C dX8_goes_142 rfl 1 rfl ?_
    refine v_get (v := .ref (ad 4)) C inw_8 0 12 rfl (by decide) (List.mem_cons_of_mem _ mw_107) rfl rfl dX8_goes_143 ?_
    refine v_iconst C dX8_goes_146 ?_
    refine v_iald C 4 rfl (by decide) (by decide) (by decide) dX8_goes_147 ?_
    show V X 0 0 148 [(4, vI (bI (isOverP (itF rd (gsF rd lost b (F 2)) k)))), (0, .ref (ad 0)), (1, vI rd), (2, vI lost), (3, vI b)] [vI ((cpF (F 2) (F 4) 0 0 441) 3), vI ((itF rd (gsF rd lost b (F 2)) k) 3), .ref (ad 0)] ((mW (vG X) ad (up (up (up (up (up F 0 (up (up (up (up (up (F 0) 20 x) 22 y) 23 z) 24 rd) 25 (((itF rd (gsF rd lost b (F 2)) k) 0) - (F 2 0)))) 2 (itF rd (gsF rd lost b (F 2)) k)) 4 (cpF (F 2) (F 4) 0 0 441)) 8 (f8)) 9 (f9))))
    rw [cpF_in (by decide) (by decide)]
    refine v_isub C dX8_goes_148 ?_
    rw [show (((itF rd (gsF rd lost b (F 2)) k) 3) - (F 2 3)) = (k : Int) by omega]
    refine v_put C inw_8 tyX8 tyX8_ok nmX8 0 26 rfl (by decide) (List.mem_cons_of_mem _ mw_641) rfl rfl rfl rfl (Nat.le_of_ble_eq_true rfl) dX8_goes_149 (ws' := (mW (vG X) ad (up (up (up (up (up F 0 (up (up (up (up (up (up (F 0) 20 x) 22 y) 23 z) 24 rd) 25 (((itF rd (gsF rd lost b (F 2)) k) 0) - (F 2 0))) 26 (k : Int))) 2 (itF rd (gsF rd lost b (F 2)) k)) 4 (cpF (F 2) (F 4) 0 0 441)) 8 (f8)) 9 (f9)))) rfl ?_
    refine v_aload_n C dX8_goes_152 rfl 1 rfl ?_
    refine v_iconst C dX8_goes_153 ?_
    refine v_put C inw_8 tyX8 tyX8_ok nmX8 0 24 rfl (by decide) (List.mem_cons_of_mem _ mw_646) rfl rfl rfl rfl (Nat.le_of_ble_eq_true rfl) dX8_goes_154 (ws' := (mW (vG X) ad (up (up (up (up (up F 0 (up (up (up (up (up (up (F 0) 20 x) 22 y) 23 z) 25 (((itF rd (gsF rd lost b (F 2)) k) 0) - (F 2 0))) 26 (k : Int)) 24 0)) 2 (itF rd (gsF rd lost b (F 2)) k)) 4 (cpF (F 2) (F 4) 0 0 441)) 8 (f8)) 9 (f9)))) rfl ?_
    refine v_aload_n C dX8_goes_157 rfl 1 rfl ?_
    refine v_get (v := .ref (ad 4)) C inw_8 0 12 rfl (by decide) (List.mem_cons_of_mem _ mw_107) rfl rfl dX8_goes_158 ?_
    refine v_iconst C dX8_goes_161 ?_
    refine v_aload_n C dX8_goes_162 rfl 1 rfl ?_
    refine v_get (v := .ref (ad 2)) C inw_8 0 10 rfl (by decide) (List.mem_cons_of_mem _ mw_105) rfl rfl dX8_goes_163 ?_
    refine v_iconst C dX8_goes_166 ?_
    refine v_callS (na := 4) (wy := (Cond.code yX8_copy cX8_copy 5 none :: wsL_law)) (wc := [((ad 4), .inl ((vG X).2 1, 441, .inl (fI (cpF (F 2) (F 4) 0 0 441)))), ((ad 2), .inl ((vG X).2 1, 441, .inl (fI (itF rd (gsF rd lost b (F 2)) k))))]) (wr := [((ad 0), .inr (8, [vI (F 0 0), .ref (ad 1), vI (F 0 2), vI (F 0 3), vI (F 0 4), vI (F 0 5), vI (F 0 6), vI (F 0 7), vI (F 0 8), vI (F 0 9), .ref (ad 2), .ref (ad 3), .ref (ad 4), .ref (ad 5), vI (F 0 14), .ref (ad 6), .ref (ad 7), vI (F 0 17), vI (F 0 18), .ref (ad 8), vI x, .ref (ad 9), vI y, vI z, vI 0, vI (((itF rd (gsF rd lost b (F 2)) k) 0) - (F 2 0)), vI (k : Int)])), ((ad 1), .inl ((vG X).2 0, 700, .inl (fI (F 1)))), ((ad 3), .inl ((vG X).2 1, 441, .inl (fI (F 3)))), ((ad 5), .inl ((vG X).2 1, 4410, .inl (fI (F 5)))), ((ad 6), .inl ((vG X).2 1, 882, .inl (fI (F 6)))), ((ad 7), .inl ((vG X).2 3, 2, .inl (fI (F 7)))), ((ad 8), .inl ((vG X).2 1, 15, .inl (fI (f8)))), ((ad 9), .inl ((vG X).2 1, 40, .inl (fI (f9))))]) C [.ref (ad 4), vI 0, .ref (ad 2), vI 0] [] (c_X8_copy _ _ (ad 4) (ad 2) 441 441 (cpF (F 2) (F 4) 0 0 441) (itF rd (gsF rd lost b (F 2)) k) 0 0 (by omega) (by omega) (by decide) (by omega) (by omega) (by decide)) rfl (gwS mw_350 mw_348 mw_349 mw_5) (by decide +kernel) rfl rfl (Sb.pl [4, 2, 0, 1, 3, 5, 6, 7, 8, 9] rfl rfl) rfl rfl dX8_goes_167 (fun r w1 hp167_5 => ?_)
    obtain ⟨rfl, rfl⟩ := hp167_5
    refine V.sb (ws' := (mW (vG X) ad (up (up (up (up (up F 0 (up (up (up (up (up (up (F 0) 20 x) 22 y) 23 z) 25 (((itF rd (gsF rd lost b (F 2)) k) 0) - (F 2 0))) 26 (k : Int)) 24 0)) 2 (cpF (cpF (F 2) (F 4) 0 0 441) (itF rd (gsF rd lost b (F 2)) k) 0 0 441)) 4 (cpF (F 2) (F 4) 0 0 441)) 8 (f8)) 9 (f9)))) (Sb.pl [2, 3, 1, 4, 0, 5, 6, 7, 8, 9] rfl rfl) ?_
    show V X 0 0 170 [(4, vI (bI (isOverP (itF rd (gsF rd lost b (F 2)) k)))), (0, .ref (ad 0)), (1, vI rd), (2, vI lost), (3, vI b)] [] ((mW (vG X) ad (up (up (up (up (up F 0 (up (up (up (up (up (up (F 0) 20 x) 22 y) 23 z) 25 (((itF rd (gsF rd lost b (F 2)) k) 0) - (F 2 0))) 26 (k : Int)) 24 0)) 2 (cpF (cpF (F 2) (F 4) 0 0 441) (itF rd (gsF rd lost b (F 2)) k) 0 0 441)) 4 (cpF (F 2) (F 4) 0 0 441)) 8 (f8)) 9 (f9))))
    refine V.sb (ws' := (mW (vG X) ad (up (up (up (up F 0 (up (up (up (up (up (up (F 0) 20 x) 22 y) 23 z) 25 (((itF rd (gsF rd lost b (F 2)) k) 0) - (F 2 0))) 26 (k : Int)) 24 0)) 4 (cpF (F 2) (F 4) 0 0 441)) 8 (f8)) 9 (f9)))) (Sb.arr 2 (f := (cpF (cpF (F 2) (F 4) 0 0 441) (itF rd (gsF rd lost b (F 2)) k) 0 0 441)) (g := F 2) rfl (fun j j0 j1 => by rw [cpF_in j0 j1, cpF_in j0 j1]) rfl) ?_
    refine v_iload C dX8_goes_170 0 rfl ?_
    obtain rfl := goK_u hk hno hov
    exact v_zret C E rfl nb_bI dX8_goes_172 (by decide) (by decide) (⟨x, y, z, _, f8, f9, rfl, rfl⟩)
  have lp : ∀ (n : Nat) (k : Nat) (x : Int) (y : Int) (z : Int) (f8 : Int → Int) (f9 : Int → Int) (hk : k ≤ 600) (hno : ∀ j : Nat, j < k → ¬ isOverP (itF rd (gsF rd lost b (F 2)) j)) (hm : 600 - (k : Int) < (n : Int)), V X 0 0 79 [(0, .ref (ad 0)), (1, vI rd), (2, vI lost), (3, vI b)] [] ((mW (vG X) ad (up (up (up (up (up F 0 (up (up (up (up (F 0) 20 x) 22 y) 23 z) 24 rd)) 2 (itF rd (gsF rd lost b (F 2)) k)) 4 (cpF (F 2) (F 4) 0 0 441)) 8 (f8)) 9 (f9)))) := by
    intro n
    induction n with
    | zero => intro k x y z f8 f9 hk hno hm; exact absurd hm (by omega)
    | succ n ih =>
      intro k x y z f8 f9 hk hno hm
      have hBk := hbd k hk
      have hfk := hfr k hk
      refine v_aload_n C dX8_goes_79 rfl 0 rfl ?_
      refine v_callV (na := 0) (wy := (Cond.code yX8_isOver cX8_isOver 1 (some .boolean) :: wsL_law)) (wc := (mW (vG X) ad (up (up (up (up (up F 0 (up (up (up (up (F 0) 20 x) 22 y) 23 z) 24 rd)) 2 (itF rd (gsF rd lost b (F 2)) k)) 4 (cpF (F 2) (F 4) 0 0 441)) 8 (f8)) 9 (f9)))) (wr := []) C [] [] (c_X8_isOver _ _ ad (up (up (up (up (up F 0 (up (up (up (up (F 0) 20 x) 22 y) 23 z) 24 rd)) 2 (itF rd (gsF rd lost b (F 2)) k)) 4 (cpF (F 2) (F 4) 0 0 441)) 8 (f8)) 9 (f9)) (sB_mono (by decide) hBk)) rfl (gwV mw_654 mw_651 mw_652 mw_653 mw_5) rfl (by decide +kernel) 0 rfl rfl rfl rfl Sb.w rfl rfl dX8_goes_80 (fun r w1 hp80_6 => ?_)
      obtain ⟨rfl, rfl⟩ := hp80_6
      show V X 0 0 83 [(0, .ref (ad 0)), (1, vI rd), (2, vI lost), (3, vI b)] [vI (bI (isOverP (itF rd (gsF rd lost b (F 2)) k)))] ((mW (vG X) ad (up (up (up (up (up F 0 (up (up (up (up (F 0) 20 x) 22 y) 23 z) 24 rd)) 2 (itF rd (gsF rd lost b (F 2)) k)) 4 (cpF (F 2) (F 4) 0 0 441)) 8 (f8)) 9 (f9))))
      refine v_if_ne (tgt := 112) C dX8_goes_83 (by decide) sm_bI (fun c83 => ?_) (fun c83 => ?_)
      · have c83 := bI_n0.mp c83
        exact ex k x y z f8 f9 hk hno (Or.inl c83)
      · have c83 := bI_0.mp c83
        refine v_aload_n C dX8_goes_86 rfl 0 rfl ?_
        refine v_get (v := .ref (ad 2)) C inw_8 0 10 rfl (by decide) (List.mem_cons_of_mem _ mw_105) rfl rfl dX8_goes_87 ?_
        refine v_iconst C dX8_goes_90 ?_
        refine v_iald C 2 rfl (by decide) (by decide) (by decide) dX8_goes_91 ?_
        show V X 0 0 92 [(0, .ref (ad 0)), (1, vI rd), (2, vI lost), (3, vI b)] [vI ((itF rd (gsF rd lost b (F 2)) k) 3)] ((mW (vG X) ad (up (up (up (up (up F 0 (up (up (up (up (F 0) 20 x) 22 y) 23 z) 24 rd)) 2 (itF rd (gsF rd lost b (F 2)) k)) 4 (cpF (F 2) (F 4) 0 0 441)) 8 (f8)) 9 (f9))))
        refine v_aload_n C dX8_goes_92 rfl 0 rfl ?_
        refine v_get (v := .ref (ad 4)) C inw_8 0 12 rfl (by decide) (List.mem_cons_of_mem _ mw_107) rfl rfl dX8_goes_93 ?_
        refine v_iconst C dX8_goes_96 ?_
        refine v_iald C 4 rfl (by decide) (by decide) (by decide) dX8_goes_97 ?_
        show V X 0 0 98 [(0, .ref (ad 0)), (1, vI rd), (2, vI lost), (3, vI b)] [vI ((cpF (F 2) (F 4) 0 0 441) 3), vI ((itF rd (gsF rd lost b (F 2)) k) 3)] ((mW (vG X) ad (up (up (up (up (up F 0 (up (up (up (up (F 0) 20 x) 22 y) 23 z) 24 rd)) 2 (itF rd (gsF rd lost b (F 2)) k)) 4 (cpF (F 2) (F 4) 0 0 441)) 8 (f8)) 9 (f9))))
        rw [cpF_in (by decide) (by decide)]
        refine v_isub C dX8_goes_98 ?_
        refine v_sipush C dX8_goes_99 (by decide +kernel) ?_
        refine v_icmp_ge (tgt := 112) C dX8_goes_102 (by decide) (by have := hBk 3; have := hB 3; first | assumption | exact ⟨by omega, by omega⟩) (by decide) (fun c102 => ?_) (fun c102 => ?_)
        · exact ex k x y z f8 f9 hk hno (Or.inr (by omega))
        · have hkk : k < 600 := by omega
          obtain ⟨q1, q2, ⟨q3, q4⟩, q5, q6⟩ := hok k hkk
          refine v_aload_n C dX8_goes_105 rfl 0 rfl ?_
          refine v_callV (na := 0) (wy := (Cond.code yX8_step cX8_step 4 none :: wsL_law)) (wc := (mW (vG X) ad (up (up (up (up (up F 0 (up (up (up (up (F 0) 20 x) 22 y) 23 z) 24 rd)) 2 (itF rd (gsF rd lost b (F 2)) k)) 4 (cpF (F 2) (F 4) 0 0 441)) 8 (f8)) 9 (f9)))) (wr := []) C [] [] (c_X8_step _ _ ad (up (up (up (up (up F 0 (up (up (up (up (F 0) 20 x) 22 y) 23 z) 24 rd)) 2 (itF rd (gsF rd lost b (F 2)) k)) 4 (cpF (F 2) (F 4) 0 0 441)) 8 (f8)) 9 (f9)) q1 q2 q3 q4 hrd q5 q6) rfl (gwV mw_658 mw_655 mw_656 mw_657 mw_5) rfl (by decide +kernel) 0 rfl rfl rfl rfl Sb.w rfl rfl dX8_goes_106 (fun r w1 hp106_7 => ?_)
          obtain ⟨rfl, x, y, z, f8, f9, rfl⟩ := hp106_7
          show V X 0 0 109 [(0, .ref (ad 0)), (1, vI rd), (2, vI lost), (3, vI b)] [] ((mW (vG X) ad (up (up (up (up (up F 0 (up (up (up (up (F 0) 24 rd) 20 x) 22 y) 23 z)) 2 (stepF rd (itF rd (gsF rd lost b (F 2)) k))) 4 (cpF (F 2) (F 4) 0 0 441)) 8 (f8)) 9 (f9))))
          refine v_goto (tgt := 79) C dX8_goes_109 (by decide) ?_
          exact ih (k + 1) _ _ _ _ _ (by omega) (fun j hj => by
            by_cases e : j = k
            · rw [e]; exact c83
            · exact hno j (by omega)) (by omega)
  exact lp 601 0 (F 0 20) (F 0 22) (F 0 23) (F 8) (F 9) (by omega) (fun j hj => absurd hj (by omega)) (by omega)
end M4
