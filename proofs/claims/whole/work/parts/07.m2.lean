section M2
set_option maxHeartbeats 4000000 in
set_option maxRecDepth 100000 in
theorem c_X8_says (G : GG) (l : Launch) (ad : Nat → Nat) (F : Int → Int → Int) (v : Int) (h0 : 0 ≤ F 0 20) (h1 : F 0 20 < 15) : Ct G l yX8_says (Cond.code yX8_says cX8_says 2 none :: wsL_law) 0 0 0 0 [.ref (ad 0), vI v] ((mW G ad F)) (fun r w => r = none ∧ w = (mW G ad (up (up F 0 (up (F 0) 20 ((F 0 20) + 1))) 8 (up (F 8) (F 0 20) (v % 256))))) := by
  refine Ct.of (own := RX8) (cc := cX8_says) (maxL := 2) (ret := none) (by decide) rfl rfl (Nat.le_of_ble_eq_true rfl) (fun X C E M hG hl => ?_)
  subst hG hl
  refine v_aload_n C dX8_says_0 rfl 0 rfl ?_
  refine v_get (v := .ref (ad 8)) C inw_8 0 19 rfl (by decide) (List.mem_cons_of_mem _ mw_112) rfl rfl dX8_says_1 ?_
  refine v_aload_n C dX8_says_4 rfl 0 rfl ?_
  refine v_get (v := vI (F 0 20)) C inw_8 0 20 rfl (by decide) (List.mem_cons_of_mem _ mw_537) rfl rfl dX8_says_5 ?_
  refine v_iload_n C dX8_says_8 rfl 1 rfl ?_
  refine v_sipush C dX8_says_9 (by decide +kernel) ?_
  refine v_iand C dX8_says_12 (iI_and255 v) ?_
  refine v_iast C 8 rfl (by  omega) (by  omega) (by decide) dX8_says_13 (ws' := (mW (vG X) ad (up F 8 (up (F 8) (F 0 20) (v % 256))))) rfl ?_
  refine v_aload_n C dX8_says_14 rfl 0 rfl ?_
  refine v_dup C dX8_says_15 rfl ?_
  refine v_get (v := vI (F 0 20)) C inw_8 0 20 rfl (by decide) (List.mem_cons_of_mem _ mw_537) rfl rfl dX8_says_16 ?_
  refine v_iconst C dX8_says_19 ?_
  refine v_iadd C dX8_says_20 ?_
  refine v_put C inw_8 tyX8 tyX8_ok nmX8 0 20 rfl (by decide) (List.mem_cons_of_mem _ mw_537) rfl rfl rfl rfl (Nat.le_of_ble_eq_true rfl) dX8_says_21 (ws' := (mW (vG X) ad (up (up F 0 (up (F 0) 20 ((F 0 20) + 1))) 8 (up (F 8) (F 0 20) (v % 256))))) rfl ?_
  exact v_vret C E rfl dX8_says_24 (by decide) (by decide) (⟨rfl, rfl⟩)
set_option maxHeartbeats 4000000 in
set_option maxRecDepth 100000 in
theorem c_X8_sends (G : GG) (l : Launch) (ad : Nat → Nat) (F : Int → Int → Int) (v : Int) (h0 : 0 ≤ F 0 22) (h1 : F 0 22 < 40) : Ct G l yX8_sends (Cond.code yX8_sends cX8_sends 2 none :: wsL_law) 0 0 0 0 [.ref (ad 0), vI v] ((mW G ad F)) (fun r w => r = none ∧ w = (mW G ad (up (up F 0 (up (F 0) 22 ((F 0 22) + 1))) 9 (up (F 9) (F 0 22) v)))) := by
  refine Ct.of (own := RX8) (cc := cX8_sends) (maxL := 2) (ret := none) (by decide) rfl rfl (Nat.le_of_ble_eq_true rfl) (fun X C E M hG hl => ?_)
  subst hG hl
  refine v_aload_n C dX8_sends_0 rfl 0 rfl ?_
  refine v_get (v := .ref (ad 9)) C inw_8 0 21 rfl (by decide) (List.mem_cons_of_mem _ mw_113) rfl rfl dX8_sends_1 ?_
  refine v_aload_n C dX8_sends_4 rfl 0 rfl ?_
  refine v_get (v := vI (F 0 22)) C inw_8 0 22 rfl (by decide) (List.mem_cons_of_mem _ mw_532) rfl rfl dX8_sends_5 ?_
  refine v_iload_n C dX8_sends_8 rfl 1 rfl ?_
  refine v_iast C 9 rfl (by  omega) (by  omega) (by decide) dX8_sends_9 (ws' := (mW (vG X) ad (up F 9 (up (F 9) (F 0 22) v)))) rfl ?_
  refine v_aload_n C dX8_sends_10 rfl 0 rfl ?_
  refine v_dup C dX8_sends_11 rfl ?_
  refine v_get (v := vI (F 0 22)) C inw_8 0 22 rfl (by decide) (List.mem_cons_of_mem _ mw_532) rfl rfl dX8_sends_12 ?_
  refine v_iconst C dX8_sends_15 ?_
  refine v_iadd C dX8_sends_16 ?_
  refine v_put C inw_8 tyX8 tyX8_ok nmX8 0 22 rfl (by decide) (List.mem_cons_of_mem _ mw_532) rfl rfl rfl rfl (Nat.le_of_ble_eq_true rfl) dX8_sends_17 (ws' := (mW (vG X) ad (up (up F 0 (up (F 0) 22 ((F 0 22) + 1))) 9 (up (F 9) (F 0 22) v)))) rfl ?_
  exact v_vret C E rfl dX8_sends_20 (by decide) (by decide) (⟨rfl, rfl⟩)
set_option maxHeartbeats 4000000 in
set_option maxRecDepth 100000 in
theorem c_X8_isLost (G : GG) (l : Launch) (ad : Nat → Nat) (F : Int → Int → Int) (f : Int) (hB : sB 1073741824 (F 2)) (hf : sm f) (h70 : 0 ≤ F 2 7) (h7 : F 2 7 ≤ 41) : Ct G l yX8_isLost (Cond.code yX8_isLost cX8_isLost 4 (some .boolean) :: wsL_law) 0 0 0 0 [.ref (ad 0), vI f] ((mW G ad F)) (fun r w => r = some (vI (lz (F 2) f)) ∧ w = mW G ad F) := by
  refine Ct.of (own := RX8) (cc := cX8_isLost) (maxL := 4) (ret := (some .boolean)) (by decide) rfl rfl (Nat.le_of_ble_eq_true rfl) (fun X C E M hG hl => ?_)
  subst hG hl
  refine v_iconst C dX8_isLost_0 ?_
  refine v_istore_n C M dX8_isLost_1 rfl (by decide) (L' := [(2, vI 0), (0, .ref (ad 0)), (1, vI f)]) rfl ?_
  refine v_iconst C dX8_isLost_2 ?_
  refine v_istore_n C M dX8_isLost_3 rfl (by decide) (L' := [(3, vI 0), (2, vI 0), (0, .ref (ad 0)), (1, vI f)]) rfl ?_
  refine V.loc (L' := [(0, .ref (ad 0)), (1, vI f), (2, vI 0), (3, vI 0)]) [2, 3, 1, 0] rfl ?_
  have lp : ∀ (n : Nat) (k : Int) (hk : 0 ≤ k) (hk2 : k ≤ F 2 7) (hm : F 2 7 - k < (n : Int)), V X 0 0 4 [(0, .ref (ad 0)), (1, vI f), (2, vI (lostK (F 2) f k)), (3, vI k)] [] ((mW (vG X) ad F)) := by
    intro n
    induction n with
    | zero => intro k hk hk2 hm; exact absurd hm (by omega)
    | succ n ih =>
      intro k hk hk2 hm
      refine v_iload_n C dX8_isLost_4 rfl 3 rfl ?_
      refine v_aload_n C dX8_isLost_5 rfl 0 rfl ?_
      refine v_get (v := .ref (ad 2)) C inw_8 0 10 rfl (by decide) (List.mem_cons_of_mem _ mw_105) rfl rfl dX8_isLost_6 ?_
      refine v_bipush C dX8_isLost_9 (by decide +kernel) ?_
      refine v_iald C 2 rfl (by decide) (by decide) (by decide) dX8_isLost_11 ?_
      refine v_icmp_ge (tgt := 43) C dX8_isLost_12 (by decide) (by  first | assumption | exact ⟨by omega, by omega⟩) (by have := hB 7; first | assumption | exact ⟨by omega, by omega⟩) (fun c12 => ?_) (fun c12 => ?_)
      · have e7 : k = F 2 7 := by omega
        subst e7
        refine v_iload_n C dX8_isLost_43 rfl 2 rfl ?_
        exact v_zret C E rfl (nb_01 (lz_01 _ _)) dX8_isLost_44 (by decide) (by decide) ⟨rfl, rfl⟩
      · refine v_iload_n C dX8_isLost_15 rfl 2 rfl ?_
        refine v_aload_n C dX8_isLost_16 rfl 0 rfl ?_
        refine v_get (v := .ref (ad 2)) C inw_8 0 10 rfl (by decide) (List.mem_cons_of_mem _ mw_105) rfl rfl dX8_isLost_17 ?_
        refine v_sipush C dX8_isLost_20 (by decide +kernel) ?_
        refine v_iload_n C dX8_isLost_23 rfl 3 rfl ?_
        refine v_iadd C dX8_isLost_24 ?_
        refine v_iald C 2 rfl (by  omega) (by  omega) (by decide) dX8_isLost_25 ?_
        refine v_iload_n C dX8_isLost_26 rfl 1 rfl ?_
        suffices mrg : V X 0 0 35 [(0, .ref (ad 0)), (1, vI f), (2, vI (lostK (F 2) f k)), (3, vI k)] [vI (bI ((F 2 (400 + k)) = f)), vI (lostK (F 2) f k)] ((mW (vG X) ad F)) by
          refine v_icmp_ne (tgt := 34) C dX8_isLost_27 (by decide) (by have := hB (400 + k); first | assumption | exact ⟨by omega, by omega⟩) (by  first | assumption | exact ⟨by omega, by omega⟩) (fun c27 => ?_) (fun c27 => ?_)
          · skip
            refine v_iconst C dX8_isLost_34 ?_
            exact V.top (bI_f (by omega)).symm mrg
          · skip
            refine v_iconst C dX8_isLost_30 ?_
            refine v_goto (tgt := 35) C dX8_isLost_31 (by decide) ?_
            exact V.top (bI_t (by omega)).symm mrg
        refine v_ior (z := lostK (F 2) f (k + 1)) C dX8_isLost_35 (lost_or hk) ?_
        refine v_istore_n C M dX8_isLost_36 rfl (by decide) (L' := [(2, vI (lostK (F 2) f (k + 1))), (0, .ref (ad 0)), (1, vI f), (3, vI k)]) rfl ?_
        refine v_iinc C M dX8_isLost_37 3 rfl (by decide) (z' := (k + 1)) rfl (L' := [(3, vI (k + 1)), (2, vI (lostK (F 2) f (k + 1))), (0, .ref (ad 0)), (1, vI f)]) rfl ?_
        refine v_goto (tgt := 4) C dX8_isLost_40 (by decide) ?_
        refine V.loc (L' := [(0, .ref (ad 0)), (1, vI f), (2, vI (lostK (F 2) f (k + 1))), (3, vI (k + 1))]) [2, 3, 1, 0] rfl ?_
        exact ih (k + 1) (by omega) (by omega) (by omega)
  exact lp ((F 2 7).toNat + 1) 0 (by omega) (by omega) (by omega)
set_option maxHeartbeats 4000000 in
set_option maxRecDepth 100000 in
theorem c_X8_lays (G : GG) (l : Launch) (ad : Nat → Nat) (F : Int → Int → Int) (hT : F 2 1 = 0 ∨ F 2 1 = 1) (hB : sB 1073741824 (F 2)) (hd1 : isDataP (F 2) → 0 ≤ F 2 (18 + 11 * F 2 1 + 6) + F 2 2 ∧ F 2 (18 + 11 * F 2 1 + 6) + F 2 2 < 20) (hd2 : isDataP (F 2) → 0 ≤ dl (F 2) ∧ dl (F 2) ≤ 8) : Ct G l yX8_lays (Cond.code yX8_lays cX8_lays 6 none :: wsL_law) 4 84 0 0 [.ref (ad 0)] ((mW G ad F)) (fun r w => r = none ∧ ∃ (f8 f9 : Int → Int), w = mW G ad (up (up (up F 0 (up (up (up (F 0) 20 (7 + dl (F 2))) 22 (2 + (7 + dl (F 2)) + escI (pbF (F 2)) (7 + dl (F 2)))) 23 (escI (pbF (F 2)) (7 + dl (F 2))))) 8 f8) 9 f9) ∧ (∀ j, 0 ≤ j → j < 7 + dl (F 2) → f8 j = pbF (F 2) j) ∧ LSp f9 (pbF (F 2)) (7 + dl (F 2)) ∧ f9 (1 + (7 + dl (F 2)) + escI (pbF (F 2)) (7 + dl (F 2))) = 126) := by
  refine Ct.of (own := RX8) (cc := cX8_lays) (maxL := 6) (ret := none) (by decide) rfl rfl (Nat.le_of_ble_eq_true rfl) (fun X C E M hG hl => ?_)
  subst hG hl
  refine v_aload_n C dX8_lays_0 rfl 0 rfl ?_
  refine v_get (v := .ref (ad 2)) C inw_8 0 10 rfl (by decide) (List.mem_cons_of_mem _ mw_105) rfl rfl dX8_lays_1 ?_
  refine v_iconst C dX8_lays_4 ?_
  refine v_iald C 2 rfl (by decide) (by decide) (by decide) dX8_lays_5 ?_
  refine v_istore_n C M dX8_lays_6 rfl (by decide) (L' := [(1, vI (F 2 1)), (0, .ref (ad 0))]) rfl ?_
  refine v_aload_n C dX8_lays_7 rfl 1 rfl ?_
  refine v_callV (na := 0) (wy := (Cond.code yX8_isData cX8_isData 2 (some .boolean) :: wsL_law)) (wc := (mW (vG X) ad F)) (wr := []) C [] [] (c_X8_isData _ _ ad F hT (sB_mono (by decide) hB)) rfl (gwV mw_542 mw_539 mw_540 mw_541 mw_5) rfl (by decide +kernel) 0 rfl rfl rfl rfl Sb.w rfl rfl dX8_lays_8 (fun r w1 hp8_1 => ?_)
  obtain ⟨rfl, rfl⟩ := hp8_1
  show V X 0 0 11 [(1, vI (F 2 1)), (0, .ref (ad 0))] [vI (bI (isDataP (F 2)))] ((mW (vG X) ad F))
  have hdl : 0 ≤ dl (F 2) ∧ dl (F 2) ≤ 8 := by
    by_cases h : isDataP (F 2)
    · exact hd2 h
    · unfold dl; rw [if_neg h]; decide
  by_cases hd : isDataP (F 2)
  · rw [bI_t hd]
    refine v_istore_n C M dX8_lays_11 rfl (by decide) (L' := [(2, vI 1), (1, vI (F 2 1)), (0, .ref (ad 0))]) rfl ?_
    refine v_aload_n C dX8_lays_12 rfl 2 rfl ?_
    refine v_iconst C dX8_lays_13 ?_
    refine v_put C inw_8 tyX8 tyX8_ok nmX8 0 20 rfl (by decide) (List.mem_cons_of_mem _ mw_537) rfl rfl rfl rfl (Nat.le_of_ble_eq_true rfl) dX8_lays_14 (ws' := (mW (vG X) ad (up F 0 (up (F 0) 20 0)))) rfl ?_
    refine v_aload_n C dX8_lays_17 rfl 2 rfl ?_
    refine v_iload_n C dX8_lays_18 rfl 0 rfl ?_
    refine v_if_eq (tgt := 26) C dX8_lays_19 (by decide) (by decide) (fun c => absurd c (by decide)) (fun _ => ?_)
    refine v_iconst C dX8_lays_22 ?_
    refine v_goto (tgt := 27) C dX8_lays_23 (by decide) ?_
    refine v_iconst C dX8_lays_27 ?_
    refine v_iload_n C dX8_lays_28 rfl 1 rfl ?_
    refine v_imul C dX8_lays_29 ?_
    refine v_iadd C dX8_lays_30 ?_
    refine v_callV (na := 1) (wy := (Cond.code yX8_says cX8_says 2 none :: wsL_law)) (wc := (mW (vG X) ad (up F 0 (up (F 0) 20 0)))) (wr := []) C [vI (0 + (2 * (F 2 1)))] [] (c_X8_says _ _ ad (up F 0 (up (F 0) 20 0)) (0 + (2 * (F 2 1))) (show (0 : Int) ≤ 0 by omega) (show (0 : Int) < 15 by omega)) rfl (gwV mw_550 mw_547 mw_548 mw_549 mw_5) rfl (by decide +kernel) 0 rfl rfl rfl rfl Sb.w rfl rfl dX8_lays_31 (fun r w1 hp31_2 => ?_)
    obtain ⟨rfl, rfl⟩ := hp31_2
    show V X 0 0 34 [(2, vI 1), (1, vI (F 2 1)), (0, .ref (ad 0))] [] ((mW (vG X) ad (up (up F 0 (up (F 0) 20 1)) 8 (up (F 8) 0 ((0 + (2 * (F 2 1))) % 256)))))
    refine v_aload_n C dX8_lays_34 rfl 2 rfl ?_
    refine v_iload_n C dX8_lays_35 rfl 0 rfl ?_
    refine v_if_eq (tgt := 46) C dX8_lays_36 (by decide) (by decide) (fun c => absurd c (by decide)) (fun _ => ?_)
    refine v_aload_n C dX8_lays_39 rfl 2 rfl ?_
    refine v_callV (na := 0) (wy := (Cond.code yX8_nextMessage cX8_nextMessage 1 (some .int) :: wsL_law)) (wc := (mW (vG X) ad (up (up F 0 (up (F 0) 20 1)) 8 (up (F 8) 0 ((0 + (2 * (F 2 1))) % 256))))) (wr := []) C [] [.ref (ad 0)] (c_X8_nextMessage _ _ ad (up (up F 0 (up (F 0) 20 1)) 8 (up (F 8) 0 ((0 + (2 * (F 2 1))) % 256))) hT) rfl (gwV mw_546 mw_543 mw_544 mw_545 mw_5) rfl (by decide +kernel) 0 rfl rfl rfl rfl Sb.w rfl rfl dX8_lays_40 (fun r w1 hp40_3 => ?_)
    obtain ⟨rfl, rfl⟩ := hp40_3
    show V X 0 0 43 [(2, vI 1), (1, vI (F 2 1)), (0, .ref (ad 0))] [vI ((F 2 ((18 + (11 * (F 2 1))) + 6)) + (F 2 2)), .ref (ad 0)] ((mW (vG X) ad (up (up F 0 (up (F 0) 20 1)) 8 (up (F 8) 0 ((0 + (2 * (F 2 1))) % 256)))))
    refine v_goto (tgt := 53) C dX8_lays_43 (by decide) ?_
    refine v_callV (na := 1) (wy := (Cond.code yX8_says cX8_says 2 none :: wsL_law)) (wc := (mW (vG X) ad (up (up F 0 (up (F 0) 20 1)) 8 (up (F 8) 0 ((0 + (2 * (F 2 1))) % 256))))) (wr := []) C [vI ((F 2 ((18 + (11 * (F 2 1))) + 6)) + (F 2 2))] [] (c_X8_says _ _ ad (up (up F 0 (up (F 0) 20 1)) 8 (up (F 8) 0 ((0 + (2 * (F 2 1))) % 256))) ((F 2 ((18 + (11 * (F 2 1))) + 6)) + (F 2 2)) (show (0 : Int) ≤ 1 by omega) (show (1 : Int) < 15 by omega)) rfl (gwV mw_550 mw_547 mw_548 mw_549 mw_5) rfl (by decide +kernel) 0 rfl rfl rfl rfl Sb.w rfl rfl dX8_lays_53 (fun r w1 hp53_4 => ?_)
    obtain ⟨rfl, rfl⟩ := hp53_4
    show V X 0 0 56 [(2, vI 1), (1, vI (F 2 1)), (0, .ref (ad 0))] [] ((mW (vG X) ad (up (up F 0 (up (F 0) 20 2)) 8 (up (up (F 8) 0 ((0 + (2 * (F 2 1))) % 256)) 1 (((F 2 ((18 + (11 * (F 2 1))) + 6)) + (F 2 2)) % 256)))))
    refine v_aload_n C dX8_lays_56 rfl 2 rfl ?_
    refine v_aload_n C dX8_lays_57 rfl 2 rfl ?_
    refine v_iload_n C dX8_lays_58 rfl 1 rfl ?_
    refine v_iconst C dX8_lays_59 ?_
    refine v_callV (na := 2) (wy := (Cond.code yX8_of cX8_of 3 (some .int) :: wsL_law)) (wc := (mW (vG X) ad (up (up F 0 (up (F 0) 20 2)) 8 (up (up (F 8) 0 ((0 + (2 * (F 2 1))) % 256)) 1 (((F 2 ((18 + (11 * (F 2 1))) + 6)) + (F 2 2)) % 256))))) (wr := []) C [vI (F 2 1), vI 1] [.ref (ad 0)] (c_X8_of _ _ ad (up (up F 0 (up (F 0) 20 2)) 8 (up (up (F 8) 0 ((0 + (2 * (F 2 1))) % 256)) 1 (((F 2 ((18 + (11 * (F 2 1))) + 6)) + (F 2 2)) % 256))) (F 2 1) 1 (by have := hB 1; omega) (by have := hB 1; omega)) rfl (gwV mw_129 mw_126 mw_127 mw_128 mw_5) rfl (by decide +kernel) 0 rfl rfl rfl rfl Sb.w rfl rfl dX8_lays_60 (fun r w1 hp60_5 => ?_)
    obtain ⟨rfl, rfl⟩ := hp60_5
    show V X 0 0 63 [(2, vI 1), (1, vI (F 2 1)), (0, .ref (ad 0))] [vI (F 2 ((18 + (11 * (F 2 1))) + 1)), .ref (ad 0)] ((mW (vG X) ad (up (up F 0 (up (F 0) 20 2)) 8 (up (up (F 8) 0 ((0 + (2 * (F 2 1))) % 256)) 1 (((F 2 ((18 + (11 * (F 2 1))) + 6)) + (F 2 2)) % 256)))))
    refine v_callV (na := 1) (wy := (Cond.code yX8_says cX8_says 2 none :: wsL_law)) (wc := (mW (vG X) ad (up (up F 0 (up (F 0) 20 2)) 8 (up (up (F 8) 0 ((0 + (2 * (F 2 1))) % 256)) 1 (((F 2 ((18 + (11 * (F 2 1))) + 6)) + (F 2 2)) % 256))))) (wr := []) C [vI (F 2 ((18 + (11 * (F 2 1))) + 1))] [] (c_X8_says _ _ ad (up (up F 0 (up (F 0) 20 2)) 8 (up (up (F 8) 0 ((0 + (2 * (F 2 1))) % 256)) 1 (((F 2 ((18 + (11 * (F 2 1))) + 6)) + (F 2 2)) % 256))) (F 2 ((18 + (11 * (F 2 1))) + 1)) (show (0 : Int) ≤ 2 by omega) (show (2 : Int) < 15 by omega)) rfl (gwV mw_550 mw_547 mw_548 mw_549 mw_5) rfl (by decide +kernel) 0 rfl rfl rfl rfl Sb.w rfl rfl dX8_lays_63 (fun r w1 hp63_6 => ?_)
    obtain ⟨rfl, rfl⟩ := hp63_6
    show V X 0 0 66 [(2, vI 1), (1, vI (F 2 1)), (0, .ref (ad 0))] [] ((mW (vG X) ad (up (up F 0 (up (F 0) 20 3)) 8 (up (up (up (F 8) 0 ((0 + (2 * (F 2 1))) % 256)) 1 (((F 2 ((18 + (11 * (F 2 1))) + 6)) + (F 2 2)) % 256)) 2 ((F 2 ((18 + (11 * (F 2 1))) + 1)) % 256)))))
    refine v_aload_n C dX8_lays_66 rfl 2 rfl ?_
    refine v_aload_n C dX8_lays_67 rfl 2 rfl ?_
    refine v_iload_n C dX8_lays_68 rfl 1 rfl ?_
    refine v_callV (na := 1) (wy := (Cond.code yX8_limitOf cX8_limitOf 2 (some .int) :: wsL_law)) (wc := (mW (vG X) ad (up (up F 0 (up (F 0) 20 3)) 8 (up (up (up (F 8) 0 ((0 + (2 * (F 2 1))) % 256)) 1 (((F 2 ((18 + (11 * (F 2 1))) + 6)) + (F 2 2)) % 256)) 2 ((F 2 ((18 + (11 * (F 2 1))) + 1)) % 256))))) (wr := []) C [vI (F 2 1)] [.ref (ad 0)] (c_X8_limitOf _ _ ad (up (up F 0 (up (F 0) 20 3)) 8 (up (up (up (F 8) 0 ((0 + (2 * (F 2 1))) % 256)) 1 (((F 2 ((18 + (11 * (F 2 1))) + 6)) + (F 2 2)) % 256)) 2 ((F 2 ((18 + (11 * (F 2 1))) + 1)) % 256))) (F 2 1) (by have := hB 1; omega)) rfl (gwV mw_554 mw_551 mw_552 mw_553 mw_5) rfl (by decide +kernel) 0 rfl rfl rfl rfl Sb.w rfl rfl dX8_lays_69 (fun r w1 hp69_7 => ?_)
    obtain ⟨rfl, rfl⟩ := hp69_7
    show V X 0 0 72 [(2, vI 1), (1, vI (F 2 1)), (0, .ref (ad 0))] [vI ((F 2 ((18 + (11 * (F 2 1))) + 2)) + (F 2 ((18 + (11 * (F 2 1))) + 3))), .ref (ad 0)] ((mW (vG X) ad (up (up F 0 (up (F 0) 20 3)) 8 (up (up (up (F 8) 0 ((0 + (2 * (F 2 1))) % 256)) 1 (((F 2 ((18 + (11 * (F 2 1))) + 6)) + (F 2 2)) % 256)) 2 ((F 2 ((18 + (11 * (F 2 1))) + 1)) % 256)))))
    refine v_callV (na := 1) (wy := (Cond.code yX8_says cX8_says 2 none :: wsL_law)) (wc := (mW (vG X) ad (up (up F 0 (up (F 0) 20 3)) 8 (up (up (up (F 8) 0 ((0 + (2 * (F 2 1))) % 256)) 1 (((F 2 ((18 + (11 * (F 2 1))) + 6)) + (F 2 2)) % 256)) 2 ((F 2 ((18 + (11 * (F 2 1))) + 1)) % 256))))) (wr := []) C [vI ((F 2 ((18 + (11 * (F 2 1))) + 2)) + (F 2 ((18 + (11 * (F 2 1))) + 3)))] [] (c_X8_says _ _ ad (up (up F 0 (up (F 0) 20 3)) 8 (up (up (up (F 8) 0 ((0 + (2 * (F 2 1))) % 256)) 1 (((F 2 ((18 + (11 * (F 2 1))) + 6)) + (F 2 2)) % 256)) 2 ((F 2 ((18 + (11 * (F 2 1))) + 1)) % 256))) ((F 2 ((18 + (11 * (F 2 1))) + 2)) + (F 2 ((18 + (11 * (F 2 1))) + 3))) (show (0 : Int) ≤ 3 by omega) (show (3 : Int) < 15 by omega)) rfl (gwV mw_550 mw_547 mw_548 mw_549 mw_5) rfl (by decide +kernel) 0 rfl rfl rfl rfl Sb.w rfl rfl dX8_lays_72 (fun r w1 hp72_8 => ?_)
    obtain ⟨rfl, rfl⟩ := hp72_8
    show V X 0 0 75 [(2, vI 1), (1, vI (F 2 1)), (0, .ref (ad 0))] [] ((mW (vG X) ad (up (up F 0 (up (F 0) 20 4)) 8 (up (up (up (up (F 8) 0 ((0 + (2 * (F 2 1))) % 256)) 1 (((F 2 ((18 + (11 * (F 2 1))) + 6)) + (F 2 2)) % 256)) 2 ((F 2 ((18 + (11 * (F 2 1))) + 1)) % 256)) 3 (((F 2 ((18 + (11 * (F 2 1))) + 2)) + (F 2 ((18 + (11 * (F 2 1))) + 3))) % 256)))))
    refine v_aload_n C dX8_lays_75 rfl 2 rfl ?_
    refine v_aload_n C dX8_lays_76 rfl 2 rfl ?_
    refine v_iload_n C dX8_lays_77 rfl 1 rfl ?_
    refine v_iconst C dX8_lays_78 ?_
    refine v_callV (na := 2) (wy := (Cond.code yX8_of cX8_of 3 (some .int) :: wsL_law)) (wc := (mW (vG X) ad (up (up F 0 (up (F 0) 20 4)) 8 (up (up (up (up (F 8) 0 ((0 + (2 * (F 2 1))) % 256)) 1 (((F 2 ((18 + (11 * (F 2 1))) + 6)) + (F 2 2)) % 256)) 2 ((F 2 ((18 + (11 * (F 2 1))) + 1)) % 256)) 3 (((F 2 ((18 + (11 * (F 2 1))) + 2)) + (F 2 ((18 + (11 * (F 2 1))) + 3))) % 256))))) (wr := []) C [vI (F 2 1), vI 4] [.ref (ad 0)] (c_X8_of _ _ ad (up (up F 0 (up (F 0) 20 4)) 8 (up (up (up (up (F 8) 0 ((0 + (2 * (F 2 1))) % 256)) 1 (((F 2 ((18 + (11 * (F 2 1))) + 6)) + (F 2 2)) % 256)) 2 ((F 2 ((18 + (11 * (F 2 1))) + 1)) % 256)) 3 (((F 2 ((18 + (11 * (F 2 1))) + 2)) + (F 2 ((18 + (11 * (F 2 1))) + 3))) % 256))) (F 2 1) 4 (by have := hB 1; omega) (by have := hB 1; omega)) rfl (gwV mw_129 mw_126 mw_127 mw_128 mw_5) rfl (by decide +kernel) 0 rfl rfl rfl rfl Sb.w rfl rfl dX8_lays_79 (fun r w1 hp79_9 => ?_)
    obtain ⟨rfl, rfl⟩ := hp79_9
    show V X 0 0 82 [(2, vI 1), (1, vI (F 2 1)), (0, .ref (ad 0))] [vI (F 2 ((18 + (11 * (F 2 1))) + 4)), .ref (ad 0)] ((mW (vG X) ad (up (up F 0 (up (F 0) 20 4)) 8 (up (up (up (up (F 8) 0 ((0 + (2 * (F 2 1))) % 256)) 1 (((F 2 ((18 + (11 * (F 2 1))) + 6)) + (F 2 2)) % 256)) 2 ((F 2 ((18 + (11 * (F 2 1))) + 1)) % 256)) 3 (((F 2 ((18 + (11 * (F 2 1))) + 2)) + (F 2 ((18 + (11 * (F 2 1))) + 3))) % 256)))))
    refine v_callV (na := 1) (wy := (Cond.code yX8_says cX8_says 2 none :: wsL_law)) (wc := (mW (vG X) ad (up (up F 0 (up (F 0) 20 4)) 8 (up (up (up (up (F 8) 0 ((0 + (2 * (F 2 1))) % 256)) 1 (((F 2 ((18 + (11 * (F 2 1))) + 6)) + (F 2 2)) % 256)) 2 ((F 2 ((18 + (11 * (F 2 1))) + 1)) % 256)) 3 (((F 2 ((18 + (11 * (F 2 1))) + 2)) + (F 2 ((18 + (11 * (F 2 1))) + 3))) % 256))))) (wr := []) C [vI (F 2 ((18 + (11 * (F 2 1))) + 4))] [] (c_X8_says _ _ ad (up (up F 0 (up (F 0) 20 4)) 8 (up (up (up (up (F 8) 0 ((0 + (2 * (F 2 1))) % 256)) 1 (((F 2 ((18 + (11 * (F 2 1))) + 6)) + (F 2 2)) % 256)) 2 ((F 2 ((18 + (11 * (F 2 1))) + 1)) % 256)) 3 (((F 2 ((18 + (11 * (F 2 1))) + 2)) + (F 2 ((18 + (11 * (F 2 1))) + 3))) % 256))) (F 2 ((18 + (11 * (F 2 1))) + 4)) (show (0 : Int) ≤ 4 by omega) (show (4 : Int) < 15 by omega)) rfl (gwV mw_550 mw_547 mw_548 mw_549 mw_5) rfl (by decide +kernel) 0 rfl rfl rfl rfl Sb.w rfl rfl dX8_lays_82 (fun r w1 hp82_10 => ?_)
    obtain ⟨rfl, rfl⟩ := hp82_10
    show V X 0 0 85 [(2, vI 1), (1, vI (F 2 1)), (0, .ref (ad 0))] [] ((mW (vG X) ad (up (up F 0 (up (F 0) 20 5)) 8 (up (up (up (up (up (F 8) 0 ((0 + (2 * (F 2 1))) % 256)) 1 (((F 2 ((18 + (11 * (F 2 1))) + 6)) + (F 2 2)) % 256)) 2 ((F 2 ((18 + (11 * (F 2 1))) + 1)) % 256)) 3 (((F 2 ((18 + (11 * (F 2 1))) + 2)) + (F 2 ((18 + (11 * (F 2 1))) + 3))) % 256)) 4 ((F 2 ((18 + (11 * (F 2 1))) + 4)) % 256)))))
    refine v_aload_n C dX8_lays_85 rfl 2 rfl ?_
    refine v_aload_n C dX8_lays_86 rfl 2 rfl ?_
    refine v_iload_n C dX8_lays_87 rfl 1 rfl ?_
    refine v_iconst C dX8_lays_88 ?_
    refine v_callV (na := 2) (wy := (Cond.code yX8_of cX8_of 3 (some .int) :: wsL_law)) (wc := (mW (vG X) ad (up (up F 0 (up (F 0) 20 5)) 8 (up (up (up (up (up (F 8) 0 ((0 + (2 * (F 2 1))) % 256)) 1 (((F 2 ((18 + (11 * (F 2 1))) + 6)) + (F 2 2)) % 256)) 2 ((F 2 ((18 + (11 * (F 2 1))) + 1)) % 256)) 3 (((F 2 ((18 + (11 * (F 2 1))) + 2)) + (F 2 ((18 + (11 * (F 2 1))) + 3))) % 256)) 4 ((F 2 ((18 + (11 * (F 2 1))) + 4)) % 256))))) (wr := []) C [vI (F 2 1), vI 5] [.ref (ad 0)] (c_X8_of _ _ ad (up (up F 0 (up (F 0) 20 5)) 8 (up (up (up (up (up (F 8) 0 ((0 + (2 * (F 2 1))) % 256)) 1 (((F 2 ((18 + (11 * (F 2 1))) + 6)) + (F 2 2)) % 256)) 2 ((F 2 ((18 + (11 * (F 2 1))) + 1)) % 256)) 3 (((F 2 ((18 + (11 * (F 2 1))) + 2)) + (F 2 ((18 + (11 * (F 2 1))) + 3))) % 256)) 4 ((F 2 ((18 + (11 * (F 2 1))) + 4)) % 256))) (F 2 1) 5 (by have := hB 1; omega) (by have := hB 1; omega)) rfl (gwV mw_129 mw_126 mw_127 mw_128 mw_5) rfl (by decide +kernel) 0 rfl rfl rfl rfl Sb.w rfl rfl dX8_lays_89 (fun r w1 hp89_11 => ?_)
    obtain ⟨rfl, rfl⟩ := hp89_11
    show V X 0 0 92 [(2, vI 1), (1, vI (F 2 1)), (0, .ref (ad 0))] [vI (F 2 ((18 + (11 * (F 2 1))) + 5)), .ref (ad 0)] ((mW (vG X) ad (up (up F 0 (up (F 0) 20 5)) 8 (up (up (up (up (up (F 8) 0 ((0 + (2 * (F 2 1))) % 256)) 1 (((F 2 ((18 + (11 * (F 2 1))) + 6)) + (F 2 2)) % 256)) 2 ((F 2 ((18 + (11 * (F 2 1))) + 1)) % 256)) 3 (((F 2 ((18 + (11 * (F 2 1))) + 2)) + (F 2 ((18 + (11 * (F 2 1))) + 3))) % 256)) 4 ((F 2 ((18 + (11 * (F 2 1))) + 4)) % 256)))))
    refine v_callV (na := 1) (wy := (Cond.code yX8_says cX8_says 2 none :: wsL_law)) (wc := (mW (vG X) ad (up (up F 0 (up (F 0) 20 5)) 8 (up (up (up (up (up (F 8) 0 ((0 + (2 * (F 2 1))) % 256)) 1 (((F 2 ((18 + (11 * (F 2 1))) + 6)) + (F 2 2)) % 256)) 2 ((F 2 ((18 + (11 * (F 2 1))) + 1)) % 256)) 3 (((F 2 ((18 + (11 * (F 2 1))) + 2)) + (F 2 ((18 + (11 * (F 2 1))) + 3))) % 256)) 4 ((F 2 ((18 + (11 * (F 2 1))) + 4)) % 256))))) (wr := []) C [vI (F 2 ((18 + (11 * (F 2 1))) + 5))] [] (c_X8_says _ _ ad (up (up F 0 (up (F 0) 20 5)) 8 (up (up (up (up (up (F 8) 0 ((0 + (2 * (F 2 1))) % 256)) 1 (((F 2 ((18 + (11 * (F 2 1))) + 6)) + (F 2 2)) % 256)) 2 ((F 2 ((18 + (11 * (F 2 1))) + 1)) % 256)) 3 (((F 2 ((18 + (11 * (F 2 1))) + 2)) + (F 2 ((18 + (11 * (F 2 1))) + 3))) % 256)) 4 ((F 2 ((18 + (11 * (F 2 1))) + 4)) % 256))) (F 2 ((18 + (11 * (F 2 1))) + 5)) (show (0 : Int) ≤ 5 by omega) (show (5 : Int) < 15 by omega)) rfl (gwV mw_550 mw_547 mw_548 mw_549 mw_5) rfl (by decide +kernel) 0 rfl rfl rfl rfl Sb.w rfl rfl dX8_lays_92 (fun r w1 hp92_12 => ?_)
    obtain ⟨rfl, rfl⟩ := hp92_12
    show V X 0 0 95 [(2, vI 1), (1, vI (F 2 1)), (0, .ref (ad 0))] [] ((mW (vG X) ad (up (up F 0 (up (F 0) 20 6)) 8 (up (up (up (up (up (up (F 8) 0 ((0 + (2 * (F 2 1))) % 256)) 1 (((F 2 ((18 + (11 * (F 2 1))) + 6)) + (F 2 2)) % 256)) 2 ((F 2 ((18 + (11 * (F 2 1))) + 1)) % 256)) 3 (((F 2 ((18 + (11 * (F 2 1))) + 2)) + (F 2 ((18 + (11 * (F 2 1))) + 3))) % 256)) 4 ((F 2 ((18 + (11 * (F 2 1))) + 4)) % 256)) 5 ((F 2 ((18 + (11 * (F 2 1))) + 5)) % 256)))))
    refine v_iconst C dX8_lays_95 ?_
    refine v_istore_n C M dX8_lays_96 rfl (by decide) (L' := [(3, vI 0), (2, vI 1), (1, vI (F 2 1)), (0, .ref (ad 0))]) rfl ?_
    have hf8 : ∀ j, 0 ≤ j → j < 6 + 0 → (up (up (up (up (up (up (F 8) 0 ((0 + (2 * (F 2 1))) % 256)) 1 (((F 2 ((18 + (11 * (F 2 1))) + 6)) + (F 2 2)) % 256)) 2 ((F 2 ((18 + (11 * (F 2 1))) + 1)) % 256)) 3 (((F 2 ((18 + (11 * (F 2 1))) + 2)) + (F 2 ((18 + (11 * (F 2 1))) + 3))) % 256)) 4 ((F 2 ((18 + (11 * (F 2 1))) + 4)) % 256)) 5 ((F 2 ((18 + (11 * (F 2 1))) + 5)) % 256)) j = pb0 (F 2) j := by
      intro j j0 j1
      rcases (show j = 0 ∨ j = 1 ∨ j = 2 ∨ j = 3 ∨ j = 4 ∨ j = 5 by omega) with rfl | rfl | rfl | rfl | rfl | rfl <;> simp only [up, pb0, if_pos hd] <;> rfl
    generalize (up (up (up (up (up (up (F 8) 0 ((0 + (2 * (F 2 1))) % 256)) 1 (((F 2 ((18 + (11 * (F 2 1))) + 6)) + (F 2 2)) % 256)) 2 ((F 2 ((18 + (11 * (F 2 1))) + 1)) % 256)) 3 (((F 2 ((18 + (11 * (F 2 1))) + 2)) + (F 2 ((18 + (11 * (F 2 1))) + 3))) % 256)) 4 ((F 2 ((18 + (11 * (F 2 1))) + 4)) % 256)) 5 ((F 2 ((18 + (11 * (F 2 1))) + 5)) % 256)) = f8 at hf8 ⊢
    refine V.loc (L' := [(0, .ref (ad 0)), (1, vI (F 2 1)), (2, vI 1), (3, vI 0)]) [3, 2, 1, 0] rfl ?_
    have hdl2 : dl (F 2) = F 2 ((40 + (20 * (F 2 1))) + (F 2 ((18 + (11 * (F 2 1))) + 6) + F 2 2)) := if_pos hd
    have hnx := hd1 hd
    have lp : ∀ (n : Nat) (k : Int) (f8 : Int → Int) (hk : 0 ≤ k) (hk2 : k ≤ dl (F 2)) (hf8 : ∀ j, 0 ≤ j → j < 6 + k → f8 j = pb0 (F 2) j) (hm : dl (F 2) - k < (n : Int)), V X 0 0 97 [(0, .ref (ad 0)), (1, vI (F 2 1)), (2, vI 1), (3, vI k)] [] ((mW (vG X) ad (up (up F 0 (up (F 0) 20 (6 + k))) 8 (f8)))) := by
      intro n
      induction n with
      | zero => intro k f8 hk hk2 hf8 hm; exact absurd hm (by omega)
      | succ n ih =>
        intro k f8 hk hk2 hf8 hm
        refine v_iload_n C dX8_lays_97 rfl 2 rfl ?_
        refine v_if_eq (tgt := 142) C dX8_lays_98 (by decide) (by decide) (fun c => absurd c (by decide)) (fun _ => ?_)
        refine v_iload_n C dX8_lays_101 rfl 3 rfl ?_
        refine v_aload_n C dX8_lays_102 rfl 0 rfl ?_
        refine v_get (v := .ref (ad 2)) C inw_8 0 10 rfl (by decide) (List.mem_cons_of_mem _ mw_105) rfl rfl dX8_lays_103 ?_
        refine v_iload_n C dX8_lays_106 rfl 1 rfl ?_
        refine v_aload_n C dX8_lays_107 rfl 0 rfl ?_
        refine v_callV (na := 0) (wy := (Cond.code yX8_nextMessage cX8_nextMessage 1 (some .int) :: wsL_law)) (wc := (mW (vG X) ad (up (up F 0 (up (F 0) 20 (6 + k))) 8 (f8)))) (wr := []) C [] [vI (F 2 1), .ref (ad 2), vI k] (c_X8_nextMessage _ _ ad (up (up F 0 (up (F 0) 20 (6 + k))) 8 (f8)) hT) rfl (gwV mw_546 mw_543 mw_544 mw_545 mw_5) rfl (by decide +kernel) 0 rfl rfl rfl rfl Sb.w rfl rfl dX8_lays_108 (fun r w1 hp108_13 => ?_)
        obtain ⟨rfl, rfl⟩ := hp108_13
        show V X 0 0 111 [(0, .ref (ad 0)), (1, vI (F 2 1)), (2, vI 1), (3, vI k)] [vI ((F 2 ((18 + (11 * (F 2 1))) + 6)) + (F 2 2)), vI (F 2 1), .ref (ad 2), vI k] ((mW (vG X) ad (up (up F 0 (up (F 0) 20 (6 + k))) 8 (f8))))
        refine v_callS (na := 2) (wy := (Cond.code yX8_lengthAt cX8_lengthAt 2 (some .int) :: wsL_law)) (wc := []) (wr := (mW (vG X) ad (up (up F 0 (up (F 0) 20 (6 + k))) 8 (f8)))) C [vI (F 2 1), vI ((F 2 ((18 + (11 * (F 2 1))) + 6)) + (F 2 2))] [.ref (ad 2), vI k] (c_X8_lengthAt _ _ (F 2 1) ((F 2 ((18 + (11 * (F 2 1))) + 6)) + (F 2 2)) ) rfl (gwS mw_400 mw_398 mw_399 mw_5) (by decide +kernel) rfl rfl Sb.rf rfl rfl dX8_lays_111 (fun r w1 hp111_14 => ?_)
        obtain ⟨rfl, rfl⟩ := hp111_14
        show V X 0 0 114 [(0, .ref (ad 0)), (1, vI (F 2 1)), (2, vI 1), (3, vI k)] [vI ((40 + (20 * (F 2 1))) + ((F 2 ((18 + (11 * (F 2 1))) + 6)) + (F 2 2))), .ref (ad 2), vI k] ((mW (vG X) ad (up (up F 0 (up (F 0) 20 (6 + k))) 8 (f8))))
        refine v_iald C 2 rfl (by have := hB 1; have := hB ((18 + (11 * (F 2 1))) + 6); have := hB 2; omega) (by have := hB 1; have := hB ((18 + (11 * (F 2 1))) + 6); have := hB 2; omega) (by decide) dX8_lays_114 ?_
        show V X 0 0 115 [(0, .ref (ad 0)), (1, vI (F 2 1)), (2, vI 1), (3, vI k)] [vI (F 2 ((40 + (20 * (F 2 1))) + ((F 2 ((18 + (11 * (F 2 1))) + 6)) + (F 2 2)))), vI k] ((mW (vG X) ad (up (up F 0 (up (F 0) 20 (6 + k))) 8 (f8))))
        refine v_icmp_ge (tgt := 142) C dX8_lays_115 (by decide) (by  first | assumption | exact ⟨by omega, by omega⟩) (by have := hB ((40 + (20 * (F 2 1))) + ((F 2 ((18 + (11 * (F 2 1))) + 6)) + (F 2 2))); have := hB 1; have := hB ((18 + (11 * (F 2 1))) + 6); have := hB 2; first | assumption | exact ⟨by omega, by omega⟩) (fun c115 => ?_) (fun c115 => ?_)
        · have e : k = dl (F 2) := by omega
          subst e
          refine V.loc (L' := [(0, .ref (ad 0)), (1, vI (F 2 1)), (2, vI 1)]) [0, 1, 2] rfl ?_
          refine v_iconst C dX8_lays_142 ?_
          refine v_istore_n C M dX8_lays_143 rfl (by decide) (L' := [(3, vI 0), (0, .ref (ad 0)), (1, vI (F 2 1)), (2, vI 1)]) rfl ?_
          refine v_iconst C dX8_lays_144 ?_
          refine v_istore C M dX8_lays_145 (by decide) (L' := [(4, vI 0), (3, vI 0), (0, .ref (ad 0)), (1, vI (F 2 1)), (2, vI 1)]) rfl ?_
          refine V.loc (L' := [(0, .ref (ad 0)), (1, vI (F 2 1)), (2, vI 1), (3, vI 0), (4, vI 0)]) [2, 3, 4, 1, 0] rfl ?_
          have lp : ∀ (n : Nat) (k : Int) (hk : 0 ≤ k) (hk2 : k ≤ 6 + dl (F 2)) (hm : 6 + dl (F 2) - k < (n : Int)), V X 0 0 147 [(0, .ref (ad 0)), (1, vI (F 2 1)), (2, vI 1), (3, vI (sumI (pb0 (F 2)) k)), (4, vI k)] [] ((mW (vG X) ad (up (up F 0 (up (F 0) 20 (6 + dl (F 2)))) 8 (f8)))) := by
            intro n
            induction n with
            | zero => intro k hk hk2 hm; exact absurd hm (by omega)
            | succ n ih =>
              intro k hk hk2 hm
              refine v_iload C dX8_lays_147 4 rfl ?_
              refine v_aload_n C dX8_lays_149 rfl 0 rfl ?_
              refine v_get (v := vI (6 + dl (F 2))) C inw_8 0 20 rfl (by decide) (List.mem_cons_of_mem _ mw_537) rfl rfl dX8_lays_150 ?_
              refine v_icmp_ge (tgt := 172) C dX8_lays_153 (by decide) (by  first | assumption | exact ⟨by omega, by omega⟩) (by  first | assumption | exact ⟨by omega, by omega⟩) (fun c153 => ?_) (fun c153 => ?_)
              · have e : k = 6 + dl (F 2) := by omega
                subst e
                refine v_aload_n C dX8_lays_172 rfl 0 rfl ?_
                refine v_iload_n C dX8_lays_173 rfl 3 rfl ?_
                refine v_callV (na := 1) (wy := (Cond.code yX8_says cX8_says 2 none :: wsL_law)) (wc := (mW (vG X) ad (up (up F 0 (up (F 0) 20 (6 + dl (F 2)))) 8 (f8)))) (wr := []) C [vI (sumI (pb0 (F 2)) (6 + dl (F 2)))] [] (c_X8_says _ _ ad (up (up F 0 (up (F 0) 20 (6 + dl (F 2)))) 8 (f8)) (sumI (pb0 (F 2)) (6 + dl (F 2))) (show (0 : Int) ≤ (6 + dl (F 2)) by omega) (show ((6 + dl (F 2)) : Int) < 15 by omega)) rfl (gwV mw_550 mw_547 mw_548 mw_549 mw_5) rfl (by decide +kernel) 0 rfl rfl rfl rfl Sb.w rfl rfl dX8_lays_174 (fun r w1 hp174_15 => ?_)
                obtain ⟨rfl, rfl⟩ := hp174_15
                show V X 0 0 177 [(0, .ref (ad 0)), (1, vI (F 2 1)), (2, vI 1), (3, vI (sumI (pb0 (F 2)) (6 + dl (F 2)))), (4, vI (6 + dl (F 2)))] [] ((mW (vG X) ad (up (up F 0 (up (F 0) 20 ((6 + dl (F 2)) + 1))) 8 (up (f8) (6 + dl (F 2)) ((sumI (pb0 (F 2)) (6 + dl (F 2))) % 256)))))
                refine v_aload_n C dX8_lays_177 rfl 0 rfl ?_
                refine v_iconst C dX8_lays_178 ?_
                refine v_put C inw_8 tyX8 tyX8_ok nmX8 0 22 rfl (by decide) (List.mem_cons_of_mem _ mw_532) rfl rfl rfl rfl (Nat.le_of_ble_eq_true rfl) dX8_lays_179 (ws' := (mW (vG X) ad (up (up F 0 (up (up (F 0) 20 ((6 + dl (F 2)) + 1)) 22 0)) 8 (up (f8) (6 + dl (F 2)) ((sumI (pb0 (F 2)) (6 + dl (F 2))) % 256))))) rfl ?_
                refine v_aload_n C dX8_lays_182 rfl 0 rfl ?_
                refine v_iconst C dX8_lays_183 ?_
                refine v_put C inw_8 tyX8 tyX8_ok nmX8 0 23 rfl (by decide) (List.mem_cons_of_mem _ mw_538) rfl rfl rfl rfl (Nat.le_of_ble_eq_true rfl) dX8_lays_184 (ws' := (mW (vG X) ad (up (up F 0 (up (up (up (F 0) 20 ((6 + dl (F 2)) + 1)) 22 0) 23 0)) 8 (up (f8) (6 + dl (F 2)) ((sumI (pb0 (F 2)) (6 + dl (F 2))) % 256))))) rfl ?_
                refine v_aload_n C dX8_lays_187 rfl 0 rfl ?_
                refine v_bipush C dX8_lays_188 (by decide +kernel) ?_
                refine v_callV (na := 1) (wy := (Cond.code yX8_sends cX8_sends 2 none :: wsL_law)) (wc := (mW (vG X) ad (up (up F 0 (up (up (up (F 0) 20 ((6 + dl (F 2)) + 1)) 22 0) 23 0)) 8 (up (f8) (6 + dl (F 2)) ((sumI (pb0 (F 2)) (6 + dl (F 2))) % 256))))) (wr := []) C [vI 126] [] (c_X8_sends _ _ ad (up (up F 0 (up (up (up (F 0) 20 ((6 + dl (F 2)) + 1)) 22 0) 23 0)) 8 (up (f8) (6 + dl (F 2)) ((sumI (pb0 (F 2)) (6 + dl (F 2))) % 256))) 126 (show (0 : Int) ≤ 0 by omega) (show (0 : Int) < 40 by omega)) rfl (gwV mw_558 mw_555 mw_556 mw_557 mw_5) rfl (by decide +kernel) 0 rfl rfl rfl rfl Sb.w rfl rfl dX8_lays_190 (fun r w1 hp190_16 => ?_)
                obtain ⟨rfl, rfl⟩ := hp190_16
                show V X 0 0 193 [(0, .ref (ad 0)), (1, vI (F 2 1)), (2, vI 1), (3, vI (sumI (pb0 (F 2)) (6 + dl (F 2)))), (4, vI (6 + dl (F 2)))] [] ((mW (vG X) ad (up (up (up F 0 (up (up (up (F 0) 20 ((6 + dl (F 2)) + 1)) 23 0) 22 1)) 8 (up (f8) (6 + dl (F 2)) ((sumI (pb0 (F 2)) (6 + dl (F 2))) % 256))) 9 (up (F 9) 0 126))))
                refine v_iconst C dX8_lays_193 ?_
                refine v_istore C M dX8_lays_194 (by decide) (L' := [(4, vI 0), (0, .ref (ad 0)), (1, vI (F 2 1)), (2, vI 1), (3, vI (sumI (pb0 (F 2)) (6 + dl (F 2))))]) rfl ?_
                have hg8 : ∀ j, 0 ≤ j → j < 7 + dl (F 2) → (up (f8) (6 + dl (F 2)) ((sumI (pb0 (F 2)) (6 + dl (F 2))) % 256)) j = pbF (F 2) j := by
                  intro j j0 j1
                  unfold pbF
                  by_cases e : j = 6 + dl (F 2)
                  · rw [if_pos e, e, up_s]
                  · rw [if_neg e, up_n (by omega)]; exact hf8 j j0 (by omega)
                generalize (up (f8) (6 + dl (F 2)) ((sumI (pb0 (F 2)) (6 + dl (F 2))) % 256)) = g8 at hg8 ⊢
                have hL : LSp (up (F 9) 0 126) (pbF (F 2)) 0 := ⟨up_s, fun j h0 h1 => absurd h1 (by omega)⟩
                generalize (up (F 9) 0 126) = g9 at hL ⊢
                refine V.loc (L' := [(0, .ref (ad 0)), (1, vI (F 2 1)), (2, vI 1), (4, vI 0)]) [1, 2, 3, 0] rfl ?_
                rw [show 6 + dl (F 2) + 1 = 7 + dl (F 2) by omega]
                have lp : ∀ (n : Nat) (k : Int) (li : Int → Int) (hk : 0 ≤ k) (hk2 : k ≤ 7 + dl (F 2)) (hL : LSp li (pbF (F 2)) k) (hm : 7 + dl (F 2) - k < (n : Int)), V X 0 0 196 [(0, .ref (ad 0)), (1, vI (F 2 1)), (2, vI 1), (4, vI k)] [] ((mW (vG X) ad (up (up (up F 0 (up (up (up (F 0) 20 (7 + dl (F 2))) 22 ((1 + k) + (escI (pbF (F 2)) k))) 23 (escI (pbF (F 2)) k))) 8 (g8)) 9 (li)))) := by
                  intro n
                  induction n with
                  | zero => intro k li hk hk2 hL hm; exact absurd hm (by omega)
                  | succ n ih =>
                    intro k li hk hk2 hL hm
                    refine v_iload C dX8_lays_196 3 rfl ?_
                    refine v_aload_n C dX8_lays_198 rfl 0 rfl ?_
                    refine v_get (v := vI (7 + dl (F 2))) C inw_8 0 20 rfl (by decide) (List.mem_cons_of_mem _ mw_537) rfl rfl dX8_lays_199 ?_
                    refine v_icmp_ge (tgt := 301) C dX8_lays_202 (by decide) (by  first | assumption | exact ⟨by omega, by omega⟩) (by  first | assumption | exact ⟨by omega, by omega⟩) (fun c202 => ?_) (fun c202 => ?_)
                    · have e : k = 7 + dl (F 2) := by omega
                      subst e
                      have he := escI_in (f := pbF (F 2)) (k := 7 + dl (F 2)) (by omega)
                      refine v_aload_n C dX8_lays_301 rfl 0 rfl ?_
                      refine v_bipush C dX8_lays_302 (by decide +kernel) ?_
                      refine v_callV (na := 1) (wy := (Cond.code yX8_sends cX8_sends 2 none :: wsL_law)) (wc := (mW (vG X) ad (up (up (up F 0 (up (up (up (F 0) 20 (7 + dl (F 2))) 22 ((1 + (7 + dl (F 2))) + (escI (pbF (F 2)) (7 + dl (F 2))))) 23 (escI (pbF (F 2)) (7 + dl (F 2))))) 8 (g8)) 9 (li)))) (wr := []) C [vI 126] [] (c_X8_sends _ _ ad (up (up (up F 0 (up (up (up (F 0) 20 (7 + dl (F 2))) 22 ((1 + (7 + dl (F 2))) + (escI (pbF (F 2)) (7 + dl (F 2))))) 23 (escI (pbF (F 2)) (7 + dl (F 2))))) 8 (g8)) 9 (li)) 126 (show (0 : Int) ≤ ((1 + (7 + dl (F 2))) + (escI (pbF (F 2)) (7 + dl (F 2)))) by omega) (show (((1 + (7 + dl (F 2))) + (escI (pbF (F 2)) (7 + dl (F 2)))) : Int) < 40 by omega)) rfl (gwV mw_558 mw_555 mw_556 mw_557 mw_5) rfl (by decide +kernel) 0 rfl rfl rfl rfl Sb.w rfl rfl dX8_lays_304 (fun r w1 hp304_17 => ?_)
                      obtain ⟨rfl, rfl⟩ := hp304_17
                      show V X 0 0 307 [(0, .ref (ad 0)), (1, vI (F 2 1)), (2, vI 1), (4, vI (7 + dl (F 2)))] [] ((mW (vG X) ad (up (up (up F 0 (up (up (up (F 0) 20 (7 + dl (F 2))) 23 (escI (pbF (F 2)) (7 + dl (F 2)))) 22 (((1 + (7 + dl (F 2))) + (escI (pbF (F 2)) (7 + dl (F 2)))) + 1))) 8 (g8)) 9 (up (li) ((1 + (7 + dl (F 2))) + (escI (pbF (F 2)) (7 + dl (F 2)))) 126))))
                      have q := LSp_up (v := 126) (by omega) hL (Int.le_refl _)
                      exact v_vret C E rfl dX8_lays_307 (by decide) (by decide) (⟨rfl, g8, _, (by rw [show 2 + (7 + dl (F 2)) + escI (pbF (F 2)) (7 + dl (F 2)) = 1 + (7 + dl (F 2)) + escI (pbF (F 2)) (7 + dl (F 2)) + 1 by omega]; rfl), hg8, q, up_s⟩)
                    · have hv := hg8 k hk (by omega)
                      have hp := pbF_in (F 2) k
                      have he := escI_in (f := pbF (F 2)) (k := k) hk
                      have hes := escI_s (f := pbF (F 2)) (k := k) hk
                      refine v_aload_n C dX8_lays_205 rfl 0 rfl ?_
                      refine v_get (v := .ref (ad 8)) C inw_8 0 19 rfl (by decide) (List.mem_cons_of_mem _ mw_112) rfl rfl dX8_lays_206 ?_
                      refine v_iload C dX8_lays_209 3 rfl ?_
                      refine v_iald C 8 rfl (by  omega) (by  omega) (by decide) dX8_lays_211 ?_
                      show V X 0 0 212 [(0, .ref (ad 0)), (1, vI (F 2 1)), (2, vI 1), (4, vI k)] [vI (g8 k)] ((mW (vG X) ad (up (up (up F 0 (up (up (up (F 0) 20 (7 + dl (F 2))) 22 ((1 + k) + (escI (pbF (F 2)) k))) 23 (escI (pbF (F 2)) k))) 8 (g8)) 9 (li))))
                      refine v_bipush C dX8_lays_212 (by decide +kernel) ?_
                      refine v_icmp_eq (tgt := 229) C dX8_lays_214 (by decide) (by  first | assumption | exact ⟨by omega, by omega⟩) (by decide) (fun c214 => ?_) (fun c214 => ?_)
                      · skip
                        refine v_iconst C dX8_lays_229 ?_
                        refine v_goto (tgt := 234) C dX8_lays_230 (by decide) ?_
                        refine v_istore C M dX8_lays_234 (by decide) (L' := [(5, vI 1), (0, .ref (ad 0)), (1, vI (F 2 1)), (2, vI 1), (4, vI k)]) rfl ?_
                        have hm : isMk (pbF (F 2) k) := by unfold isMk; omega
                        rw [bI_t hm] at hes
                        refine v_iload C dX8_lays_236 0 rfl ?_
                        refine v_if_eq (tgt := 247) C dX8_lays_238 (by decide) (by decide) (fun c => absurd c (by decide)) (fun _ => ?_)
                        refine v_aload_n C dX8_lays_241 rfl 1 rfl ?_
                        refine v_bipush C dX8_lays_242 (by decide +kernel) ?_
                        refine v_callV (na := 1) (wy := (Cond.code yX8_sends cX8_sends 2 none :: wsL_law)) (wc := (mW (vG X) ad (up (up (up F 0 (up (up (up (F 0) 20 (7 + dl (F 2))) 22 ((1 + k) + (escI (pbF (F 2)) k))) 23 (escI (pbF (F 2)) k))) 8 (g8)) 9 (li)))) (wr := []) C [vI 125] [] (c_X8_sends _ _ ad (up (up (up F 0 (up (up (up (F 0) 20 (7 + dl (F 2))) 22 ((1 + k) + (escI (pbF (F 2)) k))) 23 (escI (pbF (F 2)) k))) 8 (g8)) 9 (li)) 125 (show (0 : Int) ≤ ((1 + k) + (escI (pbF (F 2)) k)) by omega) (show (((1 + k) + (escI (pbF (F 2)) k)) : Int) < 40 by omega)) rfl (gwV mw_558 mw_555 mw_556 mw_557 mw_5) rfl (by decide +kernel) 0 rfl rfl rfl rfl Sb.w rfl rfl dX8_lays_244 (fun r w1 hp244_18 => ?_)
                        obtain ⟨rfl, rfl⟩ := hp244_18
                        show V X 0 0 247 [(5, vI 1), (0, .ref (ad 0)), (1, vI (F 2 1)), (2, vI 1), (4, vI k)] [] ((mW (vG X) ad (up (up (up F 0 (up (up (up (F 0) 20 (7 + dl (F 2))) 23 (escI (pbF (F 2)) k)) 22 (((1 + k) + (escI (pbF (F 2)) k)) + 1))) 8 (g8)) 9 (up (li) ((1 + k) + (escI (pbF (F 2)) k)) 125))))
                        refine v_aload_n C dX8_lays_247 rfl 1 rfl ?_
                        refine v_dup C dX8_lays_248 rfl ?_
                        refine v_get (v := vI (escI (pbF (F 2)) k)) C inw_8 0 23 rfl (by decide) (List.mem_cons_of_mem _ mw_538) rfl rfl dX8_lays_249 ?_
                        refine v_iload C dX8_lays_252 0 rfl ?_
                        refine v_if_eq (tgt := 261) C dX8_lays_254 (by decide) (by decide) (fun c => absurd c (by decide)) (fun _ => ?_)
                        refine v_iconst C dX8_lays_257 ?_
                        refine v_goto (tgt := 262) C dX8_lays_258 (by decide) ?_
                        refine v_iadd C dX8_lays_262 ?_
                        refine v_put C inw_8 tyX8 tyX8_ok nmX8 0 23 rfl (by decide) (List.mem_cons_of_mem _ mw_538) rfl rfl rfl rfl (Nat.le_of_ble_eq_true rfl) dX8_lays_263 (ws' := (mW (vG X) ad (up (up (up F 0 (up (up (up (F 0) 20 (7 + dl (F 2))) 22 (((1 + k) + (escI (pbF (F 2)) k)) + 1)) 23 ((escI (pbF (F 2)) k) + 1))) 8 (g8)) 9 (up (li) ((1 + k) + (escI (pbF (F 2)) k)) 125)))) rfl ?_
                        refine v_aload_n C dX8_lays_266 rfl 1 rfl ?_
                        refine v_iload C dX8_lays_267 0 rfl ?_
                        refine v_if_eq (tgt := 285) C dX8_lays_269 (by decide) (by decide) (fun c => absurd c (by decide)) (fun _ => ?_)
                        refine v_aload_n C dX8_lays_272 rfl 1 rfl ?_
                        refine v_get (v := .ref (ad 8)) C inw_8 0 19 rfl (by decide) (List.mem_cons_of_mem _ mw_112) rfl rfl dX8_lays_273 ?_
                        refine v_iload C dX8_lays_276 4 rfl ?_
                        refine v_iald C 8 rfl (by  omega) (by  omega) (by decide) dX8_lays_278 ?_
                        show V X 0 0 279 [(5, vI 1), (0, .ref (ad 0)), (1, vI (F 2 1)), (2, vI 1), (4, vI k)] [vI (g8 k), .ref (ad 0)] ((mW (vG X) ad (up (up (up F 0 (up (up (up (F 0) 20 (7 + dl (F 2))) 22 (((1 + k) + (escI (pbF (F 2)) k)) + 1)) 23 ((escI (pbF (F 2)) k) + 1))) 8 (g8)) 9 (up (li) ((1 + k) + (escI (pbF (F 2)) k)) 125))))
                        refine v_bipush C dX8_lays_279 (by decide +kernel) ?_
                        refine v_ixor (z := xr (g8 k)) C dX8_lays_281 (ixor32 (by omega)) ?_
                        refine v_goto (tgt := 292) C dX8_lays_282 (by decide) ?_
                        refine v_callV (na := 1) (wy := (Cond.code yX8_sends cX8_sends 2 none :: wsL_law)) (wc := (mW (vG X) ad (up (up (up F 0 (up (up (up (F 0) 20 (7 + dl (F 2))) 22 (((1 + k) + (escI (pbF (F 2)) k)) + 1)) 23 ((escI (pbF (F 2)) k) + 1))) 8 (g8)) 9 (up (li) ((1 + k) + (escI (pbF (F 2)) k)) 125)))) (wr := []) C [vI (xr (g8 k))] [] (c_X8_sends _ _ ad (up (up (up F 0 (up (up (up (F 0) 20 (7 + dl (F 2))) 22 (((1 + k) + (escI (pbF (F 2)) k)) + 1)) 23 ((escI (pbF (F 2)) k) + 1))) 8 (g8)) 9 (up (li) ((1 + k) + (escI (pbF (F 2)) k)) 125)) (xr (g8 k)) (show (0 : Int) ≤ (((1 + k) + (escI (pbF (F 2)) k)) + 1) by omega) (show ((((1 + k) + (escI (pbF (F 2)) k)) + 1) : Int) < 40 by omega)) rfl (gwV mw_558 mw_555 mw_556 mw_557 mw_5) rfl (by decide +kernel) 0 rfl rfl rfl rfl Sb.w rfl rfl dX8_lays_292 (fun r w1 hp292_19 => ?_)
                        obtain ⟨rfl, rfl⟩ := hp292_19
                        show V X 0 0 295 [(5, vI 1), (0, .ref (ad 0)), (1, vI (F 2 1)), (2, vI 1), (4, vI k)] [] ((mW (vG X) ad (up (up (up F 0 (up (up (up (F 0) 20 (7 + dl (F 2))) 23 ((escI (pbF (F 2)) k) + 1)) 22 ((((1 + k) + (escI (pbF (F 2)) k)) + 1) + 1))) 8 (g8)) 9 (up (up (li) ((1 + k) + (escI (pbF (F 2)) k)) 125) (((1 + k) + (escI (pbF (F 2)) k)) + 1) (xr (g8 k))))))
                        refine v_iinc C M dX8_lays_295 4 rfl (by decide) (z' := (k + 1)) rfl (L' := [(4, vI (k + 1)), (5, vI 1), (0, .ref (ad 0)), (1, vI (F 2 1)), (2, vI 1)]) rfl ?_
                        refine v_goto (tgt := 196) C dX8_lays_298 (by decide) ?_
                        refine V.loc (L' := [(0, .ref (ad 0)), (1, vI (F 2 1)), (2, vI 1), (4, vI (k + 1))]) [2, 3, 4, 0] rfl ?_
                        have q := LSp_s (LSp_up (v := xr (g8 k)) (i := 1 + k + escI (pbF (F 2)) k + 1) hk (LSp_up (v := 125) hk hL (Int.le_refl _)) (by omega)) (fun _ => ⟨by rw [up_n (by omega), up_s], by rw [up_s, hv]⟩) (fun h => absurd hm h)
                        have key := ih (k + 1) _ (by omega) (by omega) q (by omega)
                        rw [hes] at key
                        rw [show 1 + (k + 1) + (escI (pbF (F 2)) k + 1) = 1 + k + escI (pbF (F 2)) k + 1 + 1 by omega] at key
                        exact key
                      · refine v_aload_n C dX8_lays_217 rfl 0 rfl ?_
                        refine v_get (v := .ref (ad 8)) C inw_8 0 19 rfl (by decide) (List.mem_cons_of_mem _ mw_112) rfl rfl dX8_lays_218 ?_
                        refine v_iload C dX8_lays_221 3 rfl ?_
                        refine v_iald C 8 rfl (by  omega) (by  omega) (by decide) dX8_lays_223 ?_
                        show V X 0 0 224 [(0, .ref (ad 0)), (1, vI (F 2 1)), (2, vI 1), (4, vI k)] [vI (g8 k)] ((mW (vG X) ad (up (up (up F 0 (up (up (up (F 0) 20 (7 + dl (F 2))) 22 ((1 + k) + (escI (pbF (F 2)) k))) 23 (escI (pbF (F 2)) k))) 8 (g8)) 9 (li))))
                        refine v_bipush C dX8_lays_224 (by decide +kernel) ?_
                        refine v_icmp_ne (tgt := 233) C dX8_lays_226 (by decide) (by  first | assumption | exact ⟨by omega, by omega⟩) (by decide) (fun c226 => ?_) (fun c226 => ?_)
                        · skip
                          refine v_iconst C dX8_lays_233 ?_
                          refine v_istore C M dX8_lays_234 (by decide) (L' := [(5, vI 0), (0, .ref (ad 0)), (1, vI (F 2 1)), (2, vI 1), (4, vI k)]) rfl ?_
                          have hm : ¬ isMk (pbF (F 2) k) := by unfold isMk; omega
                          rw [bI_f hm] at hes
                          refine v_iload C dX8_lays_236 0 rfl ?_
                          refine v_if_eq (tgt := 247) C dX8_lays_238 (by decide) (by decide) (fun _ => ?_) (fun c => absurd (by decide) c)
                          refine v_aload_n C dX8_lays_247 rfl 1 rfl ?_
                          refine v_dup C dX8_lays_248 rfl ?_
                          refine v_get (v := vI (escI (pbF (F 2)) k)) C inw_8 0 23 rfl (by decide) (List.mem_cons_of_mem _ mw_538) rfl rfl dX8_lays_249 ?_
                          refine v_iload C dX8_lays_252 0 rfl ?_
                          refine v_if_eq (tgt := 261) C dX8_lays_254 (by decide) (by decide) (fun _ => ?_) (fun c => absurd (by decide) c)
                          refine v_iconst C dX8_lays_261 ?_
                          refine v_iadd C dX8_lays_262 ?_
                          refine v_put C inw_8 tyX8 tyX8_ok nmX8 0 23 rfl (by decide) (List.mem_cons_of_mem _ mw_538) rfl rfl rfl rfl (Nat.le_of_ble_eq_true rfl) dX8_lays_263 (ws' := (mW (vG X) ad (up (up (up F 0 (up (up (up (F 0) 20 (7 + dl (F 2))) 22 ((1 + k) + (escI (pbF (F 2)) k))) 23 ((escI (pbF (F 2)) k) + 0))) 8 (g8)) 9 (li)))) rfl ?_
                          refine v_aload_n C dX8_lays_266 rfl 1 rfl ?_
                          refine v_iload C dX8_lays_267 0 rfl ?_
                          refine v_if_eq (tgt := 285) C dX8_lays_269 (by decide) (by decide) (fun _ => ?_) (fun c => absurd (by decide) c)
                          refine v_aload_n C dX8_lays_285 rfl 1 rfl ?_
                          refine v_get (v := .ref (ad 8)) C inw_8 0 19 rfl (by decide) (List.mem_cons_of_mem _ mw_112) rfl rfl dX8_lays_286 ?_
                          refine v_iload C dX8_lays_289 4 rfl ?_
                          refine v_iald C 8 rfl (by  omega) (by  omega) (by decide) dX8_lays_291 ?_
                          show V X 0 0 292 [(5, vI 0), (0, .ref (ad 0)), (1, vI (F 2 1)), (2, vI 1), (4, vI k)] [vI (g8 k), .ref (ad 0)] ((mW (vG X) ad (up (up (up F 0 (up (up (up (F 0) 20 (7 + dl (F 2))) 22 ((1 + k) + (escI (pbF (F 2)) k))) 23 ((escI (pbF (F 2)) k) + 0))) 8 (g8)) 9 (li))))
                          refine v_callV (na := 1) (wy := (Cond.code yX8_sends cX8_sends 2 none :: wsL_law)) (wc := (mW (vG X) ad (up (up (up F 0 (up (up (up (F 0) 20 (7 + dl (F 2))) 22 ((1 + k) + (escI (pbF (F 2)) k))) 23 ((escI (pbF (F 2)) k) + 0))) 8 (g8)) 9 (li)))) (wr := []) C [vI (g8 k)] [] (c_X8_sends _ _ ad (up (up (up F 0 (up (up (up (F 0) 20 (7 + dl (F 2))) 22 ((1 + k) + (escI (pbF (F 2)) k))) 23 ((escI (pbF (F 2)) k) + 0))) 8 (g8)) 9 (li)) (g8 k) (show (0 : Int) ≤ ((1 + k) + (escI (pbF (F 2)) k)) by omega) (show (((1 + k) + (escI (pbF (F 2)) k)) : Int) < 40 by omega)) rfl (gwV mw_558 mw_555 mw_556 mw_557 mw_5) rfl (by decide +kernel) 0 rfl rfl rfl rfl Sb.w rfl rfl dX8_lays_292 (fun r w1 hp292_20 => ?_)
                          obtain ⟨rfl, rfl⟩ := hp292_20
                          show V X 0 0 295 [(5, vI 0), (0, .ref (ad 0)), (1, vI (F 2 1)), (2, vI 1), (4, vI k)] [] ((mW (vG X) ad (up (up (up F 0 (up (up (up (F 0) 20 (7 + dl (F 2))) 23 ((escI (pbF (F 2)) k) + 0)) 22 (((1 + k) + (escI (pbF (F 2)) k)) + 1))) 8 (g8)) 9 (up (li) ((1 + k) + (escI (pbF (F 2)) k)) (g8 k)))))
                          refine v_iinc C M dX8_lays_295 4 rfl (by decide) (z' := (k + 1)) rfl (L' := [(4, vI (k + 1)), (5, vI 0), (0, .ref (ad 0)), (1, vI (F 2 1)), (2, vI 1)]) rfl ?_
                          refine v_goto (tgt := 196) C dX8_lays_298 (by decide) ?_
                          refine V.loc (L' := [(0, .ref (ad 0)), (1, vI (F 2 1)), (2, vI 1), (4, vI (k + 1))]) [2, 3, 4, 0] rfl ?_
                          have q := LSp_s (LSp_up (v := g8 k) hk hL (Int.le_refl _)) (fun h => absurd h hm) (fun _ => by rw [up_s, hv])
                          have key := ih (k + 1) _ (by omega) (by omega) q (by omega)
                          rw [hes] at key
                          rw [show 1 + (k + 1) + (escI (pbF (F 2)) k + 0) = 1 + k + escI (pbF (F 2)) k + 1 by omega] at key
                          exact key
                        · skip
                          refine v_iconst C dX8_lays_229 ?_
                          refine v_goto (tgt := 234) C dX8_lays_230 (by decide) ?_
                          refine v_istore C M dX8_lays_234 (by decide) (L' := [(5, vI 1), (0, .ref (ad 0)), (1, vI (F 2 1)), (2, vI 1), (4, vI k)]) rfl ?_
                          have hm : isMk (pbF (F 2) k) := by unfold isMk; omega
                          rw [bI_t hm] at hes
                          refine v_iload C dX8_lays_236 0 rfl ?_
                          refine v_if_eq (tgt := 247) C dX8_lays_238 (by decide) (by decide) (fun c => absurd c (by decide)) (fun _ => ?_)
                          refine v_aload_n C dX8_lays_241 rfl 1 rfl ?_
                          refine v_bipush C dX8_lays_242 (by decide +kernel) ?_
                          refine v_callV (na := 1) (wy := (Cond.code yX8_sends cX8_sends 2 none :: wsL_law)) (wc := (mW (vG X) ad (up (up (up F 0 (up (up (up (F 0) 20 (7 + dl (F 2))) 22 ((1 + k) + (escI (pbF (F 2)) k))) 23 (escI (pbF (F 2)) k))) 8 (g8)) 9 (li)))) (wr := []) C [vI 125] [] (c_X8_sends _ _ ad (up (up (up F 0 (up (up (up (F 0) 20 (7 + dl (F 2))) 22 ((1 + k) + (escI (pbF (F 2)) k))) 23 (escI (pbF (F 2)) k))) 8 (g8)) 9 (li)) 125 (show (0 : Int) ≤ ((1 + k) + (escI (pbF (F 2)) k)) by omega) (show (((1 + k) + (escI (pbF (F 2)) k)) : Int) < 40 by omega)) rfl (gwV mw_558 mw_555 mw_556 mw_557 mw_5) rfl (by decide +kernel) 0 rfl rfl rfl rfl Sb.w rfl rfl dX8_lays_244 (fun r w1 hp244_21 => ?_)
                          obtain ⟨rfl, rfl⟩ := hp244_21
                          show V X 0 0 247 [(5, vI 1), (0, .ref (ad 0)), (1, vI (F 2 1)), (2, vI 1), (4, vI k)] [] ((mW (vG X) ad (up (up (up F 0 (up (up (up (F 0) 20 (7 + dl (F 2))) 23 (escI (pbF (F 2)) k)) 22 (((1 + k) + (escI (pbF (F 2)) k)) + 1))) 8 (g8)) 9 (up (li) ((1 + k) + (escI (pbF (F 2)) k)) 125))))
                          refine v_aload_n C dX8_lays_247 rfl 1 rfl ?_
                          refine v_dup C dX8_lays_248 rfl ?_
                          refine v_get (v := vI (escI (pbF (F 2)) k)) C inw_8 0 23 rfl (by decide) (List.mem_cons_of_mem _ mw_538) rfl rfl dX8_lays_249 ?_
                          refine v_iload C dX8_lays_252 0 rfl ?_
                          refine v_if_eq (tgt := 261) C dX8_lays_254 (by decide) (by decide) (fun c => absurd c (by decide)) (fun _ => ?_)
                          refine v_iconst C dX8_lays_257 ?_
                          refine v_goto (tgt := 262) C dX8_lays_258 (by decide) ?_
                          refine v_iadd C dX8_lays_262 ?_
                          refine v_put C inw_8 tyX8 tyX8_ok nmX8 0 23 rfl (by decide) (List.mem_cons_of_mem _ mw_538) rfl rfl rfl rfl (Nat.le_of_ble_eq_true rfl) dX8_lays_263 (ws' := (mW (vG X) ad (up (up (up F 0 (up (up (up (F 0) 20 (7 + dl (F 2))) 22 (((1 + k) + (escI (pbF (F 2)) k)) + 1)) 23 ((escI (pbF (F 2)) k) + 1))) 8 (g8)) 9 (up (li) ((1 + k) + (escI (pbF (F 2)) k)) 125)))) rfl ?_
                          refine v_aload_n C dX8_lays_266 rfl 1 rfl ?_
                          refine v_iload C dX8_lays_267 0 rfl ?_
                          refine v_if_eq (tgt := 285) C dX8_lays_269 (by decide) (by decide) (fun c => absurd c (by decide)) (fun _ => ?_)
                          refine v_aload_n C dX8_lays_272 rfl 1 rfl ?_
                          refine v_get (v := .ref (ad 8)) C inw_8 0 19 rfl (by decide) (List.mem_cons_of_mem _ mw_112) rfl rfl dX8_lays_273 ?_
                          refine v_iload C dX8_lays_276 4 rfl ?_
                          refine v_iald C 8 rfl (by  omega) (by  omega) (by decide) dX8_lays_278 ?_
                          show V X 0 0 279 [(5, vI 1), (0, .ref (ad 0)), (1, vI (F 2 1)), (2, vI 1), (4, vI k)] [vI (g8 k), .ref (ad 0)] ((mW (vG X) ad (up (up (up F 0 (up (up (up (F 0) 20 (7 + dl (F 2))) 22 (((1 + k) + (escI (pbF (F 2)) k)) + 1)) 23 ((escI (pbF (F 2)) k) + 1))) 8 (g8)) 9 (up (li) ((1 + k) + (escI (pbF (F 2)) k)) 125))))
                          refine v_bipush C dX8_lays_279 (by decide +kernel) ?_
                          refine v_ixor (z := xr (g8 k)) C dX8_lays_281 (ixor32 (by omega)) ?_
                          refine v_goto (tgt := 292) C dX8_lays_282 (by decide) ?_
                          refine v_callV (na := 1) (wy := (Cond.code yX8_sends cX8_sends 2 none :: wsL_law)) (wc := (mW (vG X) ad (up (up (up F 0 (up (up (up (F 0) 20 (7 + dl (F 2))) 22 (((1 + k) + (escI (pbF (F 2)) k)) + 1)) 23 ((escI (pbF (F 2)) k) + 1))) 8 (g8)) 9 (up (li) ((1 + k) + (escI (pbF (F 2)) k)) 125)))) (wr := []) C [vI (xr (g8 k))] [] (c_X8_sends _ _ ad (up (up (up F 0 (up (up (up (F 0) 20 (7 + dl (F 2))) 22 (((1 + k) + (escI (pbF (F 2)) k)) + 1)) 23 ((escI (pbF (F 2)) k) + 1))) 8 (g8)) 9 (up (li) ((1 + k) + (escI (pbF (F 2)) k)) 125)) (xr (g8 k)) (show (0 : Int) ≤ (((1 + k) + (escI (pbF (F 2)) k)) + 1) by omega) (show ((((1 + k) + (escI (pbF (F 2)) k)) + 1) : Int) < 40 by omega)) rfl (gwV mw_558 mw_555 mw_556 mw_557 mw_5) rfl (by decide +kernel) 0 rfl rfl rfl rfl Sb.w rfl rfl dX8_lays_292 (fun r w1 hp292_22 => ?_)
                          obtain ⟨rfl, rfl⟩ := hp292_22
                          show V X 0 0 295 [(5, vI 1), (0, .ref (ad 0)), (1, vI (F 2 1)), (2, vI 1), (4, vI k)] [] ((mW (vG X) ad (up (up (up F 0 (up (up (up (F 0) 20 (7 + dl (F 2))) 23 ((escI (pbF (F 2)) k) + 1)) 22 ((((1 + k) + (escI (pbF (F 2)) k)) + 1) + 1))) 8 (g8)) 9 (up (up (li) ((1 + k) + (escI (pbF (F 2)) k)) 125) (((1 + k) + (escI (pbF (F 2)) k)) + 1) (xr (g8 k))))))
                          refine v_iinc C M dX8_lays_295 4 rfl (by decide) (z' := (k + 1)) rfl (L' := [(4, vI (k + 1)), (5, vI 1), (0, .ref (ad 0)), (1, vI (F 2 1)), (2, vI 1)]) rfl ?_
                          refine v_goto (tgt := 196) C dX8_lays_298 (by decide) ?_
                          refine V.loc (L' := [(0, .ref (ad 0)), (1, vI (F 2 1)), (2, vI 1), (4, vI (k + 1))]) [2, 3, 4, 0] rfl ?_
                          have q := LSp_s (LSp_up (v := xr (g8 k)) (i := 1 + k + escI (pbF (F 2)) k + 1) hk (LSp_up (v := 125) hk hL (Int.le_refl _)) (by omega)) (fun _ => ⟨by rw [up_n (by omega), up_s], by rw [up_s, hv]⟩) (fun h => absurd hm h)
                          have key := ih (k + 1) _ (by omega) (by omega) q (by omega)
                          rw [hes] at key
                          rw [show 1 + (k + 1) + (escI (pbF (F 2)) k + 1) = 1 + k + escI (pbF (F 2)) k + 1 + 1 by omega] at key
                          exact key
                exact lp 16 0 g9 (by omega) (by omega) hL (by omega)
              · refine v_iload_n C dX8_lays_156 rfl 3 rfl ?_
                refine v_aload_n C dX8_lays_157 rfl 0 rfl ?_
                refine v_get (v := .ref (ad 8)) C inw_8 0 19 rfl (by decide) (List.mem_cons_of_mem _ mw_112) rfl rfl dX8_lays_158 ?_
                refine v_iload C dX8_lays_161 4 rfl ?_
                refine v_iald C 8 rfl (by  omega) (by  omega) (by decide) dX8_lays_163 ?_
                show V X 0 0 164 [(0, .ref (ad 0)), (1, vI (F 2 1)), (2, vI 1), (3, vI (sumI (pb0 (F 2)) k)), (4, vI k)] [vI (f8 k), vI (sumI (pb0 (F 2)) k)] ((mW (vG X) ad (up (up F 0 (up (F 0) 20 (6 + dl (F 2)))) 8 (f8))))
                rw [hf8 k hk (by omega)]
                refine v_iadd C dX8_lays_164 ?_
                rw [← sumI_s hk]
                refine v_istore_n C M dX8_lays_165 rfl (by decide) (L' := [(3, vI (sumI (pb0 (F 2)) (k + 1))), (0, .ref (ad 0)), (1, vI (F 2 1)), (2, vI 1), (4, vI k)]) rfl ?_
                refine v_iinc C M dX8_lays_166 4 rfl (by decide) (z' := (k + 1)) rfl (L' := [(4, vI (k + 1)), (3, vI (sumI (pb0 (F 2)) (k + 1))), (0, .ref (ad 0)), (1, vI (F 2 1)), (2, vI 1)]) rfl ?_
                refine v_goto (tgt := 147) C dX8_lays_169 (by decide) ?_
                refine V.loc (L' := [(0, .ref (ad 0)), (1, vI (F 2 1)), (2, vI 1), (3, vI (sumI (pb0 (F 2)) (k + 1))), (4, vI (k + 1))]) [2, 3, 4, 1, 0] rfl ?_
                exact ih (k + 1) (by omega) (by omega) (by omega)
          exact lp 15 0 (by omega) (by omega) (by omega)
        · refine v_aload_n C dX8_lays_118 rfl 0 rfl ?_
          refine v_aload_n C dX8_lays_119 rfl 0 rfl ?_
          refine v_get (v := .ref (ad 2)) C inw_8 0 10 rfl (by decide) (List.mem_cons_of_mem _ mw_105) rfl rfl dX8_lays_120 ?_
          refine v_iload_n C dX8_lays_123 rfl 1 rfl ?_
          refine v_aload_n C dX8_lays_124 rfl 0 rfl ?_
          refine v_callV (na := 0) (wy := (Cond.code yX8_nextMessage cX8_nextMessage 1 (some .int) :: wsL_law)) (wc := (mW (vG X) ad (up (up F 0 (up (F 0) 20 (6 + k))) 8 (f8)))) (wr := []) C [] [vI (F 2 1), .ref (ad 2), .ref (ad 0)] (c_X8_nextMessage _ _ ad (up (up F 0 (up (F 0) 20 (6 + k))) 8 (f8)) hT) rfl (gwV mw_546 mw_543 mw_544 mw_545 mw_5) rfl (by decide +kernel) 0 rfl rfl rfl rfl Sb.w rfl rfl dX8_lays_125 (fun r w1 hp125_23 => ?_)
          obtain ⟨rfl, rfl⟩ := hp125_23
          show V X 0 0 128 [(0, .ref (ad 0)), (1, vI (F 2 1)), (2, vI 1), (3, vI k)] [vI ((F 2 ((18 + (11 * (F 2 1))) + 6)) + (F 2 2)), vI (F 2 1), .ref (ad 2), .ref (ad 0)] ((mW (vG X) ad (up (up F 0 (up (F 0) 20 (6 + k))) 8 (f8))))
          refine v_iload_n C dX8_lays_128 rfl 3 rfl ?_
          refine v_callS (na := 3) (wy := (Cond.code yX8_byteOf cX8_byteOf 3 (some .int) :: wsL_law)) (wc := []) (wr := (mW (vG X) ad (up (up F 0 (up (F 0) 20 (6 + k))) 8 (f8)))) C [vI (F 2 1), vI ((F 2 ((18 + (11 * (F 2 1))) + 6)) + (F 2 2)), vI k] [.ref (ad 2), .ref (ad 0)] (c_X8_byteOf _ _ (F 2 1) ((F 2 ((18 + (11 * (F 2 1))) + 6)) + (F 2 2)) k ) rfl (gwS mw_397 mw_395 mw_396 mw_5) (by decide +kernel) rfl rfl Sb.rf rfl rfl dX8_lays_129 (fun r w1 hp129_24 => ?_)
          obtain ⟨rfl, rfl⟩ := hp129_24
          show V X 0 0 132 [(0, .ref (ad 0)), (1, vI (F 2 1)), (2, vI 1), (3, vI k)] [vI ((80 + (8 * ((20 * (F 2 1)) + ((F 2 ((18 + (11 * (F 2 1))) + 6)) + (F 2 2))))) + k), .ref (ad 2), .ref (ad 0)] ((mW (vG X) ad (up (up F 0 (up (F 0) 20 (6 + k))) 8 (f8))))
          refine v_iald C 2 rfl (by have := hB 1; have := hB ((18 + (11 * (F 2 1))) + 6); have := hB 2; omega) (by have := hB 1; have := hB ((18 + (11 * (F 2 1))) + 6); have := hB 2; omega) (by decide) dX8_lays_132 ?_
          show V X 0 0 133 [(0, .ref (ad 0)), (1, vI (F 2 1)), (2, vI 1), (3, vI k)] [vI (F 2 ((80 + (8 * ((20 * (F 2 1)) + ((F 2 ((18 + (11 * (F 2 1))) + 6)) + (F 2 2))))) + k)), .ref (ad 0)] ((mW (vG X) ad (up (up F 0 (up (F 0) 20 (6 + k))) 8 (f8))))
          refine v_callV (na := 1) (wy := (Cond.code yX8_says cX8_says 2 none :: wsL_law)) (wc := (mW (vG X) ad (up (up F 0 (up (F 0) 20 (6 + k))) 8 (f8)))) (wr := []) C [vI (F 2 ((80 + (8 * ((20 * (F 2 1)) + ((F 2 ((18 + (11 * (F 2 1))) + 6)) + (F 2 2))))) + k))] [] (c_X8_says _ _ ad (up (up F 0 (up (F 0) 20 (6 + k))) 8 (f8)) (F 2 ((80 + (8 * ((20 * (F 2 1)) + ((F 2 ((18 + (11 * (F 2 1))) + 6)) + (F 2 2))))) + k)) (show (0 : Int) ≤ (6 + k) by omega) (show ((6 + k) : Int) < 15 by omega)) rfl (gwV mw_550 mw_547 mw_548 mw_549 mw_5) rfl (by decide +kernel) 0 rfl rfl rfl rfl Sb.w rfl rfl dX8_lays_133 (fun r w1 hp133_25 => ?_)
          obtain ⟨rfl, rfl⟩ := hp133_25
          show V X 0 0 136 [(0, .ref (ad 0)), (1, vI (F 2 1)), (2, vI 1), (3, vI k)] [] ((mW (vG X) ad (up (up F 0 (up (F 0) 20 ((6 + k) + 1))) 8 (up (f8) (6 + k) ((F 2 ((80 + (8 * ((20 * (F 2 1)) + ((F 2 ((18 + (11 * (F 2 1))) + 6)) + (F 2 2))))) + k)) % 256)))))
          refine v_iinc C M dX8_lays_136 3 rfl (by decide) (z' := (k + 1)) rfl (L' := [(3, vI (k + 1)), (0, .ref (ad 0)), (1, vI (F 2 1)), (2, vI 1)]) rfl ?_
          refine v_goto (tgt := 97) C dX8_lays_139 (by decide) ?_
          refine V.loc (L' := [(0, .ref (ad 0)), (1, vI (F 2 1)), (2, vI 1), (3, vI (k + 1))]) [1, 2, 3, 0] rfl ?_
          have key := ih (k + 1) (up (f8) (6 + k) ((F 2 ((80 + (8 * ((20 * (F 2 1)) + ((F 2 ((18 + (11 * (F 2 1))) + 6)) + (F 2 2))))) + k)) % 256)) (by omega) (by omega) (fun j j0 j1 => by
            by_cases e : j = 6 + k
            · rw [e, up_s]; unfold pb0; rw [if_neg (by omega), if_neg (by omega), if_neg (by omega), if_neg (by omega), if_neg (by omega), if_neg (by omega), show 6 + k - 6 = k by omega]
            · rw [up_n e]; exact hf8 j j0 (by omega)) (by omega)
          rw [show 6 + (k + 1) = 6 + k + 1 by omega] at key
          exact key
    exact lp 9 0 f8 (by omega) (by omega) hf8 (by omega)
  · rw [bI_f hd]
    refine v_istore_n C M dX8_lays_11 rfl (by decide) (L' := [(2, vI 0), (1, vI (F 2 1)), (0, .ref (ad 0))]) rfl ?_
    refine v_aload_n C dX8_lays_12 rfl 2 rfl ?_
    refine v_iconst C dX8_lays_13 ?_
    refine v_put C inw_8 tyX8 tyX8_ok nmX8 0 20 rfl (by decide) (List.mem_cons_of_mem _ mw_537) rfl rfl rfl rfl (Nat.le_of_ble_eq_true rfl) dX8_lays_14 (ws' := (mW (vG X) ad (up F 0 (up (F 0) 20 0)))) rfl ?_
    refine v_aload_n C dX8_lays_17 rfl 2 rfl ?_
    refine v_iload_n C dX8_lays_18 rfl 0 rfl ?_
    refine v_if_eq (tgt := 26) C dX8_lays_19 (by decide) (by decide) (fun _ => ?_) (fun c => absurd (by decide) c)
    refine v_iconst C dX8_lays_26 ?_
    refine v_iconst C dX8_lays_27 ?_
    refine v_iload_n C dX8_lays_28 rfl 1 rfl ?_
    refine v_imul C dX8_lays_29 ?_
    refine v_iadd C dX8_lays_30 ?_
    refine v_callV (na := 1) (wy := (Cond.code yX8_says cX8_says 2 none :: wsL_law)) (wc := (mW (vG X) ad (up F 0 (up (F 0) 20 0)))) (wr := []) C [vI (1 + (2 * (F 2 1)))] [] (c_X8_says _ _ ad (up F 0 (up (F 0) 20 0)) (1 + (2 * (F 2 1))) (show (0 : Int) ≤ 0 by omega) (show (0 : Int) < 15 by omega)) rfl (gwV mw_550 mw_547 mw_548 mw_549 mw_5) rfl (by decide +kernel) 0 rfl rfl rfl rfl Sb.w rfl rfl dX8_lays_31 (fun r w1 hp31_26 => ?_)
    obtain ⟨rfl, rfl⟩ := hp31_26
    show V X 0 0 34 [(2, vI 0), (1, vI (F 2 1)), (0, .ref (ad 0))] [] ((mW (vG X) ad (up (up F 0 (up (F 0) 20 1)) 8 (up (F 8) 0 ((1 + (2 * (F 2 1))) % 256)))))
    refine v_aload_n C dX8_lays_34 rfl 2 rfl ?_
    refine v_iload_n C dX8_lays_35 rfl 0 rfl ?_
    refine v_if_eq (tgt := 46) C dX8_lays_36 (by decide) (by decide) (fun _ => ?_) (fun c => absurd (by decide) c)
    refine v_aload_n C dX8_lays_46 rfl 2 rfl ?_
    refine v_iload_n C dX8_lays_47 rfl 1 rfl ?_
    refine v_bipush C dX8_lays_48 (by decide +kernel) ?_
    refine v_callV (na := 2) (wy := (Cond.code yX8_of cX8_of 3 (some .int) :: wsL_law)) (wc := (mW (vG X) ad (up (up F 0 (up (F 0) 20 1)) 8 (up (F 8) 0 ((1 + (2 * (F 2 1))) % 256))))) (wr := []) C [vI (F 2 1), vI 9] [.ref (ad 0)] (c_X8_of _ _ ad (up (up F 0 (up (F 0) 20 1)) 8 (up (F 8) 0 ((1 + (2 * (F 2 1))) % 256))) (F 2 1) 9 (by have := hB 1; omega) (by have := hB 1; omega)) rfl (gwV mw_129 mw_126 mw_127 mw_128 mw_5) rfl (by decide +kernel) 0 rfl rfl rfl rfl Sb.w rfl rfl dX8_lays_50 (fun r w1 hp50_27 => ?_)
    obtain ⟨rfl, rfl⟩ := hp50_27
    show V X 0 0 53 [(2, vI 0), (1, vI (F 2 1)), (0, .ref (ad 0))] [vI (F 2 ((18 + (11 * (F 2 1))) + 9)), .ref (ad 0)] ((mW (vG X) ad (up (up F 0 (up (F 0) 20 1)) 8 (up (F 8) 0 ((1 + (2 * (F 2 1))) % 256)))))
    refine v_callV (na := 1) (wy := (Cond.code yX8_says cX8_says 2 none :: wsL_law)) (wc := (mW (vG X) ad (up (up F 0 (up (F 0) 20 1)) 8 (up (F 8) 0 ((1 + (2 * (F 2 1))) % 256))))) (wr := []) C [vI (F 2 ((18 + (11 * (F 2 1))) + 9))] [] (c_X8_says _ _ ad (up (up F 0 (up (F 0) 20 1)) 8 (up (F 8) 0 ((1 + (2 * (F 2 1))) % 256))) (F 2 ((18 + (11 * (F 2 1))) + 9)) (show (0 : Int) ≤ 1 by omega) (show (1 : Int) < 15 by omega)) rfl (gwV mw_550 mw_547 mw_548 mw_549 mw_5) rfl (by decide +kernel) 0 rfl rfl rfl rfl Sb.w rfl rfl dX8_lays_53 (fun r w1 hp53_28 => ?_)
    obtain ⟨rfl, rfl⟩ := hp53_28
    show V X 0 0 56 [(2, vI 0), (1, vI (F 2 1)), (0, .ref (ad 0))] [] ((mW (vG X) ad (up (up F 0 (up (F 0) 20 2)) 8 (up (up (F 8) 0 ((1 + (2 * (F 2 1))) % 256)) 1 ((F 2 ((18 + (11 * (F 2 1))) + 9)) % 256)))))
    refine v_aload_n C dX8_lays_56 rfl 2 rfl ?_
    refine v_aload_n C dX8_lays_57 rfl 2 rfl ?_
    refine v_iload_n C dX8_lays_58 rfl 1 rfl ?_
    refine v_iconst C dX8_lays_59 ?_
    refine v_callV (na := 2) (wy := (Cond.code yX8_of cX8_of 3 (some .int) :: wsL_law)) (wc := (mW (vG X) ad (up (up F 0 (up (F 0) 20 2)) 8 (up (up (F 8) 0 ((1 + (2 * (F 2 1))) % 256)) 1 ((F 2 ((18 + (11 * (F 2 1))) + 9)) % 256))))) (wr := []) C [vI (F 2 1), vI 1] [.ref (ad 0)] (c_X8_of _ _ ad (up (up F 0 (up (F 0) 20 2)) 8 (up (up (F 8) 0 ((1 + (2 * (F 2 1))) % 256)) 1 ((F 2 ((18 + (11 * (F 2 1))) + 9)) % 256))) (F 2 1) 1 (by have := hB 1; omega) (by have := hB 1; omega)) rfl (gwV mw_129 mw_126 mw_127 mw_128 mw_5) rfl (by decide +kernel) 0 rfl rfl rfl rfl Sb.w rfl rfl dX8_lays_60 (fun r w1 hp60_29 => ?_)
    obtain ⟨rfl, rfl⟩ := hp60_29
    show V X 0 0 63 [(2, vI 0), (1, vI (F 2 1)), (0, .ref (ad 0))] [vI (F 2 ((18 + (11 * (F 2 1))) + 1)), .ref (ad 0)] ((mW (vG X) ad (up (up F 0 (up (F 0) 20 2)) 8 (up (up (F 8) 0 ((1 + (2 * (F 2 1))) % 256)) 1 ((F 2 ((18 + (11 * (F 2 1))) + 9)) % 256)))))
    refine v_callV (na := 1) (wy := (Cond.code yX8_says cX8_says 2 none :: wsL_law)) (wc := (mW (vG X) ad (up (up F 0 (up (F 0) 20 2)) 8 (up (up (F 8) 0 ((1 + (2 * (F 2 1))) % 256)) 1 ((F 2 ((18 + (11 * (F 2 1))) + 9)) % 256))))) (wr := []) C [vI (F 2 ((18 + (11 * (F 2 1))) + 1))] [] (c_X8_says _ _ ad (up (up F 0 (up (F 0) 20 2)) 8 (up (up (F 8) 0 ((1 + (2 * (F 2 1))) % 256)) 1 ((F 2 ((18 + (11 * (F 2 1))) + 9)) % 256))) (F 2 ((18 + (11 * (F 2 1))) + 1)) (show (0 : Int) ≤ 2 by omega) (show (2 : Int) < 15 by omega)) rfl (gwV mw_550 mw_547 mw_548 mw_549 mw_5) rfl (by decide +kernel) 0 rfl rfl rfl rfl Sb.w rfl rfl dX8_lays_63 (fun r w1 hp63_30 => ?_)
    obtain ⟨rfl, rfl⟩ := hp63_30
    show V X 0 0 66 [(2, vI 0), (1, vI (F 2 1)), (0, .ref (ad 0))] [] ((mW (vG X) ad (up (up F 0 (up (F 0) 20 3)) 8 (up (up (up (F 8) 0 ((1 + (2 * (F 2 1))) % 256)) 1 ((F 2 ((18 + (11 * (F 2 1))) + 9)) % 256)) 2 ((F 2 ((18 + (11 * (F 2 1))) + 1)) % 256)))))
    refine v_aload_n C dX8_lays_66 rfl 2 rfl ?_
    refine v_aload_n C dX8_lays_67 rfl 2 rfl ?_
    refine v_iload_n C dX8_lays_68 rfl 1 rfl ?_
    refine v_callV (na := 1) (wy := (Cond.code yX8_limitOf cX8_limitOf 2 (some .int) :: wsL_law)) (wc := (mW (vG X) ad (up (up F 0 (up (F 0) 20 3)) 8 (up (up (up (F 8) 0 ((1 + (2 * (F 2 1))) % 256)) 1 ((F 2 ((18 + (11 * (F 2 1))) + 9)) % 256)) 2 ((F 2 ((18 + (11 * (F 2 1))) + 1)) % 256))))) (wr := []) C [vI (F 2 1)] [.ref (ad 0)] (c_X8_limitOf _ _ ad (up (up F 0 (up (F 0) 20 3)) 8 (up (up (up (F 8) 0 ((1 + (2 * (F 2 1))) % 256)) 1 ((F 2 ((18 + (11 * (F 2 1))) + 9)) % 256)) 2 ((F 2 ((18 + (11 * (F 2 1))) + 1)) % 256))) (F 2 1) (by have := hB 1; omega)) rfl (gwV mw_554 mw_551 mw_552 mw_553 mw_5) rfl (by decide +kernel) 0 rfl rfl rfl rfl Sb.w rfl rfl dX8_lays_69 (fun r w1 hp69_31 => ?_)
    obtain ⟨rfl, rfl⟩ := hp69_31
    show V X 0 0 72 [(2, vI 0), (1, vI (F 2 1)), (0, .ref (ad 0))] [vI ((F 2 ((18 + (11 * (F 2 1))) + 2)) + (F 2 ((18 + (11 * (F 2 1))) + 3))), .ref (ad 0)] ((mW (vG X) ad (up (up F 0 (up (F 0) 20 3)) 8 (up (up (up (F 8) 0 ((1 + (2 * (F 2 1))) % 256)) 1 ((F 2 ((18 + (11 * (F 2 1))) + 9)) % 256)) 2 ((F 2 ((18 + (11 * (F 2 1))) + 1)) % 256)))))
    refine v_callV (na := 1) (wy := (Cond.code yX8_says cX8_says 2 none :: wsL_law)) (wc := (mW (vG X) ad (up (up F 0 (up (F 0) 20 3)) 8 (up (up (up (F 8) 0 ((1 + (2 * (F 2 1))) % 256)) 1 ((F 2 ((18 + (11 * (F 2 1))) + 9)) % 256)) 2 ((F 2 ((18 + (11 * (F 2 1))) + 1)) % 256))))) (wr := []) C [vI ((F 2 ((18 + (11 * (F 2 1))) + 2)) + (F 2 ((18 + (11 * (F 2 1))) + 3)))] [] (c_X8_says _ _ ad (up (up F 0 (up (F 0) 20 3)) 8 (up (up (up (F 8) 0 ((1 + (2 * (F 2 1))) % 256)) 1 ((F 2 ((18 + (11 * (F 2 1))) + 9)) % 256)) 2 ((F 2 ((18 + (11 * (F 2 1))) + 1)) % 256))) ((F 2 ((18 + (11 * (F 2 1))) + 2)) + (F 2 ((18 + (11 * (F 2 1))) + 3))) (show (0 : Int) ≤ 3 by omega) (show (3 : Int) < 15 by omega)) rfl (gwV mw_550 mw_547 mw_548 mw_549 mw_5) rfl (by decide +kernel) 0 rfl rfl rfl rfl Sb.w rfl rfl dX8_lays_72 (fun r w1 hp72_32 => ?_)
    obtain ⟨rfl, rfl⟩ := hp72_32
    show V X 0 0 75 [(2, vI 0), (1, vI (F 2 1)), (0, .ref (ad 0))] [] ((mW (vG X) ad (up (up F 0 (up (F 0) 20 4)) 8 (up (up (up (up (F 8) 0 ((1 + (2 * (F 2 1))) % 256)) 1 ((F 2 ((18 + (11 * (F 2 1))) + 9)) % 256)) 2 ((F 2 ((18 + (11 * (F 2 1))) + 1)) % 256)) 3 (((F 2 ((18 + (11 * (F 2 1))) + 2)) + (F 2 ((18 + (11 * (F 2 1))) + 3))) % 256)))))
    refine v_aload_n C dX8_lays_75 rfl 2 rfl ?_
    refine v_aload_n C dX8_lays_76 rfl 2 rfl ?_
    refine v_iload_n C dX8_lays_77 rfl 1 rfl ?_
    refine v_iconst C dX8_lays_78 ?_
    refine v_callV (na := 2) (wy := (Cond.code yX8_of cX8_of 3 (some .int) :: wsL_law)) (wc := (mW (vG X) ad (up (up F 0 (up (F 0) 20 4)) 8 (up (up (up (up (F 8) 0 ((1 + (2 * (F 2 1))) % 256)) 1 ((F 2 ((18 + (11 * (F 2 1))) + 9)) % 256)) 2 ((F 2 ((18 + (11 * (F 2 1))) + 1)) % 256)) 3 (((F 2 ((18 + (11 * (F 2 1))) + 2)) + (F 2 ((18 + (11 * (F 2 1))) + 3))) % 256))))) (wr := []) C [vI (F 2 1), vI 4] [.ref (ad 0)] (c_X8_of _ _ ad (up (up F 0 (up (F 0) 20 4)) 8 (up (up (up (up (F 8) 0 ((1 + (2 * (F 2 1))) % 256)) 1 ((F 2 ((18 + (11 * (F 2 1))) + 9)) % 256)) 2 ((F 2 ((18 + (11 * (F 2 1))) + 1)) % 256)) 3 (((F 2 ((18 + (11 * (F 2 1))) + 2)) + (F 2 ((18 + (11 * (F 2 1))) + 3))) % 256))) (F 2 1) 4 (by have := hB 1; omega) (by have := hB 1; omega)) rfl (gwV mw_129 mw_126 mw_127 mw_128 mw_5) rfl (by decide +kernel) 0 rfl rfl rfl rfl Sb.w rfl rfl dX8_lays_79 (fun r w1 hp79_33 => ?_)
    obtain ⟨rfl, rfl⟩ := hp79_33
    show V X 0 0 82 [(2, vI 0), (1, vI (F 2 1)), (0, .ref (ad 0))] [vI (F 2 ((18 + (11 * (F 2 1))) + 4)), .ref (ad 0)] ((mW (vG X) ad (up (up F 0 (up (F 0) 20 4)) 8 (up (up (up (up (F 8) 0 ((1 + (2 * (F 2 1))) % 256)) 1 ((F 2 ((18 + (11 * (F 2 1))) + 9)) % 256)) 2 ((F 2 ((18 + (11 * (F 2 1))) + 1)) % 256)) 3 (((F 2 ((18 + (11 * (F 2 1))) + 2)) + (F 2 ((18 + (11 * (F 2 1))) + 3))) % 256)))))
    refine v_callV (na := 1) (wy := (Cond.code yX8_says cX8_says 2 none :: wsL_law)) (wc := (mW (vG X) ad (up (up F 0 (up (F 0) 20 4)) 8 (up (up (up (up (F 8) 0 ((1 + (2 * (F 2 1))) % 256)) 1 ((F 2 ((18 + (11 * (F 2 1))) + 9)) % 256)) 2 ((F 2 ((18 + (11 * (F 2 1))) + 1)) % 256)) 3 (((F 2 ((18 + (11 * (F 2 1))) + 2)) + (F 2 ((18 + (11 * (F 2 1))) + 3))) % 256))))) (wr := []) C [vI (F 2 ((18 + (11 * (F 2 1))) + 4))] [] (c_X8_says _ _ ad (up (up F 0 (up (F 0) 20 4)) 8 (up (up (up (up (F 8) 0 ((1 + (2 * (F 2 1))) % 256)) 1 ((F 2 ((18 + (11 * (F 2 1))) + 9)) % 256)) 2 ((F 2 ((18 + (11 * (F 2 1))) + 1)) % 256)) 3 (((F 2 ((18 + (11 * (F 2 1))) + 2)) + (F 2 ((18 + (11 * (F 2 1))) + 3))) % 256))) (F 2 ((18 + (11 * (F 2 1))) + 4)) (show (0 : Int) ≤ 4 by omega) (show (4 : Int) < 15 by omega)) rfl (gwV mw_550 mw_547 mw_548 mw_549 mw_5) rfl (by decide +kernel) 0 rfl rfl rfl rfl Sb.w rfl rfl dX8_lays_82 (fun r w1 hp82_34 => ?_)
    obtain ⟨rfl, rfl⟩ := hp82_34
    show V X 0 0 85 [(2, vI 0), (1, vI (F 2 1)), (0, .ref (ad 0))] [] ((mW (vG X) ad (up (up F 0 (up (F 0) 20 5)) 8 (up (up (up (up (up (F 8) 0 ((1 + (2 * (F 2 1))) % 256)) 1 ((F 2 ((18 + (11 * (F 2 1))) + 9)) % 256)) 2 ((F 2 ((18 + (11 * (F 2 1))) + 1)) % 256)) 3 (((F 2 ((18 + (11 * (F 2 1))) + 2)) + (F 2 ((18 + (11 * (F 2 1))) + 3))) % 256)) 4 ((F 2 ((18 + (11 * (F 2 1))) + 4)) % 256)))))
    refine v_aload_n C dX8_lays_85 rfl 2 rfl ?_
    refine v_aload_n C dX8_lays_86 rfl 2 rfl ?_
    refine v_iload_n C dX8_lays_87 rfl 1 rfl ?_
    refine v_iconst C dX8_lays_88 ?_
    refine v_callV (na := 2) (wy := (Cond.code yX8_of cX8_of 3 (some .int) :: wsL_law)) (wc := (mW (vG X) ad (up (up F 0 (up (F 0) 20 5)) 8 (up (up (up (up (up (F 8) 0 ((1 + (2 * (F 2 1))) % 256)) 1 ((F 2 ((18 + (11 * (F 2 1))) + 9)) % 256)) 2 ((F 2 ((18 + (11 * (F 2 1))) + 1)) % 256)) 3 (((F 2 ((18 + (11 * (F 2 1))) + 2)) + (F 2 ((18 + (11 * (F 2 1))) + 3))) % 256)) 4 ((F 2 ((18 + (11 * (F 2 1))) + 4)) % 256))))) (wr := []) C [vI (F 2 1), vI 5] [.ref (ad 0)] (c_X8_of _ _ ad (up (up F 0 (up (F 0) 20 5)) 8 (up (up (up (up (up (F 8) 0 ((1 + (2 * (F 2 1))) % 256)) 1 ((F 2 ((18 + (11 * (F 2 1))) + 9)) % 256)) 2 ((F 2 ((18 + (11 * (F 2 1))) + 1)) % 256)) 3 (((F 2 ((18 + (11 * (F 2 1))) + 2)) + (F 2 ((18 + (11 * (F 2 1))) + 3))) % 256)) 4 ((F 2 ((18 + (11 * (F 2 1))) + 4)) % 256))) (F 2 1) 5 (by have := hB 1; omega) (by have := hB 1; omega)) rfl (gwV mw_129 mw_126 mw_127 mw_128 mw_5) rfl (by decide +kernel) 0 rfl rfl rfl rfl Sb.w rfl rfl dX8_lays_89 (fun r w1 hp89_35 => ?_)
    obtain ⟨rfl, rfl⟩ := hp89_35
    show V X 0 0 92 [(2, vI 0), (1, vI (F 2 1)), (0, .ref (ad 0))] [vI (F 2 ((18 + (11 * (F 2 1))) + 5)), .ref (ad 0)] ((mW (vG X) ad (up (up F 0 (up (F 0) 20 5)) 8 (up (up (up (up (up (F 8) 0 ((1 + (2 * (F 2 1))) % 256)) 1 ((F 2 ((18 + (11 * (F 2 1))) + 9)) % 256)) 2 ((F 2 ((18 + (11 * (F 2 1))) + 1)) % 256)) 3 (((F 2 ((18 + (11 * (F 2 1))) + 2)) + (F 2 ((18 + (11 * (F 2 1))) + 3))) % 256)) 4 ((F 2 ((18 + (11 * (F 2 1))) + 4)) % 256)))))
    refine v_callV (na := 1) (wy := (Cond.code yX8_says cX8_says 2 none :: wsL_law)) (wc := (mW (vG X) ad (up (up F 0 (up (F 0) 20 5)) 8 (up (up (up (up (up (F 8) 0 ((1 + (2 * (F 2 1))) % 256)) 1 ((F 2 ((18 + (11 * (F 2 1))) + 9)) % 256)) 2 ((F 2 ((18 + (11 * (F 2 1))) + 1)) % 256)) 3 (((F 2 ((18 + (11 * (F 2 1))) + 2)) + (F 2 ((18 + (11 * (F 2 1))) + 3))) % 256)) 4 ((F 2 ((18 + (11 * (F 2 1))) + 4)) % 256))))) (wr := []) C [vI (F 2 ((18 + (11 * (F 2 1))) + 5))] [] (c_X8_says _ _ ad (up (up F 0 (up (F 0) 20 5)) 8 (up (up (up (up (up (F 8) 0 ((1 + (2 * (F 2 1))) % 256)) 1 ((F 2 ((18 + (11 * (F 2 1))) + 9)) % 256)) 2 ((F 2 ((18 + (11 * (F 2 1))) + 1)) % 256)) 3 (((F 2 ((18 + (11 * (F 2 1))) + 2)) + (F 2 ((18 + (11 * (F 2 1))) + 3))) % 256)) 4 ((F 2 ((18 + (11 * (F 2 1))) + 4)) % 256))) (F 2 ((18 + (11 * (F 2 1))) + 5)) (show (0 : Int) ≤ 5 by omega) (show (5 : Int) < 15 by omega)) rfl (gwV mw_550 mw_547 mw_548 mw_549 mw_5) rfl (by decide +kernel) 0 rfl rfl rfl rfl Sb.w rfl rfl dX8_lays_92 (fun r w1 hp92_36 => ?_)
    obtain ⟨rfl, rfl⟩ := hp92_36
    show V X 0 0 95 [(2, vI 0), (1, vI (F 2 1)), (0, .ref (ad 0))] [] ((mW (vG X) ad (up (up F 0 (up (F 0) 20 6)) 8 (up (up (up (up (up (up (F 8) 0 ((1 + (2 * (F 2 1))) % 256)) 1 ((F 2 ((18 + (11 * (F 2 1))) + 9)) % 256)) 2 ((F 2 ((18 + (11 * (F 2 1))) + 1)) % 256)) 3 (((F 2 ((18 + (11 * (F 2 1))) + 2)) + (F 2 ((18 + (11 * (F 2 1))) + 3))) % 256)) 4 ((F 2 ((18 + (11 * (F 2 1))) + 4)) % 256)) 5 ((F 2 ((18 + (11 * (F 2 1))) + 5)) % 256)))))
    refine v_iconst C dX8_lays_95 ?_
    refine v_istore_n C M dX8_lays_96 rfl (by decide) (L' := [(3, vI 0), (2, vI 0), (1, vI (F 2 1)), (0, .ref (ad 0))]) rfl ?_
    refine v_iload_n C dX8_lays_97 rfl 1 rfl ?_
    refine v_if_eq (tgt := 142) C dX8_lays_98 (by decide) (by decide) (fun _ => ?_) (fun c => absurd (by decide) c)
    have hdl2 : dl (F 2) = 0 := if_neg hd
    have hf8 : ∀ j, 0 ≤ j → j < 6 + dl (F 2) → (up (up (up (up (up (up (F 8) 0 ((1 + (2 * (F 2 1))) % 256)) 1 ((F 2 ((18 + (11 * (F 2 1))) + 9)) % 256)) 2 ((F 2 ((18 + (11 * (F 2 1))) + 1)) % 256)) 3 (((F 2 ((18 + (11 * (F 2 1))) + 2)) + (F 2 ((18 + (11 * (F 2 1))) + 3))) % 256)) 4 ((F 2 ((18 + (11 * (F 2 1))) + 4)) % 256)) 5 ((F 2 ((18 + (11 * (F 2 1))) + 5)) % 256)) j = pb0 (F 2) j := by
      intro j j0 j1
      rcases (show j = 0 ∨ j = 1 ∨ j = 2 ∨ j = 3 ∨ j = 4 ∨ j = 5 by omega) with rfl | rfl | rfl | rfl | rfl | rfl <;> simp only [up, pb0, if_neg hd] <;> rfl
    generalize (up (up (up (up (up (up (F 8) 0 ((1 + (2 * (F 2 1))) % 256)) 1 ((F 2 ((18 + (11 * (F 2 1))) + 9)) % 256)) 2 ((F 2 ((18 + (11 * (F 2 1))) + 1)) % 256)) 3 (((F 2 ((18 + (11 * (F 2 1))) + 2)) + (F 2 ((18 + (11 * (F 2 1))) + 3))) % 256)) 4 ((F 2 ((18 + (11 * (F 2 1))) + 4)) % 256)) 5 ((F 2 ((18 + (11 * (F 2 1))) + 5)) % 256)) = f8 at hf8 ⊢
    have key : V X 0 0 142 [(2, vI 0), (1, vI (F 2 1)), (0, .ref (ad 0))] [] ((mW (vG X) ad (up (up F 0 (up (F 0) 20 (6 + dl (F 2)))) 8 (f8)))) := by
      refine v_iconst C dX8_lays_142 ?_
      refine v_istore_n C M dX8_lays_143 rfl (by decide) (L' := [(3, vI 0), (2, vI 0), (1, vI (F 2 1)), (0, .ref (ad 0))]) rfl ?_
      refine v_iconst C dX8_lays_144 ?_
      refine v_istore C M dX8_lays_145 (by decide) (L' := [(4, vI 0), (3, vI 0), (2, vI 0), (1, vI (F 2 1)), (0, .ref (ad 0))]) rfl ?_
      refine V.loc (L' := [(0, .ref (ad 0)), (1, vI (F 2 1)), (2, vI 0), (3, vI 0), (4, vI 0)]) [4, 3, 2, 1, 0] rfl ?_
      have lp : ∀ (n : Nat) (k : Int) (hk : 0 ≤ k) (hk2 : k ≤ 6 + dl (F 2)) (hm : 6 + dl (F 2) - k < (n : Int)), V X 0 0 147 [(0, .ref (ad 0)), (1, vI (F 2 1)), (2, vI 0), (3, vI (sumI (pb0 (F 2)) k)), (4, vI k)] [] ((mW (vG X) ad (up (up F 0 (up (F 0) 20 (6 + dl (F 2)))) 8 (f8)))) := by
        intro n
        induction n with
        | zero => intro k hk hk2 hm; exact absurd hm (by omega)
        | succ n ih =>
          intro k hk hk2 hm
          refine v_iload C dX8_lays_147 4 rfl ?_
          refine v_aload_n C dX8_lays_149 rfl 0 rfl ?_
          refine v_get (v := vI (6 + dl (F 2))) C inw_8 0 20 rfl (by decide) (List.mem_cons_of_mem _ mw_537) rfl rfl dX8_lays_150 ?_
          refine v_icmp_ge (tgt := 172) C dX8_lays_153 (by decide) (by  first | assumption | exact ⟨by omega, by omega⟩) (by  first | assumption | exact ⟨by omega, by omega⟩) (fun c153 => ?_) (fun c153 => ?_)
          · have e : k = 6 + dl (F 2) := by omega
            subst e
            refine v_aload_n C dX8_lays_172 rfl 0 rfl ?_
            refine v_iload_n C dX8_lays_173 rfl 3 rfl ?_
            refine v_callV (na := 1) (wy := (Cond.code yX8_says cX8_says 2 none :: wsL_law)) (wc := (mW (vG X) ad (up (up F 0 (up (F 0) 20 (6 + dl (F 2)))) 8 (f8)))) (wr := []) C [vI (sumI (pb0 (F 2)) (6 + dl (F 2)))] [] (c_X8_says _ _ ad (up (up F 0 (up (F 0) 20 (6 + dl (F 2)))) 8 (f8)) (sumI (pb0 (F 2)) (6 + dl (F 2))) (show (0 : Int) ≤ (6 + dl (F 2)) by omega) (show ((6 + dl (F 2)) : Int) < 15 by omega)) rfl (gwV mw_550 mw_547 mw_548 mw_549 mw_5) rfl (by decide +kernel) 0 rfl rfl rfl rfl Sb.w rfl rfl dX8_lays_174 (fun r w1 hp174_37 => ?_)
            obtain ⟨rfl, rfl⟩ := hp174_37
            show V X 0 0 177 [(0, .ref (ad 0)), (1, vI (F 2 1)), (2, vI 0), (3, vI (sumI (pb0 (F 2)) (6 + dl (F 2)))), (4, vI (6 + dl (F 2)))] [] ((mW (vG X) ad (up (up F 0 (up (F 0) 20 ((6 + dl (F 2)) + 1))) 8 (up (f8) (6 + dl (F 2)) ((sumI (pb0 (F 2)) (6 + dl (F 2))) % 256)))))
            refine v_aload_n C dX8_lays_177 rfl 0 rfl ?_
            refine v_iconst C dX8_lays_178 ?_
            refine v_put C inw_8 tyX8 tyX8_ok nmX8 0 22 rfl (by decide) (List.mem_cons_of_mem _ mw_532) rfl rfl rfl rfl (Nat.le_of_ble_eq_true rfl) dX8_lays_179 (ws' := (mW (vG X) ad (up (up F 0 (up (up (F 0) 20 ((6 + dl (F 2)) + 1)) 22 0)) 8 (up (f8) (6 + dl (F 2)) ((sumI (pb0 (F 2)) (6 + dl (F 2))) % 256))))) rfl ?_
            refine v_aload_n C dX8_lays_182 rfl 0 rfl ?_
            refine v_iconst C dX8_lays_183 ?_
            refine v_put C inw_8 tyX8 tyX8_ok nmX8 0 23 rfl (by decide) (List.mem_cons_of_mem _ mw_538) rfl rfl rfl rfl (Nat.le_of_ble_eq_true rfl) dX8_lays_184 (ws' := (mW (vG X) ad (up (up F 0 (up (up (up (F 0) 20 ((6 + dl (F 2)) + 1)) 22 0) 23 0)) 8 (up (f8) (6 + dl (F 2)) ((sumI (pb0 (F 2)) (6 + dl (F 2))) % 256))))) rfl ?_
            refine v_aload_n C dX8_lays_187 rfl 0 rfl ?_
            refine v_bipush C dX8_lays_188 (by decide +kernel) ?_
            refine v_callV (na := 1) (wy := (Cond.code yX8_sends cX8_sends 2 none :: wsL_law)) (wc := (mW (vG X) ad (up (up F 0 (up (up (up (F 0) 20 ((6 + dl (F 2)) + 1)) 22 0) 23 0)) 8 (up (f8) (6 + dl (F 2)) ((sumI (pb0 (F 2)) (6 + dl (F 2))) % 256))))) (wr := []) C [vI 126] [] (c_X8_sends _ _ ad (up (up F 0 (up (up (up (F 0) 20 ((6 + dl (F 2)) + 1)) 22 0) 23 0)) 8 (up (f8) (6 + dl (F 2)) ((sumI (pb0 (F 2)) (6 + dl (F 2))) % 256))) 126 (show (0 : Int) ≤ 0 by omega) (show (0 : Int) < 40 by omega)) rfl (gwV mw_558 mw_555 mw_556 mw_557 mw_5) rfl (by decide +kernel) 0 rfl rfl rfl rfl Sb.w rfl rfl dX8_lays_190 (fun r w1 hp190_38 => ?_)
            obtain ⟨rfl, rfl⟩ := hp190_38
            show V X 0 0 193 [(0, .ref (ad 0)), (1, vI (F 2 1)), (2, vI 0), (3, vI (sumI (pb0 (F 2)) (6 + dl (F 2)))), (4, vI (6 + dl (F 2)))] [] ((mW (vG X) ad (up (up (up F 0 (up (up (up (F 0) 20 ((6 + dl (F 2)) + 1)) 23 0) 22 1)) 8 (up (f8) (6 + dl (F 2)) ((sumI (pb0 (F 2)) (6 + dl (F 2))) % 256))) 9 (up (F 9) 0 126))))
            refine v_iconst C dX8_lays_193 ?_
            refine v_istore C M dX8_lays_194 (by decide) (L' := [(4, vI 0), (0, .ref (ad 0)), (1, vI (F 2 1)), (2, vI 0), (3, vI (sumI (pb0 (F 2)) (6 + dl (F 2))))]) rfl ?_
            have hg8 : ∀ j, 0 ≤ j → j < 7 + dl (F 2) → (up (f8) (6 + dl (F 2)) ((sumI (pb0 (F 2)) (6 + dl (F 2))) % 256)) j = pbF (F 2) j := by
              intro j j0 j1
              unfold pbF
              by_cases e : j = 6 + dl (F 2)
              · rw [if_pos e, e, up_s]
              · rw [if_neg e, up_n (by omega)]; exact hf8 j j0 (by omega)
            generalize (up (f8) (6 + dl (F 2)) ((sumI (pb0 (F 2)) (6 + dl (F 2))) % 256)) = g8 at hg8 ⊢
            have hL : LSp (up (F 9) 0 126) (pbF (F 2)) 0 := ⟨up_s, fun j h0 h1 => absurd h1 (by omega)⟩
            generalize (up (F 9) 0 126) = g9 at hL ⊢
            refine V.loc (L' := [(0, .ref (ad 0)), (1, vI (F 2 1)), (2, vI 0), (4, vI 0)]) [1, 2, 3, 0] rfl ?_
            rw [show 6 + dl (F 2) + 1 = 7 + dl (F 2) by omega]
            have lp : ∀ (n : Nat) (k : Int) (li : Int → Int) (hk : 0 ≤ k) (hk2 : k ≤ 7 + dl (F 2)) (hL : LSp li (pbF (F 2)) k) (hm : 7 + dl (F 2) - k < (n : Int)), V X 0 0 196 [(0, .ref (ad 0)), (1, vI (F 2 1)), (2, vI 0), (4, vI k)] [] ((mW (vG X) ad (up (up (up F 0 (up (up (up (F 0) 20 (7 + dl (F 2))) 22 ((1 + k) + (escI (pbF (F 2)) k))) 23 (escI (pbF (F 2)) k))) 8 (g8)) 9 (li)))) := by
              intro n
              induction n with
              | zero => intro k li hk hk2 hL hm; exact absurd hm (by omega)
              | succ n ih =>
                intro k li hk hk2 hL hm
                refine v_iload C dX8_lays_196 3 rfl ?_
                refine v_aload_n C dX8_lays_198 rfl 0 rfl ?_
                refine v_get (v := vI (7 + dl (F 2))) C inw_8 0 20 rfl (by decide) (List.mem_cons_of_mem _ mw_537) rfl rfl dX8_lays_199 ?_
                refine v_icmp_ge (tgt := 301) C dX8_lays_202 (by decide) (by  first | assumption | exact ⟨by omega, by omega⟩) (by  first | assumption | exact ⟨by omega, by omega⟩) (fun c202 => ?_) (fun c202 => ?_)
                · have e : k = 7 + dl (F 2) := by omega
                  subst e
                  have he := escI_in (f := pbF (F 2)) (k := 7 + dl (F 2)) (by omega)
                  refine v_aload_n C dX8_lays_301 rfl 0 rfl ?_
                  refine v_bipush C dX8_lays_302 (by decide +kernel) ?_
                  refine v_callV (na := 1) (wy := (Cond.code yX8_sends cX8_sends 2 none :: wsL_law)) (wc := (mW (vG X) ad (up (up (up F 0 (up (up (up (F 0) 20 (7 + dl (F 2))) 22 ((1 + (7 + dl (F 2))) + (escI (pbF (F 2)) (7 + dl (F 2))))) 23 (escI (pbF (F 2)) (7 + dl (F 2))))) 8 (g8)) 9 (li)))) (wr := []) C [vI 126] [] (c_X8_sends _ _ ad (up (up (up F 0 (up (up (up (F 0) 20 (7 + dl (F 2))) 22 ((1 + (7 + dl (F 2))) + (escI (pbF (F 2)) (7 + dl (F 2))))) 23 (escI (pbF (F 2)) (7 + dl (F 2))))) 8 (g8)) 9 (li)) 126 (show (0 : Int) ≤ ((1 + (7 + dl (F 2))) + (escI (pbF (F 2)) (7 + dl (F 2)))) by omega) (show (((1 + (7 + dl (F 2))) + (escI (pbF (F 2)) (7 + dl (F 2)))) : Int) < 40 by omega)) rfl (gwV mw_558 mw_555 mw_556 mw_557 mw_5) rfl (by decide +kernel) 0 rfl rfl rfl rfl Sb.w rfl rfl dX8_lays_304 (fun r w1 hp304_39 => ?_)
                  obtain ⟨rfl, rfl⟩ := hp304_39
                  show V X 0 0 307 [(0, .ref (ad 0)), (1, vI (F 2 1)), (2, vI 0), (4, vI (7 + dl (F 2)))] [] ((mW (vG X) ad (up (up (up F 0 (up (up (up (F 0) 20 (7 + dl (F 2))) 23 (escI (pbF (F 2)) (7 + dl (F 2)))) 22 (((1 + (7 + dl (F 2))) + (escI (pbF (F 2)) (7 + dl (F 2)))) + 1))) 8 (g8)) 9 (up (li) ((1 + (7 + dl (F 2))) + (escI (pbF (F 2)) (7 + dl (F 2)))) 126))))
                  have q := LSp_up (v := 126) (by omega) hL (Int.le_refl _)
                  exact v_vret C E rfl dX8_lays_307 (by decide) (by decide) (⟨rfl, g8, _, (by rw [show 2 + (7 + dl (F 2)) + escI (pbF (F 2)) (7 + dl (F 2)) = 1 + (7 + dl (F 2)) + escI (pbF (F 2)) (7 + dl (F 2)) + 1 by omega]; rfl), hg8, q, up_s⟩)
                · have hv := hg8 k hk (by omega)
                  have hp := pbF_in (F 2) k
                  have he := escI_in (f := pbF (F 2)) (k := k) hk
                  have hes := escI_s (f := pbF (F 2)) (k := k) hk
                  refine v_aload_n C dX8_lays_205 rfl 0 rfl ?_
                  refine v_get (v := .ref (ad 8)) C inw_8 0 19 rfl (by decide) (List.mem_cons_of_mem _ mw_112) rfl rfl dX8_lays_206 ?_
                  refine v_iload C dX8_lays_209 3 rfl ?_
                  refine v_iald C 8 rfl (by  omega) (by  omega) (by decide) dX8_lays_211 ?_
                  show V X 0 0 212 [(0, .ref (ad 0)), (1, vI (F 2 1)), (2, vI 0), (4, vI k)] [vI (g8 k)] ((mW (vG X) ad (up (up (up F 0 (up (up (up (F 0) 20 (7 + dl (F 2))) 22 ((1 + k) + (escI (pbF (F 2)) k))) 23 (escI (pbF (F 2)) k))) 8 (g8)) 9 (li))))
                  refine v_bipush C dX8_lays_212 (by decide +kernel) ?_
                  refine v_icmp_eq (tgt := 229) C dX8_lays_214 (by decide) (by  first | assumption | exact ⟨by omega, by omega⟩) (by decide) (fun c214 => ?_) (fun c214 => ?_)
                  · skip
                    refine v_iconst C dX8_lays_229 ?_
                    refine v_goto (tgt := 234) C dX8_lays_230 (by decide) ?_
                    refine v_istore C M dX8_lays_234 (by decide) (L' := [(5, vI 1), (0, .ref (ad 0)), (1, vI (F 2 1)), (2, vI 0), (4, vI k)]) rfl ?_
                    have hm : isMk (pbF (F 2) k) := by unfold isMk; omega
                    rw [bI_t hm] at hes
                    refine v_iload C dX8_lays_236 0 rfl ?_
                    refine v_if_eq (tgt := 247) C dX8_lays_238 (by decide) (by decide) (fun c => absurd c (by decide)) (fun _ => ?_)
                    refine v_aload_n C dX8_lays_241 rfl 1 rfl ?_
                    refine v_bipush C dX8_lays_242 (by decide +kernel) ?_
                    refine v_callV (na := 1) (wy := (Cond.code yX8_sends cX8_sends 2 none :: wsL_law)) (wc := (mW (vG X) ad (up (up (up F 0 (up (up (up (F 0) 20 (7 + dl (F 2))) 22 ((1 + k) + (escI (pbF (F 2)) k))) 23 (escI (pbF (F 2)) k))) 8 (g8)) 9 (li)))) (wr := []) C [vI 125] [] (c_X8_sends _ _ ad (up (up (up F 0 (up (up (up (F 0) 20 (7 + dl (F 2))) 22 ((1 + k) + (escI (pbF (F 2)) k))) 23 (escI (pbF (F 2)) k))) 8 (g8)) 9 (li)) 125 (show (0 : Int) ≤ ((1 + k) + (escI (pbF (F 2)) k)) by omega) (show (((1 + k) + (escI (pbF (F 2)) k)) : Int) < 40 by omega)) rfl (gwV mw_558 mw_555 mw_556 mw_557 mw_5) rfl (by decide +kernel) 0 rfl rfl rfl rfl Sb.w rfl rfl dX8_lays_244 (fun r w1 hp244_40 => ?_)
                    obtain ⟨rfl, rfl⟩ := hp244_40
                    show V X 0 0 247 [(5, vI 1), (0, .ref (ad 0)), (1, vI (F 2 1)), (2, vI 0), (4, vI k)] [] ((mW (vG X) ad (up (up (up F 0 (up (up (up (F 0) 20 (7 + dl (F 2))) 23 (escI (pbF (F 2)) k)) 22 (((1 + k) + (escI (pbF (F 2)) k)) + 1))) 8 (g8)) 9 (up (li) ((1 + k) + (escI (pbF (F 2)) k)) 125))))
                    refine v_aload_n C dX8_lays_247 rfl 1 rfl ?_
                    refine v_dup C dX8_lays_248 rfl ?_
                    refine v_get (v := vI (escI (pbF (F 2)) k)) C inw_8 0 23 rfl (by decide) (List.mem_cons_of_mem _ mw_538) rfl rfl dX8_lays_249 ?_
                    refine v_iload C dX8_lays_252 0 rfl ?_
                    refine v_if_eq (tgt := 261) C dX8_lays_254 (by decide) (by decide) (fun c => absurd c (by decide)) (fun _ => ?_)
                    refine v_iconst C dX8_lays_257 ?_
                    refine v_goto (tgt := 262) C dX8_lays_258 (by decide) ?_
                    refine v_iadd C dX8_lays_262 ?_
                    refine v_put C inw_8 tyX8 tyX8_ok nmX8 0 23 rfl (by decide) (List.mem_cons_of_mem _ mw_538) rfl rfl rfl rfl (Nat.le_of_ble_eq_true rfl) dX8_lays_263 (ws' := (mW (vG X) ad (up (up (up F 0 (up (up (up (F 0) 20 (7 + dl (F 2))) 22 (((1 + k) + (escI (pbF (F 2)) k)) + 1)) 23 ((escI (pbF (F 2)) k) + 1))) 8 (g8)) 9 (up (li) ((1 + k) + (escI (pbF (F 2)) k)) 125)))) rfl ?_
                    refine v_aload_n C dX8_lays_266 rfl 1 rfl ?_
                    refine v_iload C dX8_lays_267 0 rfl ?_
                    refine v_if_eq (tgt := 285) C dX8_lays_269 (by decide) (by decide) (fun c => absurd c (by decide)) (fun _ => ?_)
                    refine v_aload_n C dX8_lays_272 rfl 1 rfl ?_
                    refine v_get (v := .ref (ad 8)) C inw_8 0 19 rfl (by decide) (List.mem_cons_of_mem _ mw_112) rfl rfl dX8_lays_273 ?_
                    refine v_iload C dX8_lays_276 4 rfl ?_
                    refine v_iald C 8 rfl (by  omega) (by  omega) (by decide) dX8_lays_278 ?_
                    show V X 0 0 279 [(5, vI 1), (0, .ref (ad 0)), (1, vI (F 2 1)), (2, vI 0), (4, vI k)] [vI (g8 k), .ref (ad 0)] ((mW (vG X) ad (up (up (up F 0 (up (up (up (F 0) 20 (7 + dl (F 2))) 22 (((1 + k) + (escI (pbF (F 2)) k)) + 1)) 23 ((escI (pbF (F 2)) k) + 1))) 8 (g8)) 9 (up (li) ((1 + k) + (escI (pbF (F 2)) k)) 125))))
                    refine v_bipush C dX8_lays_279 (by decide +kernel) ?_
                    refine v_ixor (z := xr (g8 k)) C dX8_lays_281 (ixor32 (by omega)) ?_
                    refine v_goto (tgt := 292) C dX8_lays_282 (by decide) ?_
                    refine v_callV (na := 1) (wy := (Cond.code yX8_sends cX8_sends 2 none :: wsL_law)) (wc := (mW (vG X) ad (up (up (up F 0 (up (up (up (F 0) 20 (7 + dl (F 2))) 22 (((1 + k) + (escI (pbF (F 2)) k)) + 1)) 23 ((escI (pbF (F 2)) k) + 1))) 8 (g8)) 9 (up (li) ((1 + k) + (escI (pbF (F 2)) k)) 125)))) (wr := []) C [vI (xr (g8 k))] [] (c_X8_sends _ _ ad (up (up (up F 0 (up (up (up (F 0) 20 (7 + dl (F 2))) 22 (((1 + k) + (escI (pbF (F 2)) k)) + 1)) 23 ((escI (pbF (F 2)) k) + 1))) 8 (g8)) 9 (up (li) ((1 + k) + (escI (pbF (F 2)) k)) 125)) (xr (g8 k)) (show (0 : Int) ≤ (((1 + k) + (escI (pbF (F 2)) k)) + 1) by omega) (show ((((1 + k) + (escI (pbF (F 2)) k)) + 1) : Int) < 40 by omega)) rfl (gwV mw_558 mw_555 mw_556 mw_557 mw_5) rfl (by decide +kernel) 0 rfl rfl rfl rfl Sb.w rfl rfl dX8_lays_292 (fun r w1 hp292_41 => ?_)
                    obtain ⟨rfl, rfl⟩ := hp292_41
                    show V X 0 0 295 [(5, vI 1), (0, .ref (ad 0)), (1, vI (F 2 1)), (2, vI 0), (4, vI k)] [] ((mW (vG X) ad (up (up (up F 0 (up (up (up (F 0) 20 (7 + dl (F 2))) 23 ((escI (pbF (F 2)) k) + 1)) 22 ((((1 + k) + (escI (pbF (F 2)) k)) + 1) + 1))) 8 (g8)) 9 (up (up (li) ((1 + k) + (escI (pbF (F 2)) k)) 125) (((1 + k) + (escI (pbF (F 2)) k)) + 1) (xr (g8 k))))))
                    refine v_iinc C M dX8_lays_295 4 rfl (by decide) (z' := (k + 1)) rfl (L' := [(4, vI (k + 1)), (5, vI 1), (0, .ref (ad 0)), (1, vI (F 2 1)), (2, vI 0)]) rfl ?_
                    refine v_goto (tgt := 196) C dX8_lays_298 (by decide) ?_
                    refine V.loc (L' := [(0, .ref (ad 0)), (1, vI (F 2 1)), (2, vI 0), (4, vI (k + 1))]) [2, 3, 4, 0] rfl ?_
                    have q := LSp_s (LSp_up (v := xr (g8 k)) (i := 1 + k + escI (pbF (F 2)) k + 1) hk (LSp_up (v := 125) hk hL (Int.le_refl _)) (by omega)) (fun _ => ⟨by rw [up_n (by omega), up_s], by rw [up_s, hv]⟩) (fun h => absurd hm h)
                    have key := ih (k + 1) _ (by omega) (by omega) q (by omega)
                    rw [hes] at key
                    rw [show 1 + (k + 1) + (escI (pbF (F 2)) k + 1) = 1 + k + escI (pbF (F 2)) k + 1 + 1 by omega] at key
                    exact key
                  · refine v_aload_n C dX8_lays_217 rfl 0 rfl ?_
                    refine v_get (v := .ref (ad 8)) C inw_8 0 19 rfl (by decide) (List.mem_cons_of_mem _ mw_112) rfl rfl dX8_lays_218 ?_
                    refine v_iload C dX8_lays_221 3 rfl ?_
                    refine v_iald C 8 rfl (by  omega) (by  omega) (by decide) dX8_lays_223 ?_
                    show V X 0 0 224 [(0, .ref (ad 0)), (1, vI (F 2 1)), (2, vI 0), (4, vI k)] [vI (g8 k)] ((mW (vG X) ad (up (up (up F 0 (up (up (up (F 0) 20 (7 + dl (F 2))) 22 ((1 + k) + (escI (pbF (F 2)) k))) 23 (escI (pbF (F 2)) k))) 8 (g8)) 9 (li))))
                    refine v_bipush C dX8_lays_224 (by decide +kernel) ?_
                    refine v_icmp_ne (tgt := 233) C dX8_lays_226 (by decide) (by  first | assumption | exact ⟨by omega, by omega⟩) (by decide) (fun c226 => ?_) (fun c226 => ?_)
                    · skip
                      refine v_iconst C dX8_lays_233 ?_
                      refine v_istore C M dX8_lays_234 (by decide) (L' := [(5, vI 0), (0, .ref (ad 0)), (1, vI (F 2 1)), (2, vI 0), (4, vI k)]) rfl ?_
                      have hm : ¬ isMk (pbF (F 2) k) := by unfold isMk; omega
                      rw [bI_f hm] at hes
                      refine v_iload C dX8_lays_236 0 rfl ?_
                      refine v_if_eq (tgt := 247) C dX8_lays_238 (by decide) (by decide) (fun _ => ?_) (fun c => absurd (by decide) c)
                      refine v_aload_n C dX8_lays_247 rfl 1 rfl ?_
                      refine v_dup C dX8_lays_248 rfl ?_
                      refine v_get (v := vI (escI (pbF (F 2)) k)) C inw_8 0 23 rfl (by decide) (List.mem_cons_of_mem _ mw_538) rfl rfl dX8_lays_249 ?_
                      refine v_iload C dX8_lays_252 0 rfl ?_
                      refine v_if_eq (tgt := 261) C dX8_lays_254 (by decide) (by decide) (fun _ => ?_) (fun c => absurd (by decide) c)
                      refine v_iconst C dX8_lays_261 ?_
                      refine v_iadd C dX8_lays_262 ?_
                      refine v_put C inw_8 tyX8 tyX8_ok nmX8 0 23 rfl (by decide) (List.mem_cons_of_mem _ mw_538) rfl rfl rfl rfl (Nat.le_of_ble_eq_true rfl) dX8_lays_263 (ws' := (mW (vG X) ad (up (up (up F 0 (up (up (up (F 0) 20 (7 + dl (F 2))) 22 ((1 + k) + (escI (pbF (F 2)) k))) 23 ((escI (pbF (F 2)) k) + 0))) 8 (g8)) 9 (li)))) rfl ?_
                      refine v_aload_n C dX8_lays_266 rfl 1 rfl ?_
                      refine v_iload C dX8_lays_267 0 rfl ?_
                      refine v_if_eq (tgt := 285) C dX8_lays_269 (by decide) (by decide) (fun _ => ?_) (fun c => absurd (by decide) c)
                      refine v_aload_n C dX8_lays_285 rfl 1 rfl ?_
                      refine v_get (v := .ref (ad 8)) C inw_8 0 19 rfl (by decide) (List.mem_cons_of_mem _ mw_112) rfl rfl dX8_lays_286 ?_
                      refine v_iload C dX8_lays_289 4 rfl ?_
                      refine v_iald C 8 rfl (by  omega) (by  omega) (by decide) dX8_lays_291 ?_
                      show V X 0 0 292 [(5, vI 0), (0, .ref (ad 0)), (1, vI (F 2 1)), (2, vI 0), (4, vI k)] [vI (g8 k), .ref (ad 0)] ((mW (vG X) ad (up (up (up F 0 (up (up (up (F 0) 20 (7 + dl (F 2))) 22 ((1 + k) + (escI (pbF (F 2)) k))) 23 ((escI (pbF (F 2)) k) + 0))) 8 (g8)) 9 (li))))
                      refine v_callV (na := 1) (wy := (Cond.code yX8_sends cX8_sends 2 none :: wsL_law)) (wc := (mW (vG X) ad (up (up (up F 0 (up (up (up (F 0) 20 (7 + dl (F 2))) 22 ((1 + k) + (escI (pbF (F 2)) k))) 23 ((escI (pbF (F 2)) k) + 0))) 8 (g8)) 9 (li)))) (wr := []) C [vI (g8 k)] [] (c_X8_sends _ _ ad (up (up (up F 0 (up (up (up (F 0) 20 (7 + dl (F 2))) 22 ((1 + k) + (escI (pbF (F 2)) k))) 23 ((escI (pbF (F 2)) k) + 0))) 8 (g8)) 9 (li)) (g8 k) (show (0 : Int) ≤ ((1 + k) + (escI (pbF (F 2)) k)) by omega) (show (((1 + k) + (escI (pbF (F 2)) k)) : Int) < 40 by omega)) rfl (gwV mw_558 mw_555 mw_556 mw_557 mw_5) rfl (by decide +kernel) 0 rfl rfl rfl rfl Sb.w rfl rfl dX8_lays_292 (fun r w1 hp292_42 => ?_)
                      obtain ⟨rfl, rfl⟩ := hp292_42
                      show V X 0 0 295 [(5, vI 0), (0, .ref (ad 0)), (1, vI (F 2 1)), (2, vI 0), (4, vI k)] [] ((mW (vG X) ad (up (up (up F 0 (up (up (up (F 0) 20 (7 + dl (F 2))) 23 ((escI (pbF (F 2)) k) + 0)) 22 (((1 + k) + (escI (pbF (F 2)) k)) + 1))) 8 (g8)) 9 (up (li) ((1 + k) + (escI (pbF (F 2)) k)) (g8 k)))))
                      refine v_iinc C M dX8_lays_295 4 rfl (by decide) (z' := (k + 1)) rfl (L' := [(4, vI (k + 1)), (5, vI 0), (0, .ref (ad 0)), (1, vI (F 2 1)), (2, vI 0)]) rfl ?_
                      refine v_goto (tgt := 196) C dX8_lays_298 (by decide) ?_
                      refine V.loc (L' := [(0, .ref (ad 0)), (1, vI (F 2 1)), (2, vI 0), (4, vI (k + 1))]) [2, 3, 4, 0] rfl ?_
                      have q := LSp_s (LSp_up (v := g8 k) hk hL (Int.le_refl _)) (fun h => absurd h hm) (fun _ => by rw [up_s, hv])
                      have key := ih (k + 1) _ (by omega) (by omega) q (by omega)
                      rw [hes] at key
                      rw [show 1 + (k + 1) + (escI (pbF (F 2)) k + 0) = 1 + k + escI (pbF (F 2)) k + 1 by omega] at key
                      exact key
                    · skip
                      refine v_iconst C dX8_lays_229 ?_
                      refine v_goto (tgt := 234) C dX8_lays_230 (by decide) ?_
                      refine v_istore C M dX8_lays_234 (by decide) (L' := [(5, vI 1), (0, .ref (ad 0)), (1, vI (F 2 1)), (2, vI 0), (4, vI k)]) rfl ?_
                      have hm : isMk (pbF (F 2) k) := by unfold isMk; omega
                      rw [bI_t hm] at hes
                      refine v_iload C dX8_lays_236 0 rfl ?_
                      refine v_if_eq (tgt := 247) C dX8_lays_238 (by decide) (by decide) (fun c => absurd c (by decide)) (fun _ => ?_)
                      refine v_aload_n C dX8_lays_241 rfl 1 rfl ?_
                      refine v_bipush C dX8_lays_242 (by decide +kernel) ?_
                      refine v_callV (na := 1) (wy := (Cond.code yX8_sends cX8_sends 2 none :: wsL_law)) (wc := (mW (vG X) ad (up (up (up F 0 (up (up (up (F 0) 20 (7 + dl (F 2))) 22 ((1 + k) + (escI (pbF (F 2)) k))) 23 (escI (pbF (F 2)) k))) 8 (g8)) 9 (li)))) (wr := []) C [vI 125] [] (c_X8_sends _ _ ad (up (up (up F 0 (up (up (up (F 0) 20 (7 + dl (F 2))) 22 ((1 + k) + (escI (pbF (F 2)) k))) 23 (escI (pbF (F 2)) k))) 8 (g8)) 9 (li)) 125 (show (0 : Int) ≤ ((1 + k) + (escI (pbF (F 2)) k)) by omega) (show (((1 + k) + (escI (pbF (F 2)) k)) : Int) < 40 by omega)) rfl (gwV mw_558 mw_555 mw_556 mw_557 mw_5) rfl (by decide +kernel) 0 rfl rfl rfl rfl Sb.w rfl rfl dX8_lays_244 (fun r w1 hp244_43 => ?_)
                      obtain ⟨rfl, rfl⟩ := hp244_43
                      show V X 0 0 247 [(5, vI 1), (0, .ref (ad 0)), (1, vI (F 2 1)), (2, vI 0), (4, vI k)] [] ((mW (vG X) ad (up (up (up F 0 (up (up (up (F 0) 20 (7 + dl (F 2))) 23 (escI (pbF (F 2)) k)) 22 (((1 + k) + (escI (pbF (F 2)) k)) + 1))) 8 (g8)) 9 (up (li) ((1 + k) + (escI (pbF (F 2)) k)) 125))))
                      refine v_aload_n C dX8_lays_247 rfl 1 rfl ?_
                      refine v_dup C dX8_lays_248 rfl ?_
                      refine v_get (v := vI (escI (pbF (F 2)) k)) C inw_8 0 23 rfl (by decide) (List.mem_cons_of_mem _ mw_538) rfl rfl dX8_lays_249 ?_
                      refine v_iload C dX8_lays_252 0 rfl ?_
                      refine v_if_eq (tgt := 261) C dX8_lays_254 (by decide) (by decide) (fun c => absurd c (by decide)) (fun _ => ?_)
                      refine v_iconst C dX8_lays_257 ?_
                      refine v_goto (tgt := 262) C dX8_lays_258 (by decide) ?_
                      refine v_iadd C dX8_lays_262 ?_
                      refine v_put C inw_8 tyX8 tyX8_ok nmX8 0 23 rfl (by decide) (List.mem_cons_of_mem _ mw_538) rfl rfl rfl rfl (Nat.le_of_ble_eq_true rfl) dX8_lays_263 (ws' := (mW (vG X) ad (up (up (up F 0 (up (up (up (F 0) 20 (7 + dl (F 2))) 22 (((1 + k) + (escI (pbF (F 2)) k)) + 1)) 23 ((escI (pbF (F 2)) k) + 1))) 8 (g8)) 9 (up (li) ((1 + k) + (escI (pbF (F 2)) k)) 125)))) rfl ?_
                      refine v_aload_n C dX8_lays_266 rfl 1 rfl ?_
                      refine v_iload C dX8_lays_267 0 rfl ?_
                      refine v_if_eq (tgt := 285) C dX8_lays_269 (by decide) (by decide) (fun c => absurd c (by decide)) (fun _ => ?_)
                      refine v_aload_n C dX8_lays_272 rfl 1 rfl ?_
                      refine v_get (v := .ref (ad 8)) C inw_8 0 19 rfl (by decide) (List.mem_cons_of_mem _ mw_112) rfl rfl dX8_lays_273 ?_
                      refine v_iload C dX8_lays_276 4 rfl ?_
                      refine v_iald C 8 rfl (by  omega) (by  omega) (by decide) dX8_lays_278 ?_
                      show V X 0 0 279 [(5, vI 1), (0, .ref (ad 0)), (1, vI (F 2 1)), (2, vI 0), (4, vI k)] [vI (g8 k), .ref (ad 0)] ((mW (vG X) ad (up (up (up F 0 (up (up (up (F 0) 20 (7 + dl (F 2))) 22 (((1 + k) + (escI (pbF (F 2)) k)) + 1)) 23 ((escI (pbF (F 2)) k) + 1))) 8 (g8)) 9 (up (li) ((1 + k) + (escI (pbF (F 2)) k)) 125))))
                      refine v_bipush C dX8_lays_279 (by decide +kernel) ?_
                      refine v_ixor (z := xr (g8 k)) C dX8_lays_281 (ixor32 (by omega)) ?_
                      refine v_goto (tgt := 292) C dX8_lays_282 (by decide) ?_
                      refine v_callV (na := 1) (wy := (Cond.code yX8_sends cX8_sends 2 none :: wsL_law)) (wc := (mW (vG X) ad (up (up (up F 0 (up (up (up (F 0) 20 (7 + dl (F 2))) 22 (((1 + k) + (escI (pbF (F 2)) k)) + 1)) 23 ((escI (pbF (F 2)) k) + 1))) 8 (g8)) 9 (up (li) ((1 + k) + (escI (pbF (F 2)) k)) 125)))) (wr := []) C [vI (xr (g8 k))] [] (c_X8_sends _ _ ad (up (up (up F 0 (up (up (up (F 0) 20 (7 + dl (F 2))) 22 (((1 + k) + (escI (pbF (F 2)) k)) + 1)) 23 ((escI (pbF (F 2)) k) + 1))) 8 (g8)) 9 (up (li) ((1 + k) + (escI (pbF (F 2)) k)) 125)) (xr (g8 k)) (show (0 : Int) ≤ (((1 + k) + (escI (pbF (F 2)) k)) + 1) by omega) (show ((((1 + k) + (escI (pbF (F 2)) k)) + 1) : Int) < 40 by omega)) rfl (gwV mw_558 mw_555 mw_556 mw_557 mw_5) rfl (by decide +kernel) 0 rfl rfl rfl rfl Sb.w rfl rfl dX8_lays_292 (fun r w1 hp292_44 => ?_)
                      obtain ⟨rfl, rfl⟩ := hp292_44
                      show V X 0 0 295 [(5, vI 1), (0, .ref (ad 0)), (1, vI (F 2 1)), (2, vI 0), (4, vI k)] [] ((mW (vG X) ad (up (up (up F 0 (up (up (up (F 0) 20 (7 + dl (F 2))) 23 ((escI (pbF (F 2)) k) + 1)) 22 ((((1 + k) + (escI (pbF (F 2)) k)) + 1) + 1))) 8 (g8)) 9 (up (up (li) ((1 + k) + (escI (pbF (F 2)) k)) 125) (((1 + k) + (escI (pbF (F 2)) k)) + 1) (xr (g8 k))))))
                      refine v_iinc C M dX8_lays_295 4 rfl (by decide) (z' := (k + 1)) rfl (L' := [(4, vI (k + 1)), (5, vI 1), (0, .ref (ad 0)), (1, vI (F 2 1)), (2, vI 0)]) rfl ?_
                      refine v_goto (tgt := 196) C dX8_lays_298 (by decide) ?_
                      refine V.loc (L' := [(0, .ref (ad 0)), (1, vI (F 2 1)), (2, vI 0), (4, vI (k + 1))]) [2, 3, 4, 0] rfl ?_
                      have q := LSp_s (LSp_up (v := xr (g8 k)) (i := 1 + k + escI (pbF (F 2)) k + 1) hk (LSp_up (v := 125) hk hL (Int.le_refl _)) (by omega)) (fun _ => ⟨by rw [up_n (by omega), up_s], by rw [up_s, hv]⟩) (fun h => absurd hm h)
                      have key := ih (k + 1) _ (by omega) (by omega) q (by omega)
                      rw [hes] at key
                      rw [show 1 + (k + 1) + (escI (pbF (F 2)) k + 1) = 1 + k + escI (pbF (F 2)) k + 1 + 1 by omega] at key
                      exact key
            exact lp 16 0 g9 (by omega) (by omega) hL (by omega)
          · refine v_iload_n C dX8_lays_156 rfl 3 rfl ?_
            refine v_aload_n C dX8_lays_157 rfl 0 rfl ?_
            refine v_get (v := .ref (ad 8)) C inw_8 0 19 rfl (by decide) (List.mem_cons_of_mem _ mw_112) rfl rfl dX8_lays_158 ?_
            refine v_iload C dX8_lays_161 4 rfl ?_
            refine v_iald C 8 rfl (by  omega) (by  omega) (by decide) dX8_lays_163 ?_
            show V X 0 0 164 [(0, .ref (ad 0)), (1, vI (F 2 1)), (2, vI 0), (3, vI (sumI (pb0 (F 2)) k)), (4, vI k)] [vI (f8 k), vI (sumI (pb0 (F 2)) k)] ((mW (vG X) ad (up (up F 0 (up (F 0) 20 (6 + dl (F 2)))) 8 (f8))))
            rw [hf8 k hk (by omega)]
            refine v_iadd C dX8_lays_164 ?_
            rw [← sumI_s hk]
            refine v_istore_n C M dX8_lays_165 rfl (by decide) (L' := [(3, vI (sumI (pb0 (F 2)) (k + 1))), (0, .ref (ad 0)), (1, vI (F 2 1)), (2, vI 0), (4, vI k)]) rfl ?_
            refine v_iinc C M dX8_lays_166 4 rfl (by decide) (z' := (k + 1)) rfl (L' := [(4, vI (k + 1)), (3, vI (sumI (pb0 (F 2)) (k + 1))), (0, .ref (ad 0)), (1, vI (F 2 1)), (2, vI 0)]) rfl ?_
            refine v_goto (tgt := 147) C dX8_lays_169 (by decide) ?_
            refine V.loc (L' := [(0, .ref (ad 0)), (1, vI (F 2 1)), (2, vI 0), (3, vI (sumI (pb0 (F 2)) (k + 1))), (4, vI (k + 1))]) [2, 3, 4, 1, 0] rfl ?_
            exact ih (k + 1) (by omega) (by omega) (by omega)
      exact lp 15 0 (by omega) (by omega) (by omega)
    rw [hdl2] at key
    exact V.loc [1, 2, 3] rfl key
end M2
