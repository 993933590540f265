section C18
set_option maxHeartbeats 4000000 in
set_option maxRecDepth 100000 in
theorem c_X6_passLetters (G : GG) (l : Launch) (a b : Nat) (f bu : Int → Int) (ho : RO f) (hbu : sB 1000 bu)  : Ct G l yX6_passLetters (Cond.code yX6_passLetters cX6_passLetters 1 none :: wsL_law) 1 21 0 0 [.ref a] ((rdW G a b (f) (bu))) (fun r w => r = none ∧ w = rdW G a b (plR f bu) bu) := by
  refine Ct.of (own := RX6) (cc := cX6_passLetters) (maxL := 1) (ret := none) (by decide) rfl rfl (Nat.le_of_ble_eq_true rfl) (fun X C E M hG hl => ?_)
  subst hG hl
  have ho0 := ho
  obtain ⟨⟨h4a, h4b, h2b, h1b⟩, ⟨h3a, h3b⟩, h5, ⟨h6a, h6b⟩, ⟨h7a, h7b⟩, h8, h9, h0a, h0b⟩ := ho0
  have lp : ∀ (n : Nat) (n0 : Nat) (hn0 : f 2 + (n0 : Int) ≤ f 1) (hno : ∀ j : Nat, j < n0 → ¬ (fun j : Nat => ¬ (f 2 + (j : Int) < f 1 ∧ ltP (bu (f 2 + (j : Int))))) j) (hm : f 1 - f 2 - (n0 : Int) < (n : Int)), V X 0 0 0 [(0, .ref a)] [] ((rdW (vG X) a b (up (f) 2 ((f 2) + (n0 : Int))) (bu))) := by
    intro n
    induction n with
    | zero => intro n0 hn0 hno hm; exact absurd hm (by omega)
    | succ n ih =>
      intro n0 hn0 hno hm
      have hsb : sbX (up f 2 (f 2 + (n0 : Int))) := sbX_up (RO_sb ho) (by omega)
      refine v_aload_n C dX6_passLetters_0 rfl 0 rfl ?_
      refine v_get (v := vI ((f 2) + (n0 : Int))) C inw_6 0 3 rfl (by decide) (List.mem_cons_of_mem _ mw_456) rfl rfl dX6_passLetters_1 ?_
      refine v_aload_n C dX6_passLetters_4 rfl 0 rfl ?_
      refine v_get (v := vI (f 1)) C inw_6 0 2 rfl (by decide) (List.mem_cons_of_mem _ mw_455) rfl rfl dX6_passLetters_5 ?_
      refine v_icmp_ge (tgt := 38) C dX6_passLetters_8 (by decide) (by  first | assumption | exact ⟨by omega, by omega⟩) (by  first | assumption | exact ⟨by omega, by omega⟩) (fun c8 => ?_) (fun c8 => ?_)
      · skip
        have en : n0 = skN (fun j : Nat => ¬ (f 2 + (j : Int) < f 1 ∧ ltP (bu (f 2 + (j : Int))))) (f 1 - f 2).toNat := skN_u _ _ hno (by omega) (Or.inl (fun h => by omega))
        have et : f 2 + (n0 : Int) = runE ltP bu (f 1) (f 2) := by unfold runE; rw [← en]
        rw [et]
        have hr := runE_in (p := ltP) (bu := bu) (n := f 1) (s := f 2) (by omega)
        refine v_aload_n C dX6_passLetters_38 rfl 0 rfl ?_
        refine v_aload_n C dX6_passLetters_39 rfl 0 rfl ?_
        refine v_get (v := vI (runE ltP bu (f 1) (f 2))) C inw_6 0 3 rfl (by decide) (List.mem_cons_of_mem _ mw_456) rfl rfl dX6_passLetters_40 ?_
        refine v_aload_n C dX6_passLetters_43 rfl 0 rfl ?_
        refine v_get (v := vI (f 4)) C inw_6 0 5 rfl (by decide) (List.mem_cons_of_mem _ mw_465) rfl rfl dX6_passLetters_44 ?_
        refine v_isub C dX6_passLetters_47 ?_
        refine v_bipush C dX6_passLetters_48 (by decide +kernel) ?_
        suffices mrg : V X 0 0 58 [(0, .ref a)] [vI (if 8 < ((runE ltP bu (f 1) (f 2)) - (f 4)) then 4 else 1), .ref a] ((rdW (vG X) a b (up (f) 2 (runE ltP bu (f 1) (f 2))) (bu))) by
          refine v_icmp_gt (tgt := 57) C dX6_passLetters_50 (by decide) (by  first | assumption | exact ⟨by omega, by omega⟩) (by decide) (fun c50 => ?_) (fun c50 => ?_)
          · skip
            refine v_iconst C dX6_passLetters_57 ?_
            exact V.top (if_pos c50).symm mrg
          · skip
            refine v_iconst C dX6_passLetters_53 ?_
            refine v_goto (tgt := 58) C dX6_passLetters_54 (by decide) ?_
            exact V.top (if_neg c50).symm mrg
        refine v_put C inw_6 tyX6 tyX6_ok nmX6 0 4 rfl (by decide) (List.mem_cons_of_mem _ mw_460) rfl rfl rfl rfl (Nat.le_of_ble_eq_true rfl) dX6_passLetters_58 (ws' := (rdW (vG X) a b (up (up (f) 2 (runE ltP bu (f 1) (f 2))) 3 (if 8 < ((runE ltP bu (f 1) (f 2)) - (f 4)) then 4 else 1)) (bu))) rfl ?_
        exact v_vret C E rfl dX6_passLetters_61 (by decide) (by decide) (⟨rfl, rfl⟩)
      · skip
        refine v_aload_n C dX6_passLetters_11 rfl 0 rfl ?_
        refine v_aload_n C dX6_passLetters_12 rfl 0 rfl ?_
        refine v_get (v := vI ((f 2) + (n0 : Int))) C inw_6 0 3 rfl (by decide) (List.mem_cons_of_mem _ mw_456) rfl rfl dX6_passLetters_13 ?_
        refine v_callV (na := 1) (wy := (Cond.code yX6_byteAt cX6_byteAt 2 (some .int) :: wsL_law)) (wc := (rdW (vG X) a b (up (f) 2 ((f 2) + (n0 : Int))) (bu))) (wr := []) C [vI ((f 2) + (n0 : Int))] [] (c_X6_byteAt _ _ a b (up (f) 2 ((f 2) + (n0 : Int))) (bu) ((f 2) + (n0 : Int)) ⟨by omega, by omega⟩ hsb) rfl (gwV mw_469 mw_466 mw_467 mw_468 mw_11) rfl (by decide +kernel) 0 rfl rfl rfl rfl Sb.w rfl rfl dX6_passLetters_16 (fun r w1 hp16_1 => ?_)
        obtain ⟨rfl, rfl⟩ := hp16_1
        rw [if_pos (show ((0 ≤ ((f 2) + (n0 : Int)) ∧ ((f 2) + (n0 : Int)) < (up (f) 2 ((f 2) + (n0 : Int))) 1) ∧ ((f 2) + (n0 : Int)) < 700) from (show ((0 ≤ ((f 2) + (n0 : Int)) ∧ ((f 2) + (n0 : Int)) < f 1) ∧ ((f 2) + (n0 : Int)) < 700) by omega))]
        show V X 0 0 19 [(0, .ref a)] [vI (bu ((f 2) + (n0 : Int)))] ((rdW (vG X) a b (up (f) 2 ((f 2) + (n0 : Int))) (bu)))
        refine v_callS (na := 1) (wy := (Cond.code yX6_isLetter cX6_isLetter 1 (some .boolean) :: wsL_law)) (wc := []) (wr := (rdW (vG X) a b (up (f) 2 ((f 2) + (n0 : Int))) (bu))) C [vI (bu ((f 2) + (n0 : Int)))] [] (c_X6_isLetter _ _ (bu ((f 2) + (n0 : Int))) (by have := hbu ((f 2) + (n0 : Int)); first | assumption | exact ⟨by omega, by omega⟩)) rfl (gwS mw_475 mw_473 mw_474 mw_11) (by decide +kernel) rfl rfl Sb.rf rfl rfl dX6_passLetters_19 (fun r w1 hp19_2 => ?_)
        obtain ⟨rfl, rfl⟩ := hp19_2
        show V X 0 0 22 [(0, .ref a)] [vI (bI (97 ≤ (bu ((f 2) + (n0 : Int))) ∧ (bu ((f 2) + (n0 : Int))) ≤ 122))] ((rdW (vG X) a b (up (f) 2 ((f 2) + (n0 : Int))) (bu)))
        refine v_if_eq (tgt := 38) C dX6_passLetters_22 (by decide) sm_bI (fun c22 => ?_) (fun c22 => ?_)
        · skip
          have c22 := bI_0.mp c22
          have en : n0 = skN (fun j : Nat => ¬ (f 2 + (j : Int) < f 1 ∧ ltP (bu (f 2 + (j : Int))))) (f 1 - f 2).toNat := skN_u _ _ hno (by omega) (Or.inl (fun h => c22 h.2))
          have et : f 2 + (n0 : Int) = runE ltP bu (f 1) (f 2) := by unfold runE; rw [← en]
          rw [et]
          have hr := runE_in (p := ltP) (bu := bu) (n := f 1) (s := f 2) (by omega)
          refine v_aload_n C dX6_passLetters_38 rfl 0 rfl ?_
          refine v_aload_n C dX6_passLetters_39 rfl 0 rfl ?_
          refine v_get (v := vI (runE ltP bu (f 1) (f 2))) C inw_6 0 3 rfl (by decide) (List.mem_cons_of_mem _ mw_456) rfl rfl dX6_passLetters_40 ?_
          refine v_aload_n C dX6_passLetters_43 rfl 0 rfl ?_
          refine v_get (v := vI (f 4)) C inw_6 0 5 rfl (by decide) (List.mem_cons_of_mem _ mw_465) rfl rfl dX6_passLetters_44 ?_
          refine v_isub C dX6_passLetters_47 ?_
          refine v_bipush C dX6_passLetters_48 (by decide +kernel) ?_
          suffices mrg : V X 0 0 58 [(0, .ref a)] [vI (if 8 < ((runE ltP bu (f 1) (f 2)) - (f 4)) then 4 else 1), .ref a] ((rdW (vG X) a b (up (f) 2 (runE ltP bu (f 1) (f 2))) (bu))) by
            refine v_icmp_gt (tgt := 57) C dX6_passLetters_50 (by decide) (by  first | assumption | exact ⟨by omega, by omega⟩) (by decide) (fun c50 => ?_) (fun c50 => ?_)
            · skip
              refine v_iconst C dX6_passLetters_57 ?_
              exact V.top (if_pos c50).symm mrg
            · skip
              refine v_iconst C dX6_passLetters_53 ?_
              refine v_goto (tgt := 58) C dX6_passLetters_54 (by decide) ?_
              exact V.top (if_neg c50).symm mrg
          refine v_put C inw_6 tyX6 tyX6_ok nmX6 0 4 rfl (by decide) (List.mem_cons_of_mem _ mw_460) rfl rfl rfl rfl (Nat.le_of_ble_eq_true rfl) dX6_passLetters_58 (ws' := (rdW (vG X) a b (up (up (f) 2 (runE ltP bu (f 1) (f 2))) 3 (if 8 < ((runE ltP bu (f 1) (f 2)) - (f 4)) then 4 else 1)) (bu))) rfl ?_
          exact v_vret C E rfl dX6_passLetters_61 (by decide) (by decide) (⟨rfl, rfl⟩)
        · skip
          have c22 := bI_n0.mp c22
          refine v_aload_n C dX6_passLetters_25 rfl 0 rfl ?_
          refine v_dup C dX6_passLetters_26 rfl ?_
          refine v_get (v := vI ((f 2) + (n0 : Int))) C inw_6 0 3 rfl (by decide) (List.mem_cons_of_mem _ mw_456) rfl rfl dX6_passLetters_27 ?_
          refine v_iconst C dX6_passLetters_30 ?_
          refine v_iadd C dX6_passLetters_31 ?_
          refine v_put C inw_6 tyX6 tyX6_ok nmX6 0 3 rfl (by decide) (List.mem_cons_of_mem _ mw_456) rfl rfl rfl rfl (Nat.le_of_ble_eq_true rfl) dX6_passLetters_32 (ws' := (rdW (vG X) a b (up (f) 2 (((f 2) + (n0 : Int)) + 1)) (bu))) rfl ?_
          refine v_goto (tgt := 0) C dX6_passLetters_35 (by decide) ?_
          have key := ih (n0 + 1) (by omega) (fun j hj => by
            by_cases e : j = n0
            · rw [e]; exact fun h => h ⟨by omega, c22⟩
            · exact hno j (by omega)) (by omega)
          rw [show f 2 + ((n0 + 1 : Nat) : Int) = f 2 + (n0 : Int) + 1 by omega] at key
          exact key
  have key := lp ((f 1 - f 2).toNat + 1) 0 (by omega) (fun j hj => absurd hj (by omega)) (by omega)
  rw [show up f 2 (f 2 + ((0 : Nat) : Int)) = f from up_id (by omega)] at key
  exact key
set_option maxHeartbeats 4000000 in
set_option maxRecDepth 100000 in
theorem c_X6_passDigits (G : GG) (l : Launch) (a b : Nat) (f bu : Int → Int) (ho : RO f) (hbu : sB 1000 bu)  : Ct G l yX6_passDigits (Cond.code yX6_passDigits cX6_passDigits 1 none :: wsL_law) 1 21 0 0 [.ref a] ((rdW G a b (f) (bu))) (fun r w => r = none ∧ w = rdW G a b (pdR f bu) bu) := by
  refine Ct.of (own := RX6) (cc := cX6_passDigits) (maxL := 1) (ret := none) (by decide) rfl rfl (Nat.le_of_ble_eq_true rfl) (fun X C E M hG hl => ?_)
  subst hG hl
  have ho0 := ho
  obtain ⟨⟨h4a, h4b, h2b, h1b⟩, ⟨h3a, h3b⟩, h5, ⟨h6a, h6b⟩, ⟨h7a, h7b⟩, h8, h9, h0a, h0b⟩ := ho0
  refine v_aload_n C dX6_passDigits_0 rfl 0 rfl ?_
  refine v_iconst C dX6_passDigits_1 ?_
  refine v_put C inw_6 tyX6 tyX6_ok nmX6 0 6 rfl (by decide) (List.mem_cons_of_mem _ mw_487) rfl rfl rfl rfl (Nat.le_of_ble_eq_true rfl) dX6_passDigits_2 (ws' := (rdW (vG X) a b (up (f) 5 0) (bu))) rfl ?_
  have lp : ∀ (n : Nat) (n0 : Nat) (hn0 : f 2 + (n0 : Int) ≤ f 1) (hno : ∀ j : Nat, j < n0 → ¬ (fun j : Nat => ¬ (f 2 + (j : Int) < f 1 ∧ dgP (bu (f 2 + (j : Int))))) j) (hm : f 1 - f 2 - (n0 : Int) < (n : Int)), V X 0 0 5 [(0, .ref a)] [] ((rdW (vG X) a b (up (up (f) 5 (dgV bu (f 2) n0)) 2 ((f 2) + (n0 : Int))) (bu))) := by
    intro n
    induction n with
    | zero => intro n0 hn0 hno hm; exact absurd hm (by omega)
    | succ n ih =>
      intro n0 hn0 hno hm
      have hsb : sbX (up (up f 5 (dgV bu (f 2) n0)) 2 (f 2 + (n0 : Int))) := sbX_up (sbX_up5 (RO_sb ho)) (by omega)
      refine v_aload_n C dX6_passDigits_5 rfl 0 rfl ?_
      refine v_get (v := vI ((f 2) + (n0 : Int))) C inw_6 0 3 rfl (by decide) (List.mem_cons_of_mem _ mw_456) rfl rfl dX6_passDigits_6 ?_
      refine v_aload_n C dX6_passDigits_9 rfl 0 rfl ?_
      refine v_get (v := vI (f 1)) C inw_6 0 2 rfl (by decide) (List.mem_cons_of_mem _ mw_455) rfl rfl dX6_passDigits_10 ?_
      refine v_icmp_ge (tgt := 66) C dX6_passDigits_13 (by decide) (by  first | assumption | exact ⟨by omega, by omega⟩) (by  first | assumption | exact ⟨by omega, by omega⟩) (fun c13 => ?_) (fun c13 => ?_)
      · skip
        have en : n0 = skN (fun j : Nat => ¬ (f 2 + (j : Int) < f 1 ∧ dgP (bu (f 2 + (j : Int))))) (f 1 - f 2).toNat := skN_u _ _ hno (by omega) (Or.inl (fun h => by omega))
        have et : f 2 + (n0 : Int) = runE dgP bu (f 1) (f 2) := by unfold runE; rw [← en]
        have ev : n0 = (runE dgP bu (f 1) (f 2) - f 2).toNat := by omega
        rw [et]
        have hr := runE_in (p := dgP) (bu := bu) (n := f 1) (s := f 2) (by omega)
        refine v_aload_n C dX6_passDigits_66 rfl 0 rfl ?_
        refine v_aload_n C dX6_passDigits_67 rfl 0 rfl ?_
        refine v_get (v := vI (runE dgP bu (f 1) (f 2))) C inw_6 0 3 rfl (by decide) (List.mem_cons_of_mem _ mw_456) rfl rfl dX6_passDigits_68 ?_
        refine v_aload_n C dX6_passDigits_71 rfl 0 rfl ?_
        refine v_get (v := vI (f 4)) C inw_6 0 5 rfl (by decide) (List.mem_cons_of_mem _ mw_465) rfl rfl dX6_passDigits_72 ?_
        refine v_isub C dX6_passDigits_75 ?_
        refine v_iconst C dX6_passDigits_76 ?_
        suffices mrg : V X 0 0 85 [(0, .ref a)] [vI (if 3 < ((runE dgP bu (f 1) (f 2)) - (f 4)) then 4 else 2), .ref a] ((rdW (vG X) a b (up (up (f) 5 (dgV bu (f 2) n0)) 2 (runE dgP bu (f 1) (f 2))) (bu))) by
          refine v_icmp_gt (tgt := 84) C dX6_passDigits_77 (by decide) (by  first | assumption | exact ⟨by omega, by omega⟩) (by decide) (fun c77 => ?_) (fun c77 => ?_)
          · skip
            refine v_iconst C dX6_passDigits_84 ?_
            exact V.top (if_pos c77).symm mrg
          · skip
            refine v_iconst C dX6_passDigits_80 ?_
            refine v_goto (tgt := 85) C dX6_passDigits_81 (by decide) ?_
            exact V.top (if_neg c77).symm mrg
        refine v_put C inw_6 tyX6 tyX6_ok nmX6 0 4 rfl (by decide) (List.mem_cons_of_mem _ mw_460) rfl rfl rfl rfl (Nat.le_of_ble_eq_true rfl) dX6_passDigits_85 (ws' := (rdW (vG X) a b (up (up (up (f) 5 (dgV bu (f 2) n0)) 2 (runE dgP bu (f 1) (f 2))) 3 (if 3 < ((runE dgP bu (f 1) (f 2)) - (f 4)) then 4 else 2)) (bu))) rfl ?_
        exact v_vret C E rfl dX6_passDigits_88 (by decide) (by decide) (⟨rfl, by unfold pdR; rw [← ev]⟩)
      · skip
        refine v_aload_n C dX6_passDigits_16 rfl 0 rfl ?_
        refine v_aload_n C dX6_passDigits_17 rfl 0 rfl ?_
        refine v_get (v := vI ((f 2) + (n0 : Int))) C inw_6 0 3 rfl (by decide) (List.mem_cons_of_mem _ mw_456) rfl rfl dX6_passDigits_18 ?_
        refine v_callV (na := 1) (wy := (Cond.code yX6_byteAt cX6_byteAt 2 (some .int) :: wsL_law)) (wc := (rdW (vG X) a b (up (up (f) 5 (dgV bu (f 2) n0)) 2 ((f 2) + (n0 : Int))) (bu))) (wr := []) C [vI ((f 2) + (n0 : Int))] [] (c_X6_byteAt _ _ a b (up (up (f) 5 (dgV bu (f 2) n0)) 2 ((f 2) + (n0 : Int))) (bu) ((f 2) + (n0 : Int)) ⟨by omega, by omega⟩ hsb) rfl (gwV mw_469 mw_466 mw_467 mw_468 mw_11) rfl (by decide +kernel) 0 rfl rfl rfl rfl Sb.w rfl rfl dX6_passDigits_21 (fun r w1 hp21_1 => ?_)
        obtain ⟨rfl, rfl⟩ := hp21_1
        rw [if_pos (show ((0 ≤ ((f 2) + (n0 : Int)) ∧ ((f 2) + (n0 : Int)) < (up (up (f) 5 (dgV bu (f 2) n0)) 2 ((f 2) + (n0 : Int))) 1) ∧ ((f 2) + (n0 : Int)) < 700) from (show ((0 ≤ ((f 2) + (n0 : Int)) ∧ ((f 2) + (n0 : Int)) < f 1) ∧ ((f 2) + (n0 : Int)) < 700) by omega))]
        show V X 0 0 24 [(0, .ref a)] [vI (bu ((f 2) + (n0 : Int)))] ((rdW (vG X) a b (up (up (f) 5 (dgV bu (f 2) n0)) 2 ((f 2) + (n0 : Int))) (bu)))
        refine v_callS (na := 1) (wy := (Cond.code yX6_isDigit cX6_isDigit 1 (some .boolean) :: wsL_law)) (wc := []) (wr := (rdW (vG X) a b (up (up (f) 5 (dgV bu (f 2) n0)) 2 ((f 2) + (n0 : Int))) (bu))) C [vI (bu ((f 2) + (n0 : Int)))] [] (c_X6_isDigit _ _ (bu ((f 2) + (n0 : Int))) (by have := hbu ((f 2) + (n0 : Int)); first | assumption | exact ⟨by omega, by omega⟩)) rfl (gwS mw_482 mw_480 mw_481 mw_11) (by decide +kernel) rfl rfl Sb.rf rfl rfl dX6_passDigits_24 (fun r w1 hp24_2 => ?_)
        obtain ⟨rfl, rfl⟩ := hp24_2
        show V X 0 0 27 [(0, .ref a)] [vI (bI (48 ≤ (bu ((f 2) + (n0 : Int))) ∧ (bu ((f 2) + (n0 : Int))) ≤ 57))] ((rdW (vG X) a b (up (up (f) 5 (dgV bu (f 2) n0)) 2 ((f 2) + (n0 : Int))) (bu)))
        refine v_if_eq (tgt := 66) C dX6_passDigits_27 (by decide) sm_bI (fun c27 => ?_) (fun c27 => ?_)
        · skip
          have c27 := bI_0.mp c27
          have en : n0 = skN (fun j : Nat => ¬ (f 2 + (j : Int) < f 1 ∧ dgP (bu (f 2 + (j : Int))))) (f 1 - f 2).toNat := skN_u _ _ hno (by omega) (Or.inl (fun h => c27 h.2))
          have et : f 2 + (n0 : Int) = runE dgP bu (f 1) (f 2) := by unfold runE; rw [← en]
          have ev : n0 = (runE dgP bu (f 1) (f 2) - f 2).toNat := by omega
          rw [et]
          have hr := runE_in (p := dgP) (bu := bu) (n := f 1) (s := f 2) (by omega)
          refine v_aload_n C dX6_passDigits_66 rfl 0 rfl ?_
          refine v_aload_n C dX6_passDigits_67 rfl 0 rfl ?_
          refine v_get (v := vI (runE dgP bu (f 1) (f 2))) C inw_6 0 3 rfl (by decide) (List.mem_cons_of_mem _ mw_456) rfl rfl dX6_passDigits_68 ?_
          refine v_aload_n C dX6_passDigits_71 rfl 0 rfl ?_
          refine v_get (v := vI (f 4)) C inw_6 0 5 rfl (by decide) (List.mem_cons_of_mem _ mw_465) rfl rfl dX6_passDigits_72 ?_
          refine v_isub C dX6_passDigits_75 ?_
          refine v_iconst C dX6_passDigits_76 ?_
          suffices mrg : V X 0 0 85 [(0, .ref a)] [vI (if 3 < ((runE dgP bu (f 1) (f 2)) - (f 4)) then 4 else 2), .ref a] ((rdW (vG X) a b (up (up (f) 5 (dgV bu (f 2) n0)) 2 (runE dgP bu (f 1) (f 2))) (bu))) by
            refine v_icmp_gt (tgt := 84) C dX6_passDigits_77 (by decide) (by  first | assumption | exact ⟨by omega, by omega⟩) (by decide) (fun c77 => ?_) (fun c77 => ?_)
            · skip
              refine v_iconst C dX6_passDigits_84 ?_
              exact V.top (if_pos c77).symm mrg
            · skip
              refine v_iconst C dX6_passDigits_80 ?_
              refine v_goto (tgt := 85) C dX6_passDigits_81 (by decide) ?_
              exact V.top (if_neg c77).symm mrg
          refine v_put C inw_6 tyX6 tyX6_ok nmX6 0 4 rfl (by decide) (List.mem_cons_of_mem _ mw_460) rfl rfl rfl rfl (Nat.le_of_ble_eq_true rfl) dX6_passDigits_85 (ws' := (rdW (vG X) a b (up (up (up (f) 5 (dgV bu (f 2) n0)) 2 (runE dgP bu (f 1) (f 2))) 3 (if 3 < ((runE dgP bu (f 1) (f 2)) - (f 4)) then 4 else 2)) (bu))) rfl ?_
          exact v_vret C E rfl dX6_passDigits_88 (by decide) (by decide) (⟨rfl, by unfold pdR; rw [← ev]⟩)
        · skip
          have c27 := bI_n0.mp c27
          refine v_aload_n C dX6_passDigits_30 rfl 0 rfl ?_
          refine v_bipush C dX6_passDigits_31 (by decide +kernel) ?_
          refine v_aload_n C dX6_passDigits_33 rfl 0 rfl ?_
          refine v_get (v := vI (dgV bu (f 2) n0)) C inw_6 0 6 rfl (by decide) (List.mem_cons_of_mem _ mw_487) rfl rfl dX6_passDigits_34 ?_
          refine v_imul C dX6_passDigits_37 ?_
          refine v_aload_n C dX6_passDigits_38 rfl 0 rfl ?_
          refine v_aload_n C dX6_passDigits_39 rfl 0 rfl ?_
          refine v_get (v := vI ((f 2) + (n0 : Int))) C inw_6 0 3 rfl (by decide) (List.mem_cons_of_mem _ mw_456) rfl rfl dX6_passDigits_40 ?_
          refine v_callV (na := 1) (wy := (Cond.code yX6_byteAt cX6_byteAt 2 (some .int) :: wsL_law)) (wc := (rdW (vG X) a b (up (up (f) 5 (dgV bu (f 2) n0)) 2 ((f 2) + (n0 : Int))) (bu))) (wr := []) C [vI ((f 2) + (n0 : Int))] [vI (10 * (dgV bu (f 2) n0)), .ref a] (c_X6_byteAt _ _ a b (up (up (f) 5 (dgV bu (f 2) n0)) 2 ((f 2) + (n0 : Int))) (bu) ((f 2) + (n0 : Int)) ⟨by omega, by omega⟩ hsb) rfl (gwV mw_469 mw_466 mw_467 mw_468 mw_11) rfl (by decide +kernel) 0 rfl rfl rfl rfl Sb.w rfl rfl dX6_passDigits_43 (fun r w1 hp43_3 => ?_)
          obtain ⟨rfl, rfl⟩ := hp43_3
          rw [if_pos (show ((0 ≤ ((f 2) + (n0 : Int)) ∧ ((f 2) + (n0 : Int)) < (up (up (f) 5 (dgV bu (f 2) n0)) 2 ((f 2) + (n0 : Int))) 1) ∧ ((f 2) + (n0 : Int)) < 700) from (show ((0 ≤ ((f 2) + (n0 : Int)) ∧ ((f 2) + (n0 : Int)) < f 1) ∧ ((f 2) + (n0 : Int)) < 700) by omega))]
          show V X 0 0 46 [(0, .ref a)] [vI (bu ((f 2) + (n0 : Int))), vI (10 * (dgV bu (f 2) n0)), .ref a] ((rdW (vG X) a b (up (up (f) 5 (dgV bu (f 2) n0)) 2 ((f 2) + (n0 : Int))) (bu)))
          refine v_iadd C dX6_passDigits_46 ?_
          refine v_bipush C dX6_passDigits_47 (by decide +kernel) ?_
          refine v_isub C dX6_passDigits_49 ?_
          refine v_put C inw_6 tyX6 tyX6_ok nmX6 0 6 rfl (by decide) (List.mem_cons_of_mem _ mw_487) rfl rfl rfl rfl (Nat.le_of_ble_eq_true rfl) dX6_passDigits_50 (ws' := (rdW (vG X) a b (up (up (f) 2 ((f 2) + (n0 : Int))) 5 (((10 * (dgV bu (f 2) n0)) + (bu ((f 2) + (n0 : Int)))) - 48)) (bu))) rfl ?_
          refine v_aload_n C dX6_passDigits_53 rfl 0 rfl ?_
          refine v_dup C dX6_passDigits_54 rfl ?_
          refine v_get (v := vI ((f 2) + (n0 : Int))) C inw_6 0 3 rfl (by decide) (List.mem_cons_of_mem _ mw_456) rfl rfl dX6_passDigits_55 ?_
          refine v_iconst C dX6_passDigits_58 ?_
          refine v_iadd C dX6_passDigits_59 ?_
          refine v_put C inw_6 tyX6 tyX6_ok nmX6 0 3 rfl (by decide) (List.mem_cons_of_mem _ mw_456) rfl rfl rfl rfl (Nat.le_of_ble_eq_true rfl) dX6_passDigits_60 (ws' := (rdW (vG X) a b (up (up (f) 5 (((10 * (dgV bu (f 2) n0)) + (bu ((f 2) + (n0 : Int)))) - 48)) 2 (((f 2) + (n0 : Int)) + 1)) (bu))) rfl ?_
          refine v_goto (tgt := 5) C dX6_passDigits_63 (by decide) ?_
          have key := ih (n0 + 1) (by omega) (fun j hj => by
            by_cases e : j = n0
            · rw [e]; exact fun h => h ⟨by omega, c27⟩
            · exact hno j (by omega)) (by omega)
          rw [show f 2 + ((n0 + 1 : Nat) : Int) = f 2 + (n0 : Int) + 1 by omega, show dgV bu (f 2) (n0 + 1) = 10 * dgV bu (f 2) n0 + bu (f 2 + (n0 : Int)) - 48 from rfl] at key
          exact key
  have key := lp ((f 1 - f 2).toNat + 1) 0 (by omega) (fun j hj => absurd hj (by omega)) (by omega)
  rw [show up (up f 5 (dgV bu (f 2) 0)) 2 (f 2 + ((0 : Nat) : Int)) = up f 5 0 from up_id (show f 2 = f 2 + ((0 : Nat) : Int) by omega)] at key
  exact key
set_option maxHeartbeats 4000000 in
set_option maxRecDepth 100000 in
theorem c_X6_advance (G : GG) (l : Launch) (a b : Nat) (f bu : Int → Int) (ho : RO1 f) (hbu : sB 1000 bu)  : Ct G l yX6_advance (Cond.code yX6_advance cX6_advance 2 none :: wsL_law) 2 41 0 0 [.ref a] ((rdW G a b (f) (bu))) (fun r w => r = none ∧ w = rdW G a b (avR f bu) bu) := by
  refine Ct.of (own := RX6) (cc := cX6_advance) (maxL := 2) (ret := none) (by decide) rfl rfl (Nat.le_of_ble_eq_true rfl) (fun X C E M hG hl => ?_)
  subst hG hl
  have ho0 := ho
  obtain ⟨⟨h4a, h4b, h2a, h2b, h1b⟩, ⟨h3a, h3b⟩, h5, ⟨h6a, h6b⟩, ⟨h7a, h7b⟩, h8, h9, h0a, h0b⟩ := ho0
  have lp : ∀ (n : Nat) (n0 : Nat) (hn0 : f 2 + (n0 : Int) ≤ f 1) (hno : ∀ j : Nat, j < n0 → ¬ (fun j : Nat => ¬ (f 2 + (j : Int) < f 1 ∧ spP (bu (f 2 + (j : Int))))) j) (hm : f 1 - f 2 - (n0 : Int) < (n : Int)), V X 0 0 0 [(0, .ref a)] [] ((rdW (vG X) a b (up (f) 2 ((f 2) + (n0 : Int))) (bu))) := by
    intro n
    induction n with
    | zero => intro n0 hn0 hno hm; exact absurd hm (by omega)
    | succ n ih =>
      intro n0 hn0 hno hm
      have hsb : sbX (up f 2 (f 2 + (n0 : Int))) := sbX_up (RO1_sb ho) (by omega)
      refine v_aload_n C dX6_advance_0 rfl 0 rfl ?_
      refine v_get (v := vI ((f 2) + (n0 : Int))) C inw_6 0 3 rfl (by decide) (List.mem_cons_of_mem _ mw_456) rfl rfl dX6_advance_1 ?_
      refine v_aload_n C dX6_advance_4 rfl 0 rfl ?_
      refine v_get (v := vI (f 1)) C inw_6 0 2 rfl (by decide) (List.mem_cons_of_mem _ mw_455) rfl rfl dX6_advance_5 ?_
      refine v_icmp_ge (tgt := 38) C dX6_advance_8 (by decide) (by  first | assumption | exact ⟨by omega, by omega⟩) (by  first | assumption | exact ⟨by omega, by omega⟩) (fun c8 => ?_) (fun c8 => ?_)
      · skip
        have en : n0 = skN (fun j : Nat => ¬ (f 2 + (j : Int) < f 1 ∧ spP (bu (f 2 + (j : Int))))) (f 1 - f 2).toNat := skN_u _ _ hno (by omega) (Or.inl (fun h => by omega))
        have et : f 2 + (n0 : Int) = runE spP bu (f 1) (f 2) := by unfold runE; rw [← en]
        rw [et]
        have hr := runE_in (p := spP) (bu := bu) (n := f 1) (s := f 2) (by omega)
        refine v_aload_n C dX6_advance_38 rfl 0 rfl ?_
        refine v_aload_n C dX6_advance_39 rfl 0 rfl ?_
        refine v_get (v := vI (runE spP bu (f 1) (f 2))) C inw_6 0 3 rfl (by decide) (List.mem_cons_of_mem _ mw_456) rfl rfl dX6_advance_40 ?_
        refine v_put C inw_6 tyX6 tyX6_ok nmX6 0 5 rfl (by decide) (List.mem_cons_of_mem _ mw_465) rfl rfl rfl rfl (Nat.le_of_ble_eq_true rfl) dX6_advance_43 (ws' := (rdW (vG X) a b (up (up (f) 2 (runE spP bu (f 1) (f 2))) 4 (runE spP bu (f 1) (f 2))) (bu))) rfl ?_
        have ho1 : RO (skR f bu) := skR_ok ho
        have hsb : sbX (skR f bu) := RO_sb ho1
        show V X 0 0 46 [(0, .ref a)] [] ((rdW (vG X) a b (skR f bu) (bu)))
        by_cases ce : f 1 ≤ (runE spP bu (f 1) (f 2))
        · skip
          have e2 : skR f bu 2 = (runE spP bu (f 1) (f 2)) := rfl
          have e1 : skR f bu 1 = f 1 := rfl
          refine v_aload_n C dX6_advance_46 rfl 0 rfl ?_
          refine v_aload_n C dX6_advance_47 rfl 0 rfl ?_
          refine v_get (v := vI ((skR f bu) 2)) C inw_6 0 3 rfl (by decide) (List.mem_cons_of_mem _ mw_456) rfl rfl dX6_advance_48 ?_
          refine v_callV (na := 1) (wy := (Cond.code yX6_byteAt cX6_byteAt 2 (some .int) :: wsL_law)) (wc := (rdW (vG X) a b (skR f bu) (bu))) (wr := []) C [vI ((skR f bu) 2)] [] (c_X6_byteAt _ _ a b (skR f bu) (bu) ((skR f bu) 2) ⟨by omega, by omega⟩ hsb) rfl (gwV mw_469 mw_466 mw_467 mw_468 mw_11) rfl (by decide +kernel) 0 rfl rfl rfl rfl Sb.w rfl rfl dX6_advance_51 (fun r w1 hp51_1 => ?_)
          obtain ⟨rfl, rfl⟩ := hp51_1
          rw [if_neg (show ¬ ((0 ≤ ((skR f bu) 2) ∧ ((skR f bu) 2) < (skR f bu) 1) ∧ ((skR f bu) 2) < 700) from (show ¬ ((0 ≤ ((skR f bu) 2) ∧ ((skR f bu) 2) < skR f bu 1) ∧ ((skR f bu) 2) < 700) by omega))]
          show V X 0 0 54 [(0, .ref a)] [vI (-1)] ((rdW (vG X) a b (skR f bu) (bu)))
          refine v_istore_n C M dX6_advance_54 rfl (by decide) (L' := [(1, vI (-1)), (0, .ref a)]) rfl ?_
          refine v_aload_n C dX6_advance_55 rfl 1 rfl ?_
          refine v_get (v := vI ((skR f bu) 2)) C inw_6 0 3 rfl (by decide) (List.mem_cons_of_mem _ mw_456) rfl rfl dX6_advance_56 ?_
          refine v_aload_n C dX6_advance_59 rfl 1 rfl ?_
          refine v_get (v := vI ((skR f bu) 1)) C inw_6 0 2 rfl (by decide) (List.mem_cons_of_mem _ mw_455) rfl rfl dX6_advance_60 ?_
          refine v_icmp_lt (tgt := 74) C dX6_advance_63 (by decide) (by  first | assumption | exact ⟨by omega, by omega⟩) (by  first | assumption | exact ⟨by omega, by omega⟩) (fun c63 => ?_) (fun c63 => ?_)
          · skip
            exact absurd c63 (by omega)
          · skip
            refine v_aload_n C dX6_advance_66 rfl 1 rfl ?_
            refine v_iconst C dX6_advance_67 ?_
            refine v_put C inw_6 tyX6 tyX6_ok nmX6 0 4 rfl (by decide) (List.mem_cons_of_mem _ mw_460) rfl rfl rfl rfl (Nat.le_of_ble_eq_true rfl) dX6_advance_68 (ws' := (rdW (vG X) a b (up (skR f bu) 3 0) (bu))) rfl ?_
            refine v_goto (tgt := 131) C dX6_advance_71 (by decide) ?_
            exact v_vret C E rfl dX6_advance_131 (by decide) (by decide) (⟨rfl, by rw [show avR f bu = _ from if_pos ce]⟩)
        · skip
          have e2 : skR f bu 2 = (runE spP bu (f 1) (f 2)) := rfl
          have e1 : skR f bu 1 = f 1 := rfl
          refine v_aload_n C dX6_advance_46 rfl 0 rfl ?_
          refine v_aload_n C dX6_advance_47 rfl 0 rfl ?_
          refine v_get (v := vI ((skR f bu) 2)) C inw_6 0 3 rfl (by decide) (List.mem_cons_of_mem _ mw_456) rfl rfl dX6_advance_48 ?_
          refine v_callV (na := 1) (wy := (Cond.code yX6_byteAt cX6_byteAt 2 (some .int) :: wsL_law)) (wc := (rdW (vG X) a b (skR f bu) (bu))) (wr := []) C [vI ((skR f bu) 2)] [] (c_X6_byteAt _ _ a b (skR f bu) (bu) ((skR f bu) 2) ⟨by omega, by omega⟩ hsb) rfl (gwV mw_469 mw_466 mw_467 mw_468 mw_11) rfl (by decide +kernel) 0 rfl rfl rfl rfl Sb.w rfl rfl dX6_advance_51 (fun r w1 hp51_2 => ?_)
          obtain ⟨rfl, rfl⟩ := hp51_2
          rw [if_pos (show ((0 ≤ ((skR f bu) 2) ∧ ((skR f bu) 2) < (skR f bu) 1) ∧ ((skR f bu) 2) < 700) from (show ((0 ≤ ((skR f bu) 2) ∧ ((skR f bu) 2) < skR f bu 1) ∧ ((skR f bu) 2) < 700) by omega))]
          show V X 0 0 54 [(0, .ref a)] [vI (bu ((skR f bu) 2))] ((rdW (vG X) a b (skR f bu) (bu)))
          refine v_istore_n C M dX6_advance_54 rfl (by decide) (L' := [(1, vI (bu ((skR f bu) 2))), (0, .ref a)]) rfl ?_
          refine v_aload_n C dX6_advance_55 rfl 1 rfl ?_
          refine v_get (v := vI ((skR f bu) 2)) C inw_6 0 3 rfl (by decide) (List.mem_cons_of_mem _ mw_456) rfl rfl dX6_advance_56 ?_
          refine v_aload_n C dX6_advance_59 rfl 1 rfl ?_
          refine v_get (v := vI ((skR f bu) 1)) C inw_6 0 2 rfl (by decide) (List.mem_cons_of_mem _ mw_455) rfl rfl dX6_advance_60 ?_
          refine v_icmp_lt (tgt := 74) C dX6_advance_63 (by decide) (by  first | assumption | exact ⟨by omega, by omega⟩) (by  first | assumption | exact ⟨by omega, by omega⟩) (fun c63 => ?_) (fun c63 => ?_)
          · skip
            rw [e2]
            refine v_iload_n C dX6_advance_74 rfl 0 rfl ?_
            refine v_bipush C dX6_advance_75 (by decide +kernel) ?_
            refine v_icmp_ne (tgt := 98) C dX6_advance_77 (by decide) (by have := hbu (runE spP bu (f 1) (f 2)); first | assumption | exact ⟨by omega, by omega⟩) (by decide) (fun c77 => ?_) (fun c77 => ?_)
            · skip
              refine v_iload_n C dX6_advance_98 rfl 0 rfl ?_
              refine v_callS (na := 1) (wy := (Cond.code yX6_isLetter cX6_isLetter 1 (some .boolean) :: wsL_law)) (wc := []) (wr := (rdW (vG X) a b (skR f bu) (bu))) C [vI (bu (runE spP bu (f 1) (f 2)))] [] (c_X6_isLetter _ _ (bu (runE spP bu (f 1) (f 2))) (by have := hbu (runE spP bu (f 1) (f 2)); first | assumption | exact ⟨by omega, by omega⟩)) rfl (gwS mw_475 mw_473 mw_474 mw_11) (by decide +kernel) rfl rfl Sb.rf rfl rfl dX6_advance_99 (fun r w1 hp99_3 => ?_)
              obtain ⟨rfl, rfl⟩ := hp99_3
              show V X 0 0 102 [(1, vI (bu (runE spP bu (f 1) (f 2)))), (0, .ref a)] [vI (bI (97 ≤ (bu (runE spP bu (f 1) (f 2))) ∧ (bu (runE spP bu (f 1) (f 2))) ≤ 122))] ((rdW (vG X) a b (skR f bu) (bu)))
              refine v_if_eq (tgt := 112) C dX6_advance_102 (by decide) sm_bI (fun c102 => ?_) (fun c102 => ?_)
              · skip
                have c102 := bI_0.mp c102
                refine v_iload_n C dX6_advance_112 rfl 0 rfl ?_
                refine v_callS (na := 1) (wy := (Cond.code yX6_isDigit cX6_isDigit 1 (some .boolean) :: wsL_law)) (wc := []) (wr := (rdW (vG X) a b (skR f bu) (bu))) C [vI (bu (runE spP bu (f 1) (f 2)))] [] (c_X6_isDigit _ _ (bu (runE spP bu (f 1) (f 2))) (by have := hbu (runE spP bu (f 1) (f 2)); first | assumption | exact ⟨by omega, by omega⟩)) rfl (gwS mw_482 mw_480 mw_481 mw_11) (by decide +kernel) rfl rfl Sb.rf rfl rfl dX6_advance_113 (fun r w1 hp113_4 => ?_)
                obtain ⟨rfl, rfl⟩ := hp113_4
                show V X 0 0 116 [(1, vI (bu (runE spP bu (f 1) (f 2)))), (0, .ref a)] [vI (bI (48 ≤ (bu (runE spP bu (f 1) (f 2))) ∧ (bu (runE spP bu (f 1) (f 2))) ≤ 57))] ((rdW (vG X) a b (skR f bu) (bu)))
                refine v_if_eq (tgt := 126) C dX6_advance_116 (by decide) sm_bI (fun c116 => ?_) (fun c116 => ?_)
                · skip
                  have c116 := bI_0.mp c116
                  refine v_aload_n C dX6_advance_126 rfl 1 rfl ?_
                  refine v_iconst C dX6_advance_127 ?_
                  refine v_put C inw_6 tyX6 tyX6_ok nmX6 0 4 rfl (by decide) (List.mem_cons_of_mem _ mw_460) rfl rfl rfl rfl (Nat.le_of_ble_eq_true rfl) dX6_advance_128 (ws' := (rdW (vG X) a b (up (skR f bu) 3 4) (bu))) rfl ?_
                  exact v_vret C E rfl dX6_advance_131 (by decide) (by decide) (⟨rfl, by rw [show avR f bu = _ from (if_neg ce).trans ((if_neg c77).trans ((if_neg c102).trans (if_neg c116)))]⟩)
                · skip
                  have c116 := bI_n0.mp c116
                  refine v_aload_n C dX6_advance_119 rfl 1 rfl ?_
                  refine v_callV (na := 0) (wy := (Cond.code yX6_passDigits cX6_passDigits 1 none :: wsL_law)) (wc := (rdW (vG X) a b (skR f bu) (bu))) (wr := []) C [] [] (c_X6_passDigits _ _ a b (skR f bu) bu ho1 hbu) rfl (gwV mw_486 mw_483 mw_484 mw_485 mw_11) rfl (by decide +kernel) 0 rfl rfl rfl rfl Sb.w rfl rfl dX6_advance_120 (fun r w1 hp120_5 => ?_)
                  obtain ⟨rfl, rfl⟩ := hp120_5
                  show V X 0 0 123 [(1, vI (bu (runE spP bu (f 1) (f 2)))), (0, .ref a)] [] ((rdW (vG X) a b (pdR (skR f bu) bu) (bu)))
                  have ro6 : RO (pdR (skR f bu) bu) := pdR_ok ho1 hbu
                  have ro6c := ro6
                  obtain ⟨⟨ro64a, ro64b, ro62b, ro61b⟩, ⟨ro63a, ro63b⟩, ro65, ⟨ro66a, ro66b⟩, ⟨ro67a, ro67b⟩, ro68, ro69, ro60a, ro60b⟩ := ro6c
                  refine v_goto (tgt := 131) C dX6_advance_123 (by decide) ?_
                  exact v_vret C E rfl dX6_advance_131 (by decide) (by decide) (⟨rfl, by rw [show avR f bu = _ from (if_neg ce).trans ((if_neg c77).trans ((if_neg c102).trans (if_pos c116)))]⟩)
              · skip
                have c102 := bI_n0.mp c102
                refine v_aload_n C dX6_advance_105 rfl 1 rfl ?_
                refine v_callV (na := 0) (wy := (Cond.code yX6_passLetters cX6_passLetters 1 none :: wsL_law)) (wc := (rdW (vG X) a b (skR f bu) (bu))) (wr := []) C [] [] (c_X6_passLetters _ _ a b (skR f bu) bu ho1 hbu) rfl (gwV mw_479 mw_476 mw_477 mw_478 mw_11) rfl (by decide +kernel) 0 rfl rfl rfl rfl Sb.w rfl rfl dX6_advance_106 (fun r w1 hp106_7 => ?_)
                obtain ⟨rfl, rfl⟩ := hp106_7
                show V X 0 0 109 [(1, vI (bu (runE spP bu (f 1) (f 2)))), (0, .ref a)] [] ((rdW (vG X) a b (plR (skR f bu) bu) (bu)))
                have ro8 : RO (plR (skR f bu) bu) := plR_ok ho1 hbu
                have ro8c := ro8
                obtain ⟨⟨ro84a, ro84b, ro82b, ro81b⟩, ⟨ro83a, ro83b⟩, ro85, ⟨ro86a, ro86b⟩, ⟨ro87a, ro87b⟩, ro88, ro89, ro80a, ro80b⟩ := ro8c
                refine v_goto (tgt := 131) C dX6_advance_109 (by decide) ?_
                exact v_vret C E rfl dX6_advance_131 (by decide) (by decide) (⟨rfl, by rw [show avR f bu = _ from (if_neg ce).trans ((if_neg c77).trans (if_pos c102))]⟩)
            · skip
              refine v_aload_n C dX6_advance_80 rfl 1 rfl ?_
              refine v_iconst C dX6_advance_81 ?_
              refine v_put C inw_6 tyX6 tyX6_ok nmX6 0 4 rfl (by decide) (List.mem_cons_of_mem _ mw_460) rfl rfl rfl rfl (Nat.le_of_ble_eq_true rfl) dX6_advance_82 (ws' := (rdW (vG X) a b (up (skR f bu) 3 3) (bu))) rfl ?_
              refine v_aload_n C dX6_advance_85 rfl 1 rfl ?_
              refine v_dup C dX6_advance_86 rfl ?_
              refine v_get (v := vI ((skR f bu) 2)) C inw_6 0 3 rfl (by decide) (List.mem_cons_of_mem _ mw_456) rfl rfl dX6_advance_87 ?_
              refine v_iconst C dX6_advance_90 ?_
              refine v_iadd C dX6_advance_91 ?_
              refine v_put C inw_6 tyX6 tyX6_ok nmX6 0 3 rfl (by decide) (List.mem_cons_of_mem _ mw_456) rfl rfl rfl rfl (Nat.le_of_ble_eq_true rfl) dX6_advance_92 (ws' := (rdW (vG X) a b (up (up (skR f bu) 3 3) 2 (((skR f bu) 2) + 1)) (bu))) rfl ?_
              refine v_goto (tgt := 131) C dX6_advance_95 (by decide) ?_
              exact v_vret C E rfl dX6_advance_131 (by decide) (by decide) (⟨rfl, by rw [show avR f bu = _ from (if_neg ce).trans (if_pos c77)]; rfl⟩)
          · skip
            exact absurd ce (by omega)
      · skip
        refine v_aload_n C dX6_advance_11 rfl 0 rfl ?_
        refine v_aload_n C dX6_advance_12 rfl 0 rfl ?_
        refine v_get (v := vI ((f 2) + (n0 : Int))) C inw_6 0 3 rfl (by decide) (List.mem_cons_of_mem _ mw_456) rfl rfl dX6_advance_13 ?_
        refine v_callV (na := 1) (wy := (Cond.code yX6_byteAt cX6_byteAt 2 (some .int) :: wsL_law)) (wc := (rdW (vG X) a b (up (f) 2 ((f 2) + (n0 : Int))) (bu))) (wr := []) C [vI ((f 2) + (n0 : Int))] [] (c_X6_byteAt _ _ a b (up (f) 2 ((f 2) + (n0 : Int))) (bu) ((f 2) + (n0 : Int)) ⟨by omega, by omega⟩ hsb) rfl (gwV mw_469 mw_466 mw_467 mw_468 mw_11) rfl (by decide +kernel) 0 rfl rfl rfl rfl Sb.w rfl rfl dX6_advance_16 (fun r w1 hp16_9 => ?_)
        obtain ⟨rfl, rfl⟩ := hp16_9
        rw [if_pos (show ((0 ≤ ((f 2) + (n0 : Int)) ∧ ((f 2) + (n0 : Int)) < (up (f) 2 ((f 2) + (n0 : Int))) 1) ∧ ((f 2) + (n0 : Int)) < 700) from (show ((0 ≤ ((f 2) + (n0 : Int)) ∧ ((f 2) + (n0 : Int)) < f 1) ∧ ((f 2) + (n0 : Int)) < 700) by omega))]
        show V X 0 0 19 [(0, .ref a)] [vI (bu ((f 2) + (n0 : Int)))] ((rdW (vG X) a b (up (f) 2 ((f 2) + (n0 : Int))) (bu)))
        refine v_callS (na := 1) (wy := (Cond.code yX6_isSpace cX6_isSpace 1 (some .boolean) :: wsL_law)) (wc := []) (wr := (rdW (vG X) a b (up (f) 2 ((f 2) + (n0 : Int))) (bu))) C [vI (bu ((f 2) + (n0 : Int)))] [] (c_X6_isSpace _ _ (bu ((f 2) + (n0 : Int))) (by have := hbu ((f 2) + (n0 : Int)); first | assumption | exact ⟨by omega, by omega⟩)) rfl (gwS mw_472 mw_470 mw_471 mw_11) (by decide +kernel) rfl rfl Sb.rf rfl rfl dX6_advance_19 (fun r w1 hp19_10 => ?_)
        obtain ⟨rfl, rfl⟩ := hp19_10
        show V X 0 0 22 [(0, .ref a)] [vI (bI ((bu ((f 2) + (n0 : Int))) = 32 ∨ (bu ((f 2) + (n0 : Int))) = 10))] ((rdW (vG X) a b (up (f) 2 ((f 2) + (n0 : Int))) (bu)))
        refine v_if_eq (tgt := 38) C dX6_advance_22 (by decide) sm_bI (fun c22 => ?_) (fun c22 => ?_)
        · skip
          have c22 := bI_0.mp c22
          have en : n0 = skN (fun j : Nat => ¬ (f 2 + (j : Int) < f 1 ∧ spP (bu (f 2 + (j : Int))))) (f 1 - f 2).toNat := skN_u _ _ hno (by omega) (Or.inl (fun h => c22 h.2))
          have et : f 2 + (n0 : Int) = runE spP bu (f 1) (f 2) := by unfold runE; rw [← en]
          rw [et]
          have hr := runE_in (p := spP) (bu := bu) (n := f 1) (s := f 2) (by omega)
          refine v_aload_n C dX6_advance_38 rfl 0 rfl ?_
          refine v_aload_n C dX6_advance_39 rfl 0 rfl ?_
          refine v_get (v := vI (runE spP bu (f 1) (f 2))) C inw_6 0 3 rfl (by decide) (List.mem_cons_of_mem _ mw_456) rfl rfl dX6_advance_40 ?_
          refine v_put C inw_6 tyX6 tyX6_ok nmX6 0 5 rfl (by decide) (List.mem_cons_of_mem _ mw_465) rfl rfl rfl rfl (Nat.le_of_ble_eq_true rfl) dX6_advance_43 (ws' := (rdW (vG X) a b (up (up (f) 2 (runE spP bu (f 1) (f 2))) 4 (runE spP bu (f 1) (f 2))) (bu))) rfl ?_
          have ho1 : RO (skR f bu) := skR_ok ho
          have hsb : sbX (skR f bu) := RO_sb ho1
          show V X 0 0 46 [(0, .ref a)] [] ((rdW (vG X) a b (skR f bu) (bu)))
          by_cases ce : f 1 ≤ (runE spP bu (f 1) (f 2))
          · skip
            have e2 : skR f bu 2 = (runE spP bu (f 1) (f 2)) := rfl
            have e1 : skR f bu 1 = f 1 := rfl
            refine v_aload_n C dX6_advance_46 rfl 0 rfl ?_
            refine v_aload_n C dX6_advance_47 rfl 0 rfl ?_
            refine v_get (v := vI ((skR f bu) 2)) C inw_6 0 3 rfl (by decide) (List.mem_cons_of_mem _ mw_456) rfl rfl dX6_advance_48 ?_
            refine v_callV (na := 1) (wy := (Cond.code yX6_byteAt cX6_byteAt 2 (some .int) :: wsL_law)) (wc := (rdW (vG X) a b (skR f bu) (bu))) (wr := []) C [vI ((skR f bu) 2)] [] (c_X6_byteAt _ _ a b (skR f bu) (bu) ((skR f bu) 2) ⟨by omega, by omega⟩ hsb) rfl (gwV mw_469 mw_466 mw_467 mw_468 mw_11) rfl (by decide +kernel) 0 rfl rfl rfl rfl Sb.w rfl rfl dX6_advance_51 (fun r w1 hp51_11 => ?_)
            obtain ⟨rfl, rfl⟩ := hp51_11
            rw [if_neg (show ¬ ((0 ≤ ((skR f bu) 2) ∧ ((skR f bu) 2) < (skR f bu) 1) ∧ ((skR f bu) 2) < 700) from (show ¬ ((0 ≤ ((skR f bu) 2) ∧ ((skR f bu) 2) < skR f bu 1) ∧ ((skR f bu) 2) < 700) by omega))]
            show V X 0 0 54 [(0, .ref a)] [vI (-1)] ((rdW (vG X) a b (skR f bu) (bu)))
            refine v_istore_n C M dX6_advance_54 rfl (by decide) (L' := [(1, vI (-1)), (0, .ref a)]) rfl ?_
            refine v_aload_n C dX6_advance_55 rfl 1 rfl ?_
            refine v_get (v := vI ((skR f bu) 2)) C inw_6 0 3 rfl (by decide) (List.mem_cons_of_mem _ mw_456) rfl rfl dX6_advance_56 ?_
            refine v_aload_n C dX6_advance_59 rfl 1 rfl ?_
            refine v_get (v := vI ((skR f bu) 1)) C inw_6 0 2 rfl (by decide) (List.mem_cons_of_mem _ mw_455) rfl rfl dX6_advance_60 ?_
            refine v_icmp_lt (tgt := 74) C dX6_advance_63 (by decide) (by  first | assumption | exact ⟨by omega, by omega⟩) (by  first | assumption | exact ⟨by omega, by omega⟩) (fun c63 => ?_) (fun c63 => ?_)
            · skip
              exact absurd c63 (by omega)
            · skip
              refine v_aload_n C dX6_advance_66 rfl 1 rfl ?_
              refine v_iconst C dX6_advance_67 ?_
              refine v_put C inw_6 tyX6 tyX6_ok nmX6 0 4 rfl (by decide) (List.mem_cons_of_mem _ mw_460) rfl rfl rfl rfl (Nat.le_of_ble_eq_true rfl) dX6_advance_68 (ws' := (rdW (vG X) a b (up (skR f bu) 3 0) (bu))) rfl ?_
              refine v_goto (tgt := 131) C dX6_advance_71 (by decide) ?_
              exact v_vret C E rfl dX6_advance_131 (by decide) (by decide) (⟨rfl, by rw [show avR f bu = _ from if_pos ce]⟩)
          · skip
            have e2 : skR f bu 2 = (runE spP bu (f 1) (f 2)) := rfl
            have e1 : skR f bu 1 = f 1 := rfl
            refine v_aload_n C dX6_advance_46 rfl 0 rfl ?_
            refine v_aload_n C dX6_advance_47 rfl 0 rfl ?_
            refine v_get (v := vI ((skR f bu) 2)) C inw_6 0 3 rfl (by decide) (List.mem_cons_of_mem _ mw_456) rfl rfl dX6_advance_48 ?_
            refine v_callV (na := 1) (wy := (Cond.code yX6_byteAt cX6_byteAt 2 (some .int) :: wsL_law)) (wc := (rdW (vG X) a b (skR f bu) (bu))) (wr := []) C [vI ((skR f bu) 2)] [] (c_X6_byteAt _ _ a b (skR f bu) (bu) ((skR f bu) 2) ⟨by omega, by omega⟩ hsb) rfl (gwV mw_469 mw_466 mw_467 mw_468 mw_11) rfl (by decide +kernel) 0 rfl rfl rfl rfl Sb.w rfl rfl dX6_advance_51 (fun r w1 hp51_12 => ?_)
            obtain ⟨rfl, rfl⟩ := hp51_12
            rw [if_pos (show ((0 ≤ ((skR f bu) 2) ∧ ((skR f bu) 2) < (skR f bu) 1) ∧ ((skR f bu) 2) < 700) from (show ((0 ≤ ((skR f bu) 2) ∧ ((skR f bu) 2) < skR f bu 1) ∧ ((skR f bu) 2) < 700) by omega))]
            show V X 0 0 54 [(0, .ref a)] [vI (bu ((skR f bu) 2))] ((rdW (vG X) a b (skR f bu) (bu)))
            refine v_istore_n C M dX6_advance_54 rfl (by decide) (L' := [(1, vI (bu ((skR f bu) 2))), (0, .ref a)]) rfl ?_
            refine v_aload_n C dX6_advance_55 rfl 1 rfl ?_
            refine v_get (v := vI ((skR f bu) 2)) C inw_6 0 3 rfl (by decide) (List.mem_cons_of_mem _ mw_456) rfl rfl dX6_advance_56 ?_
            refine v_aload_n C dX6_advance_59 rfl 1 rfl ?_
            refine v_get (v := vI ((skR f bu) 1)) C inw_6 0 2 rfl (by decide) (List.mem_cons_of_mem _ mw_455) rfl rfl dX6_advance_60 ?_
            refine v_icmp_lt (tgt := 74) C dX6_advance_63 (by decide) (by  first | assumption | exact ⟨by omega, by omega⟩) (by  first | assumption | exact ⟨by omega, by omega⟩) (fun c63 => ?_) (fun c63 => ?_)
            · skip
              rw [e2]
              refine v_iload_n C dX6_advance_74 rfl 0 rfl ?_
              refine v_bipush C dX6_advance_75 (by decide +kernel) ?_
              refine v_icmp_ne (tgt := 98) C dX6_advance_77 (by decide) (by have := hbu (runE spP bu (f 1) (f 2)); first | assumption | exact ⟨by omega, by omega⟩) (by decide) (fun c77 => ?_) (fun c77 => ?_)
              · skip
                refine v_iload_n C dX6_advance_98 rfl 0 rfl ?_
                refine v_callS (na := 1) (wy := (Cond.code yX6_isLetter cX6_isLetter 1 (some .boolean) :: wsL_law)) (wc := []) (wr := (rdW (vG X) a b (skR f bu) (bu))) C [vI (bu (runE spP bu (f 1) (f 2)))] [] (c_X6_isLetter _ _ (bu (runE spP bu (f 1) (f 2))) (by have := hbu (runE spP bu (f 1) (f 2)); first | assumption | exact ⟨by omega, by omega⟩)) rfl (gwS mw_475 mw_473 mw_474 mw_11) (by decide +kernel) rfl rfl Sb.rf rfl rfl dX6_advance_99 (fun r w1 hp99_13 => ?_)
                obtain ⟨rfl, rfl⟩ := hp99_13
                show V X 0 0 102 [(1, vI (bu (runE spP bu (f 1) (f 2)))), (0, .ref a)] [vI (bI (97 ≤ (bu (runE spP bu (f 1) (f 2))) ∧ (bu (runE spP bu (f 1) (f 2))) ≤ 122))] ((rdW (vG X) a b (skR f bu) (bu)))
                refine v_if_eq (tgt := 112) C dX6_advance_102 (by decide) sm_bI (fun c102 => ?_) (fun c102 => ?_)
                · skip
                  have c102 := bI_0.mp c102
                  refine v_iload_n C dX6_advance_112 rfl 0 rfl ?_
                  refine v_callS (na := 1) (wy := (Cond.code yX6_isDigit cX6_isDigit 1 (some .boolean) :: wsL_law)) (wc := []) (wr := (rdW (vG X) a b (skR f bu) (bu))) C [vI (bu (runE spP bu (f 1) (f 2)))] [] (c_X6_isDigit _ _ (bu (runE spP bu (f 1) (f 2))) (by have := hbu (runE spP bu (f 1) (f 2)); first | assumption | exact ⟨by omega, by omega⟩)) rfl (gwS mw_482 mw_480 mw_481 mw_11) (by decide +kernel) rfl rfl Sb.rf rfl rfl dX6_advance_113 (fun r w1 hp113_14 => ?_)
                  obtain ⟨rfl, rfl⟩ := hp113_14
                  show V X 0 0 116 [(1, vI (bu (runE spP bu (f 1) (f 2)))), (0, .ref a)] [vI (bI (48 ≤ (bu (runE spP bu (f 1) (f 2))) ∧ (bu (runE spP bu (f 1) (f 2))) ≤ 57))] ((rdW (vG X) a b (skR f bu) (bu)))
                  refine v_if_eq (tgt := 126) C dX6_advance_116 (by decide) sm_bI (fun c116 => ?_) (fun c116 => ?_)
                  · skip
                    have c116 := bI_0.mp c116
                    refine v_aload_n C dX6_advance_126 rfl 1 rfl ?_
                    refine v_iconst C dX6_advance_127 ?_
                    refine v_put C inw_6 tyX6 tyX6_ok nmX6 0 4 rfl (by decide) (List.mem_cons_of_mem _ mw_460) rfl rfl rfl rfl (Nat.le_of_ble_eq_true rfl) dX6_advance_128 (ws' := (rdW (vG X) a b (up (skR f bu) 3 4) (bu))) rfl ?_
                    exact v_vret C E rfl dX6_advance_131 (by decide) (by decide) (⟨rfl, by rw [show avR f bu = _ from (if_neg ce).trans ((if_neg c77).trans ((if_neg c102).trans (if_neg c116)))]⟩)
                  · skip
                    have c116 := bI_n0.mp c116
                    refine v_aload_n C dX6_advance_119 rfl 1 rfl ?_
                    refine v_callV (na := 0) (wy := (Cond.code yX6_passDigits cX6_passDigits 1 none :: wsL_law)) (wc := (rdW (vG X) a b (skR f bu) (bu))) (wr := []) C [] [] (c_X6_passDigits _ _ a b (skR f bu) bu ho1 hbu) rfl (gwV mw_486 mw_483 mw_484 mw_485 mw_11) rfl (by decide +kernel) 0 rfl rfl rfl rfl Sb.w rfl rfl dX6_advance_120 (fun r w1 hp120_15 => ?_)
                    obtain ⟨rfl, rfl⟩ := hp120_15
                    show V X 0 0 123 [(1, vI (bu (runE spP bu (f 1) (f 2)))), (0, .ref a)] [] ((rdW (vG X) a b (pdR (skR f bu) bu) (bu)))
                    have ro16 : RO (pdR (skR f bu) bu) := pdR_ok ho1 hbu
                    have ro16c := ro16
                    obtain ⟨⟨ro164a, ro164b, ro162b, ro161b⟩, ⟨ro163a, ro163b⟩, ro165, ⟨ro166a, ro166b⟩, ⟨ro167a, ro167b⟩, ro168, ro169, ro160a, ro160b⟩ := ro16c
                    refine v_goto (tgt := 131) C dX6_advance_123 (by decide) ?_
                    exact v_vret C E rfl dX6_advance_131 (by decide) (by decide) (⟨rfl, by rw [show avR f bu = _ from (if_neg ce).trans ((if_neg c77).trans ((if_neg c102).trans (if_pos c116)))]⟩)
                · skip
                  have c102 := bI_n0.mp c102
                  refine v_aload_n C dX6_advance_105 rfl 1 rfl ?_
                  refine v_callV (na := 0) (wy := (Cond.code yX6_passLetters cX6_passLetters 1 none :: wsL_law)) (wc := (rdW (vG X) a b (skR f bu) (bu))) (wr := []) C [] [] (c_X6_passLetters _ _ a b (skR f bu) bu ho1 hbu) rfl (gwV mw_479 mw_476 mw_477 mw_478 mw_11) rfl (by decide +kernel) 0 rfl rfl rfl rfl Sb.w rfl rfl dX6_advance_106 (fun r w1 hp106_17 => ?_)
                  obtain ⟨rfl, rfl⟩ := hp106_17
                  show V X 0 0 109 [(1, vI (bu (runE spP bu (f 1) (f 2)))), (0, .ref a)] [] ((rdW (vG X) a b (plR (skR f bu) bu) (bu)))
                  have ro18 : RO (plR (skR f bu) bu) := plR_ok ho1 hbu
                  have ro18c := ro18
                  obtain ⟨⟨ro184a, ro184b, ro182b, ro181b⟩, ⟨ro183a, ro183b⟩, ro185, ⟨ro186a, ro186b⟩, ⟨ro187a, ro187b⟩, ro188, ro189, ro180a, ro180b⟩ := ro18c
                  refine v_goto (tgt := 131) C dX6_advance_109 (by decide) ?_
                  exact v_vret C E rfl dX6_advance_131 (by decide) (by decide) (⟨rfl, by rw [show avR f bu = _ from (if_neg ce).trans ((if_neg c77).trans (if_pos c102))]⟩)
              · skip
                refine v_aload_n C dX6_advance_80 rfl 1 rfl ?_
                refine v_iconst C dX6_advance_81 ?_
                refine v_put C inw_6 tyX6 tyX6_ok nmX6 0 4 rfl (by decide) (List.mem_cons_of_mem _ mw_460) rfl rfl rfl rfl (Nat.le_of_ble_eq_true rfl) dX6_advance_82 (ws' := (rdW (vG X) a b (up (skR f bu) 3 3) (bu))) rfl ?_
                refine v_aload_n C dX6_advance_85 rfl 1 rfl ?_
                refine v_dup C dX6_advance_86 rfl ?_
                refine v_get (v := vI ((skR f bu) 2)) C inw_6 0 3 rfl (by decide) (List.mem_cons_of_mem _ mw_456) rfl rfl dX6_advance_87 ?_
                refine v_iconst C dX6_advance_90 ?_
                refine v_iadd C dX6_advance_91 ?_
                refine v_put C inw_6 tyX6 tyX6_ok nmX6 0 3 rfl (by decide) (List.mem_cons_of_mem _ mw_456) rfl rfl rfl rfl (Nat.le_of_ble_eq_true rfl) dX6_advance_92 (ws' := (rdW (vG X) a b (up (up (skR f bu) 3 3) 2 (((skR f bu) 2) + 1)) (bu))) rfl ?_
                refine v_goto (tgt := 131) C dX6_advance_95 (by decide) ?_
                exact v_vret C E rfl dX6_advance_131 (by decide) (by decide) (⟨rfl, by rw [show avR f bu = _ from (if_neg ce).trans (if_pos c77)]; rfl⟩)
            · skip
              exact absurd ce (by omega)
        · skip
          have c22 := bI_n0.mp c22
          refine v_aload_n C dX6_advance_25 rfl 0 rfl ?_
          refine v_dup C dX6_advance_26 rfl ?_
          refine v_get (v := vI ((f 2) + (n0 : Int))) C inw_6 0 3 rfl (by decide) (List.mem_cons_of_mem _ mw_456) rfl rfl dX6_advance_27 ?_
          refine v_iconst C dX6_advance_30 ?_
          refine v_iadd C dX6_advance_31 ?_
          refine v_put C inw_6 tyX6 tyX6_ok nmX6 0 3 rfl (by decide) (List.mem_cons_of_mem _ mw_456) rfl rfl rfl rfl (Nat.le_of_ble_eq_true rfl) dX6_advance_32 (ws' := (rdW (vG X) a b (up (f) 2 (((f 2) + (n0 : Int)) + 1)) (bu))) rfl ?_
          refine v_goto (tgt := 0) C dX6_advance_35 (by decide) ?_
          have key := ih (n0 + 1) (by omega) (fun j hj => by
            by_cases e : j = n0
            · rw [e]; exact fun h => h ⟨by omega, c22⟩
            · exact hno j (by omega)) (by omega)
          rw [show f 2 + ((n0 + 1 : Nat) : Int) = f 2 + (n0 : Int) + 1 by omega] at key
          exact key
  have key := lp ((f 1 - f 2).toNat + 1) 0 (by omega) (fun j hj => absurd hj (by omega)) (by omega)
  rw [show up f 2 (f 2 + ((0 : Nat) : Int)) = f from up_id (by omega)] at key
  exact key
end C18
