section C19
set_option maxHeartbeats 4000000 in
set_option maxRecDepth 100000 in
theorem c_X6_isWord (G : GG) (l : Launch) (a b : Nat) (f bu : Int → Int) (i : Nat) (b0 : List Int32) (ho : RO f) (hbu : sB 1000 bu) (hi : strB[i]? = some b0) : Ct G l yX6_isWord (Cond.code yX6_isWord cX6_isWord 3 (some .boolean) :: wsL_law) 4 85 0 0 [.ref a, .ref (G.1.2 i)] ((rdW G a b (f) (bu))) (fun r w => r = some (vI (bI (isWd f bu b0))) ∧ w = rdW G a b f bu) := by
  refine Ct.of (own := RX6) (cc := cX6_isWord) (maxL := 3) (ret := (some .boolean)) (by decide) rfl rfl (Nat.le_of_ble_eq_true rfl) (fun X C E M hG hl => ?_)
  subst hG hl
  have ho0 := ho
  obtain ⟨⟨h4a, h4b, h2b, h1b⟩, ⟨h3a, h3b⟩, h5, ⟨h6a, h6b⟩, ⟨h7a, h7b⟩, h8, h9, h0a, h0b⟩ := ho0
  have hsb := RO_sb ho
  have hb9 := strB_ok hi
  refine v_aload_n C dX6_isWord_0 rfl 0 rfl ?_
  refine v_get (v := vI (f 3)) C inw_6 0 4 rfl (by decide) (List.mem_cons_of_mem _ mw_460) rfl rfl dX6_isWord_1 ?_
  refine v_iconst C dX6_isWord_4 ?_
  refine v_icmp_ne (tgt := 24) C dX6_isWord_5 (by decide) (by  first | assumption | exact ⟨by omega, by omega⟩) (by decide) (fun c5 => ?_) (fun c5 => ?_)
  · skip
    refine v_iconst C dX6_isWord_24 ?_
    exact v_zret C E rfl rfl dX6_isWord_25 (by decide) (by decide) (⟨by rw [bI_f (fun h => c5 h.1)], rfl⟩)
  · skip
    refine v_aload_n C dX6_isWord_8 rfl 0 rfl ?_
    refine v_get (v := vI (f 2)) C inw_6 0 3 rfl (by decide) (List.mem_cons_of_mem _ mw_456) rfl rfl dX6_isWord_9 ?_
    refine v_aload_n C dX6_isWord_12 rfl 0 rfl ?_
    refine v_get (v := vI (f 4)) C inw_6 0 5 rfl (by decide) (List.mem_cons_of_mem _ mw_465) rfl rfl dX6_isWord_13 ?_
    refine v_isub C dX6_isWord_16 ?_
    refine v_aload_n C dX6_isWord_17 rfl 1 rfl ?_
    refine v_callK (na := 0) (wy := (Cond.code yJ0_length_8abf5 cJ0_length_8abf5 1 (some .int) :: wsL_law)) (wc := []) (wr := (rdW (vG X) a b (f) (bu))) C [] [vI ((f 2) - (f 4))] (c_J0_length_8abf5 _ _ i b0 hi) rfl (gwV mw_234 mw_496 mw_231 mw_232 mw_233) rfl (by decide +kernel) hi rfl rfl Sb.rf rfl rfl dX6_isWord_18 (fun r w1 hp18_1 => ?_)
    obtain ⟨rfl, rfl⟩ := hp18_1
    show V X 0 0 21 [(0, .ref a), (1, .ref ((vG X).1.2 i))] [vI (b0.length : Int), vI ((f 2) - (f 4))] ((rdW (vG X) a b (f) (bu)))
    refine v_icmp_eq (tgt := 26) C dX6_isWord_21 (by decide) (by  first | assumption | exact ⟨by omega, by omega⟩) (by  first | assumption | exact ⟨by omega, by omega⟩) (fun c21 => ?_) (fun c21 => ?_)
    · skip
      refine v_iconst C dX6_isWord_26 ?_
      refine v_istore_n C M dX6_isWord_27 rfl (by decide) (L' := [(2, vI 0), (0, .ref a), (1, .ref ((vG X).1.2 i))]) rfl ?_
      refine V.loc (L' := [(0, .ref a), (1, .ref ((vG X).1.2 i)), (2, vI 0)]) [1, 2, 0] rfl ?_
      have lp : ∀ (n : Nat) (n0 : Nat) (hn0 : n0 ≤ b0.length) (hno : ∀ j : Nat, j < n0 → bu (f 4 + (j : Int)) = chK b0 (j : Int)) (hm : (b0.length : Int) - (n0 : Int) < (n : Int)), V X 0 0 28 [(0, .ref a), (1, .ref ((vG X).1.2 i)), (2, vI (n0 : Int))] [] ((rdW (vG X) a b (f) (bu))) := by
        intro n
        induction n with
        | zero => intro n0 hn0 hno hm; exact absurd hm (by omega)
        | succ n ih =>
          intro n0 hn0 hno hm
          refine v_iload_n C dX6_isWord_28 rfl 2 rfl ?_
          refine v_aload_n C dX6_isWord_29 rfl 1 rfl ?_
          refine v_callK (na := 0) (wy := (Cond.code yJ0_length_8abf5 cJ0_length_8abf5 1 (some .int) :: wsL_law)) (wc := []) (wr := (rdW (vG X) a b (f) (bu))) C [] [vI (n0 : Int)] (c_J0_length_8abf5 _ _ i b0 hi) rfl (gwV mw_234 mw_496 mw_231 mw_232 mw_233) rfl (by decide +kernel) hi rfl rfl Sb.rf rfl rfl dX6_isWord_30 (fun r w1 hp30_2 => ?_)
          obtain ⟨rfl, rfl⟩ := hp30_2
          show V X 0 0 33 [(0, .ref a), (1, .ref ((vG X).1.2 i)), (2, vI (n0 : Int))] [vI (b0.length : Int), vI (n0 : Int)] ((rdW (vG X) a b (f) (bu)))
          refine v_icmp_ge (tgt := 62) C dX6_isWord_33 (by decide) (by  first | assumption | exact ⟨by omega, by omega⟩) (by  first | assumption | exact ⟨by omega, by omega⟩) (fun c33 => ?_) (fun c33 => ?_)
          · skip
            refine v_iconst C dX6_isWord_62 ?_
            have en : n0 = b0.length := by omega
            exact v_zret C E rfl rfl dX6_isWord_63 (by decide) (by decide) (⟨by rw [bI_t (show isWd f bu b0 from ⟨c5, c21, eqK_t.mpr (fun j hj => hno j (by omega))⟩)], rfl⟩)
          · skip
            have hk : 0 ≤ chK b0 (n0 : Int) ∧ chK b0 (n0 : Int) < 128 := hb9.2 (n0 : Int).toNat (by omega)
            refine v_aload_n C dX6_isWord_36 rfl 0 rfl ?_
            refine v_aload_n C dX6_isWord_37 rfl 0 rfl ?_
            refine v_get (v := vI (f 4)) C inw_6 0 5 rfl (by decide) (List.mem_cons_of_mem _ mw_465) rfl rfl dX6_isWord_38 ?_
            refine v_iload_n C dX6_isWord_41 rfl 2 rfl ?_
            refine v_iadd C dX6_isWord_42 ?_
            refine v_callV (na := 1) (wy := (Cond.code yX6_byteAt cX6_byteAt 2 (some .int) :: wsL_law)) (wc := (rdW (vG X) a b (f) (bu))) (wr := []) C [vI ((f 4) + (n0 : Int))] [] (c_X6_byteAt _ _ a b (f) (bu) ((f 4) + (n0 : Int)) ⟨by omega, by omega⟩ hsb) rfl (gwV mw_469 mw_466 mw_467 mw_468 mw_11) rfl (by decide +kernel) 0 rfl rfl rfl rfl Sb.w rfl rfl dX6_isWord_43 (fun r w1 hp43_3 => ?_)
            obtain ⟨rfl, rfl⟩ := hp43_3
            rw [if_pos (show ((0 ≤ ((f 4) + (n0 : Int)) ∧ ((f 4) + (n0 : Int)) < (f) 1) ∧ ((f 4) + (n0 : Int)) < 700) from (show ((0 ≤ ((f 4) + (n0 : Int)) ∧ ((f 4) + (n0 : Int)) < f 1) ∧ ((f 4) + (n0 : Int)) < 700) by omega))]
            show V X 0 0 46 [(0, .ref a), (1, .ref ((vG X).1.2 i)), (2, vI (n0 : Int))] [vI (bu ((f 4) + (n0 : Int)))] ((rdW (vG X) a b (f) (bu)))
            refine v_aload_n C dX6_isWord_46 rfl 1 rfl ?_
            refine v_iload_n C dX6_isWord_47 rfl 2 rfl ?_
            refine v_callK (na := 1) (wy := (Cond.code yJ0_charAt_5068e cJ0_charAt_5068e 2 (some .char) :: wsL_law)) (wc := []) (wr := (rdW (vG X) a b (f) (bu))) C [vI (n0 : Int)] [vI (bu ((f 4) + (n0 : Int)))] (c_J0_charAt_5068e _ _ i b0 (n0 : Int) hi (by omega) (by omega)) rfl (gwV mw_500 mw_497 mw_498 mw_499 mw_233) rfl (by decide +kernel) hi rfl rfl Sb.rf rfl rfl dX6_isWord_48 (fun r w1 hp48_4 => ?_)
            obtain ⟨rfl, rfl⟩ := hp48_4
            show V X 0 0 51 [(0, .ref a), (1, .ref ((vG X).1.2 i)), (2, vI (n0 : Int))] [vI (chK b0 (n0 : Int)), vI (bu ((f 4) + (n0 : Int)))] ((rdW (vG X) a b (f) (bu)))
            refine v_icmp_eq (tgt := 56) C dX6_isWord_51 (by decide) (by have := hbu ((f 4) + (n0 : Int)); first | assumption | exact ⟨by omega, by omega⟩) (by  first | assumption | exact ⟨by omega, by omega⟩) (fun c51 => ?_) (fun c51 => ?_)
            · skip
              refine v_iinc C M dX6_isWord_56 2 rfl (by decide) (z' := ((n0 : Int) + 1)) rfl (L' := [(2, vI ((n0 : Int) + 1)), (0, .ref a), (1, .ref ((vG X).1.2 i))]) rfl ?_
              refine v_goto (tgt := 28) C dX6_isWord_59 (by decide) ?_
              refine V.loc (L' := [(0, .ref a), (1, .ref ((vG X).1.2 i)), (2, vI ((n0 : Int) + 1))]) [1, 2, 0] rfl ?_
              have key := ih (n0 + 1) (by omega) (fun j hj => by
                by_cases e : j = n0
                · rw [e]; exact c51
                · exact hno j (by omega)) (by omega)
              rw [show ((n0 + 1 : Nat) : Int) = (n0 : Int) + 1 by omega] at key
              exact key
            · skip
              refine v_iconst C dX6_isWord_54 ?_
              exact v_zret C E rfl rfl dX6_isWord_55 (by decide) (by decide) (⟨by rw [bI_f (fun h => c51 (eqK_t.mp h.2.2 n0 (by omega)))], rfl⟩)
      exact lp (b0.length + 1) 0 (by omega) (fun j hj => absurd hj (by omega)) (by omega)
    · skip
      refine v_iconst C dX6_isWord_24 ?_
      exact v_zret C E rfl rfl dX6_isWord_25 (by decide) (by decide) (⟨by rw [bI_f (fun h => c21 h.2.1)], rfl⟩)
set_option maxHeartbeats 4000000 in
set_option maxRecDepth 100000 in
theorem c_X6_takeSemicolon (G : GG) (l : Launch) (a b : Nat) (f bu : Int → Int) (ho : RO f) (hbu : sB 1000 bu)  : Ct G l yX6_takeSemicolon (Cond.code yX6_takeSemicolon cX6_takeSemicolon 1 none :: wsL_law) 3 62 0 0 [.ref a] ((rdW G a b (f) (bu))) (fun r w => r = none ∧ w = rdW G a b (tsR f bu) bu) := by
  refine Ct.of (own := RX6) (cc := cX6_takeSemicolon) (maxL := 1) (ret := none) (by decide) rfl rfl (Nat.le_of_ble_eq_true rfl) (fun X C E M hG hl => ?_)
  subst hG hl
  have ho0 := ho
  obtain ⟨⟨h4a, h4b, h2b, h1b⟩, ⟨h3a, h3b⟩, h5, ⟨h6a, h6b⟩, ⟨h7a, h7b⟩, h8, h9, h0a, h0b⟩ := ho0
  refine v_aload_n C dX6_takeSemicolon_0 rfl 0 rfl ?_
  refine v_get (v := vI (f 7)) C inw_6 0 8 rfl (by decide) (List.mem_cons_of_mem _ mw_457) rfl rfl dX6_takeSemicolon_1 ?_
  refine v_if_ne (tgt := 22) C dX6_takeSemicolon_4 (by decide) (by  first | assumption | exact ⟨by omega, by omega⟩) (fun c4 => ?_) (fun c4 => ?_)
  · skip
    refine v_aload_n C dX6_takeSemicolon_22 rfl 0 rfl ?_
    refine v_aload_n C dX6_takeSemicolon_23 rfl 0 rfl ?_
    refine v_get (v := vI (f 4)) C inw_6 0 5 rfl (by decide) (List.mem_cons_of_mem _ mw_465) rfl rfl dX6_takeSemicolon_24 ?_
    refine v_iconst C dX6_takeSemicolon_27 ?_
    refine v_callV (na := 2) (wy := (Cond.code yX6_failAt cX6_failAt 3 none :: wsL_law)) (wc := (rdW (vG X) a b (f) (bu))) (wr := []) C [vI (f 4), vI 1] [] (c_X6_failAt _ _ a b f bu (f 4) 1 (RO_sb ho)) rfl (gwV mw_520 mw_517 mw_518 mw_519 mw_11) rfl (by decide +kernel) 0 rfl rfl rfl rfl Sb.w rfl rfl dX6_takeSemicolon_28 (fun r w1 hp28_1 => ?_)
    obtain ⟨rfl, rfl⟩ := hp28_1
    show V X 0 0 31 [(0, .ref a)] [] ((rdW (vG X) a b (flR f (f 4) 1) (bu)))
    have ro2 : RO (flR f (f 4) 1) := flR_ok ho (by omega) (by omega)
    have ro2c := ro2
    obtain ⟨⟨ro24a, ro24b, ro22b, ro21b⟩, ⟨ro23a, ro23b⟩, ro25, ⟨ro26a, ro26b⟩, ⟨ro27a, ro27b⟩, ro28, ro29, ro20a, ro20b⟩ := ro2c
    exact v_vret C E rfl dX6_takeSemicolon_31 (by decide) (by decide) (⟨rfl, by rw [show tsR f bu = _ from if_neg (fun h => c4 h.1)]⟩)
  · skip
    refine v_aload_n C dX6_takeSemicolon_7 rfl 0 rfl ?_
    refine v_get (v := vI (f 3)) C inw_6 0 4 rfl (by decide) (List.mem_cons_of_mem _ mw_460) rfl rfl dX6_takeSemicolon_8 ?_
    refine v_iconst C dX6_takeSemicolon_11 ?_
    refine v_icmp_ne (tgt := 22) C dX6_takeSemicolon_12 (by decide) (by  first | assumption | exact ⟨by omega, by omega⟩) (by decide) (fun c12 => ?_) (fun c12 => ?_)
    · skip
      refine v_aload_n C dX6_takeSemicolon_22 rfl 0 rfl ?_
      refine v_aload_n C dX6_takeSemicolon_23 rfl 0 rfl ?_
      refine v_get (v := vI (f 4)) C inw_6 0 5 rfl (by decide) (List.mem_cons_of_mem _ mw_465) rfl rfl dX6_takeSemicolon_24 ?_
      refine v_iconst C dX6_takeSemicolon_27 ?_
      refine v_callV (na := 2) (wy := (Cond.code yX6_failAt cX6_failAt 3 none :: wsL_law)) (wc := (rdW (vG X) a b (f) (bu))) (wr := []) C [vI (f 4), vI 1] [] (c_X6_failAt _ _ a b f bu (f 4) 1 (RO_sb ho)) rfl (gwV mw_520 mw_517 mw_518 mw_519 mw_11) rfl (by decide +kernel) 0 rfl rfl rfl rfl Sb.w rfl rfl dX6_takeSemicolon_28 (fun r w1 hp28_3 => ?_)
      obtain ⟨rfl, rfl⟩ := hp28_3
      show V X 0 0 31 [(0, .ref a)] [] ((rdW (vG X) a b (flR f (f 4) 1) (bu)))
      have ro4 : RO (flR f (f 4) 1) := flR_ok ho (by omega) (by omega)
      have ro4c := ro4
      obtain ⟨⟨ro44a, ro44b, ro42b, ro41b⟩, ⟨ro43a, ro43b⟩, ro45, ⟨ro46a, ro46b⟩, ⟨ro47a, ro47b⟩, ro48, ro49, ro40a, ro40b⟩ := ro4c
      exact v_vret C E rfl dX6_takeSemicolon_31 (by decide) (by decide) (⟨rfl, by rw [show tsR f bu = _ from if_neg (fun h => c12 h.2)]⟩)
    · skip
      refine v_aload_n C dX6_takeSemicolon_15 rfl 0 rfl ?_
      refine v_callV (na := 0) (wy := (Cond.code yX6_advance cX6_advance 2 none :: wsL_law)) (wc := (rdW (vG X) a b (f) (bu))) (wr := []) C [] [] (c_X6_advance _ _ a b f bu ho.one hbu) rfl (gwV mw_464 mw_461 mw_462 mw_463 mw_11) rfl (by decide +kernel) 0 rfl rfl rfl rfl Sb.w rfl rfl dX6_takeSemicolon_16 (fun r w1 hp16_5 => ?_)
      obtain ⟨rfl, rfl⟩ := hp16_5
      show V X 0 0 19 [(0, .ref a)] [] ((rdW (vG X) a b (avR f bu) (bu)))
      have ro6 : RO (avR f bu) := avR_ok ho.one hbu
      have ro6c := ro6
      obtain ⟨⟨ro64a, ro64b, ro62b, ro61b⟩, ⟨ro63a, ro63b⟩, ro65, ⟨ro66a, ro66b⟩, ⟨ro67a, ro67b⟩, ro68, ro69, ro60a, ro60b⟩ := ro6c
      refine v_goto (tgt := 31) C dX6_takeSemicolon_19 (by decide) ?_
      exact v_vret C E rfl dX6_takeSemicolon_31 (by decide) (by decide) (⟨rfl, by rw [show tsR f bu = _ from if_pos ⟨c4, c12⟩]⟩)
set_option maxHeartbeats 4000000 in
set_option maxRecDepth 100000 in
theorem c_X6_takeWord (G : GG) (l : Launch) (a b : Nat) (f bu : Int → Int) (i : Nat) (b0 : List Int32) (ho : RO f) (hbu : sB 1000 bu) (hi : strB[i]? = some b0) : Ct G l yX6_takeWord (Cond.code yX6_takeWord cX6_takeWord 2 none :: wsL_law) 5 107 0 0 [.ref a, .ref (G.1.2 i)] ((rdW G a b (f) (bu))) (fun r w => r = none ∧ w = rdW G a b (twR f bu b0) bu) := by
  refine Ct.of (own := RX6) (cc := cX6_takeWord) (maxL := 2) (ret := none) (by decide) rfl rfl (Nat.le_of_ble_eq_true rfl) (fun X C E M hG hl => ?_)
  subst hG hl
  have ho0 := ho
  obtain ⟨⟨h4a, h4b, h2b, h1b⟩, ⟨h3a, h3b⟩, h5, ⟨h6a, h6b⟩, ⟨h7a, h7b⟩, h8, h9, h0a, h0b⟩ := ho0
  refine v_aload_n C dX6_takeWord_0 rfl 0 rfl ?_
  refine v_aload_n C dX6_takeWord_1 rfl 1 rfl ?_
  refine v_callV (na := 1) (wy := (Cond.code yX6_isWord cX6_isWord 3 (some .boolean) :: wsL_law)) (wc := (rdW (vG X) a b (f) (bu))) (wr := []) C [.ref ((vG X).1.2 i)] [] (c_X6_isWord _ _ a b f bu i b0 ho hbu hi) rfl (gwV mw_495 mw_492 mw_493 mw_494 mw_11) rfl (by decide +kernel) 0 rfl rfl rfl rfl Sb.w rfl rfl dX6_takeWord_2 (fun r w1 hp2_1 => ?_)
  obtain ⟨rfl, rfl⟩ := hp2_1
  show V X 0 0 5 [(0, .ref a), (1, .ref ((vG X).1.2 i))] [vI (bI (isWd f bu b0))] ((rdW (vG X) a b (f) (bu)))
  refine v_if_eq (tgt := 15) C dX6_takeWord_5 (by decide) sm_bI (fun c5 => ?_) (fun c5 => ?_)
  · skip
    have c5 := bI_0.mp c5
    refine v_aload_n C dX6_takeWord_15 rfl 0 rfl ?_
    refine v_aload_n C dX6_takeWord_16 rfl 0 rfl ?_
    refine v_get (v := vI (f 4)) C inw_6 0 5 rfl (by decide) (List.mem_cons_of_mem _ mw_465) rfl rfl dX6_takeWord_17 ?_
    refine v_iconst C dX6_takeWord_20 ?_
    refine v_callV (na := 2) (wy := (Cond.code yX6_failAt cX6_failAt 3 none :: wsL_law)) (wc := (rdW (vG X) a b (f) (bu))) (wr := []) C [vI (f 4), vI 1] [] (c_X6_failAt _ _ a b f bu (f 4) 1 (RO_sb ho)) rfl (gwV mw_520 mw_517 mw_518 mw_519 mw_11) rfl (by decide +kernel) 0 rfl rfl rfl rfl Sb.w rfl rfl dX6_takeWord_21 (fun r w1 hp21_2 => ?_)
    obtain ⟨rfl, rfl⟩ := hp21_2
    show V X 0 0 24 [(0, .ref a), (1, .ref ((vG X).1.2 i))] [] ((rdW (vG X) a b (flR f (f 4) 1) (bu)))
    have ro3 : RO (flR f (f 4) 1) := flR_ok ho (by omega) (by omega)
    have ro3c := ro3
    obtain ⟨⟨ro34a, ro34b, ro32b, ro31b⟩, ⟨ro33a, ro33b⟩, ro35, ⟨ro36a, ro36b⟩, ⟨ro37a, ro37b⟩, ro38, ro39, ro30a, ro30b⟩ := ro3c
    exact v_vret C E rfl dX6_takeWord_24 (by decide) (by decide) (⟨rfl, by rw [show twR f bu b0 = _ from if_neg c5]⟩)
  · skip
    have c5 := bI_n0.mp c5
    refine v_aload_n C dX6_takeWord_8 rfl 0 rfl ?_
    refine v_callV (na := 0) (wy := (Cond.code yX6_advance cX6_advance 2 none :: wsL_law)) (wc := (rdW (vG X) a b (f) (bu))) (wr := []) C [] [] (c_X6_advance _ _ a b f bu ho.one hbu) rfl (gwV mw_464 mw_461 mw_462 mw_463 mw_11) rfl (by decide +kernel) 0 rfl rfl rfl rfl Sb.w rfl rfl dX6_takeWord_9 (fun r w1 hp9_4 => ?_)
    obtain ⟨rfl, rfl⟩ := hp9_4
    show V X 0 0 12 [(0, .ref a), (1, .ref ((vG X).1.2 i))] [] ((rdW (vG X) a b (avR f bu) (bu)))
    have ro5 : RO (avR f bu) := avR_ok ho.one hbu
    have ro5c := ro5
    obtain ⟨⟨ro54a, ro54b, ro52b, ro51b⟩, ⟨ro53a, ro53b⟩, ro55, ⟨ro56a, ro56b⟩, ⟨ro57a, ro57b⟩, ro58, ro59, ro50a, ro50b⟩ := ro5c
    refine v_goto (tgt := 24) C dX6_takeWord_12 (by decide) ?_
    exact v_vret C E rfl dX6_takeWord_24 (by decide) (by decide) (⟨rfl, by rw [show twR f bu b0 = _ from if_pos c5]⟩)
set_option maxHeartbeats 4000000 in
set_option maxRecDepth 100000 in
theorem c_X6_takeNumber (G : GG) (l : Launch) (a b : Nat) (f bu : Int → Int) (p q : Int) (ho : RO f) (hbu : sB 1000 bu) (hp : 0 ≤ p ∧ p ≤ q ∧ q ≤ 1000) : Ct G l yX6_takeNumber (Cond.code yX6_takeNumber cX6_takeNumber 4 (some .int) :: wsL_law) 3 62 0 0 [.ref a, vI p, vI q] ((rdW G a b (f) (bu))) (fun r w => r = some (vI (tnV f p q)) ∧ w = rdW G a b (tnR f bu p q) bu) := by
  refine Ct.of (own := RX6) (cc := cX6_takeNumber) (maxL := 4) (ret := (some .int)) (by decide) rfl rfl (Nat.le_of_ble_eq_true rfl) (fun X C E M hG hl => ?_)
  subst hG hl
  have ho0 := ho
  obtain ⟨⟨h4a, h4b, h2b, h1b⟩, ⟨h3a, h3b⟩, h5, ⟨h6a, h6b⟩, ⟨h7a, h7b⟩, h8, h9, h0a, h0b⟩ := ho0
  refine v_aload_n C dX6_takeNumber_0 rfl 0 rfl ?_
  refine v_get (v := vI (f 7)) C inw_6 0 8 rfl (by decide) (List.mem_cons_of_mem _ mw_457) rfl rfl dX6_takeNumber_1 ?_
  refine v_if_eq (tgt := 9) C dX6_takeNumber_4 (by decide) (by  first | assumption | exact ⟨by omega, by omega⟩) (fun c4 => ?_) (fun c4 => ?_)
  · skip
    refine v_aload_n C dX6_takeNumber_9 rfl 0 rfl ?_
    refine v_get (v := vI (f 3)) C inw_6 0 4 rfl (by decide) (List.mem_cons_of_mem _ mw_460) rfl rfl dX6_takeNumber_10 ?_
    refine v_iconst C dX6_takeNumber_13 ?_
    refine v_icmp_eq (tgt := 28) C dX6_takeNumber_14 (by decide) (by  first | assumption | exact ⟨by omega, by omega⟩) (by decide) (fun c14 => ?_) (fun c14 => ?_)
    · skip
      obtain ⟨v5a, v5b⟩ := h5 c14
      refine v_aload_n C dX6_takeNumber_28 rfl 0 rfl ?_
      refine v_get (v := vI (f 5)) C inw_6 0 6 rfl (by decide) (List.mem_cons_of_mem _ mw_487) rfl rfl dX6_takeNumber_29 ?_
      refine v_iload_n C dX6_takeNumber_32 rfl 1 rfl ?_
      refine v_icmp_lt (tgt := 44) C dX6_takeNumber_33 (by decide) (by  first | assumption | exact ⟨by omega, by omega⟩) (by  first | assumption | exact ⟨by omega, by omega⟩) (fun c33 => ?_) (fun c33 => ?_)
      · skip
        refine v_aload_n C dX6_takeNumber_44 rfl 0 rfl ?_
        refine v_aload_n C dX6_takeNumber_45 rfl 0 rfl ?_
        refine v_get (v := vI (f 4)) C inw_6 0 5 rfl (by decide) (List.mem_cons_of_mem _ mw_465) rfl rfl dX6_takeNumber_46 ?_
        refine v_iconst C dX6_takeNumber_49 ?_
        refine v_callV (na := 2) (wy := (Cond.code yX6_failAt cX6_failAt 3 none :: wsL_law)) (wc := (rdW (vG X) a b (f) (bu))) (wr := []) C [vI (f 4), vI 3] [] (c_X6_failAt _ _ a b f bu (f 4) 3 (RO_sb ho)) rfl (gwV mw_520 mw_517 mw_518 mw_519 mw_11) rfl (by decide +kernel) 0 rfl rfl rfl rfl Sb.w rfl rfl dX6_takeNumber_50 (fun r w1 hp50_1 => ?_)
        obtain ⟨rfl, rfl⟩ := hp50_1
        show V X 0 0 53 [(0, .ref a), (1, vI p), (2, vI q)] [] ((rdW (vG X) a b (flR f (f 4) 3) (bu)))
        have ro2 : RO (flR f (f 4) 3) := flR_ok ho (by omega) (by omega)
        have ro2c := ro2
        obtain ⟨⟨ro24a, ro24b, ro22b, ro21b⟩, ⟨ro23a, ro23b⟩, ro25, ⟨ro26a, ro26b⟩, ⟨ro27a, ro27b⟩, ro28, ro29, ro20a, ro20b⟩ := ro2c
        refine v_iload_n C dX6_takeNumber_53 rfl 1 rfl ?_
        exact v_iret C E rfl dX6_takeNumber_54 (by decide) (by decide) (⟨by rw [show tnV f p q = _ from (if_neg (show ¬ ¬ f 7 = 0 by omega)).trans ((if_neg (show ¬ ¬ f 3 = 2 by omega)).trans (if_pos (show f 5 < p ∨ q < f 5 by omega)))], by rw [show tnR f bu p q = _ from (if_neg (show ¬ ¬ f 7 = 0 by omega)).trans ((if_neg (show ¬ ¬ f 3 = 2 by omega)).trans (if_pos (show f 5 < p ∨ q < f 5 by omega)))]⟩)
      · skip
        refine v_aload_n C dX6_takeNumber_36 rfl 0 rfl ?_
        refine v_get (v := vI (f 5)) C inw_6 0 6 rfl (by decide) (List.mem_cons_of_mem _ mw_487) rfl rfl dX6_takeNumber_37 ?_
        refine v_iload_n C dX6_takeNumber_40 rfl 2 rfl ?_
        refine v_icmp_le (tgt := 55) C dX6_takeNumber_41 (by decide) (by  first | assumption | exact ⟨by omega, by omega⟩) (by  first | assumption | exact ⟨by omega, by omega⟩) (fun c41 => ?_) (fun c41 => ?_)
        · skip
          refine v_aload_n C dX6_takeNumber_55 rfl 0 rfl ?_
          refine v_get (v := vI (f 5)) C inw_6 0 6 rfl (by decide) (List.mem_cons_of_mem _ mw_487) rfl rfl dX6_takeNumber_56 ?_
          refine v_istore_n C M dX6_takeNumber_59 rfl (by decide) (L' := [(3, vI (f 5)), (0, .ref a), (1, vI p), (2, vI q)]) rfl ?_
          refine v_aload_n C dX6_takeNumber_60 rfl 1 rfl ?_
          refine v_aload_n C dX6_takeNumber_61 rfl 1 rfl ?_
          refine v_get (v := vI (f 4)) C inw_6 0 5 rfl (by decide) (List.mem_cons_of_mem _ mw_465) rfl rfl dX6_takeNumber_62 ?_
          refine v_put C inw_6 tyX6 tyX6_ok nmX6 0 7 rfl (by decide) (List.mem_cons_of_mem _ mw_525) rfl rfl rfl rfl (Nat.le_of_ble_eq_true rfl) dX6_takeNumber_65 (ws' := (rdW (vG X) a b (up (f) 6 (f 4)) (bu))) rfl ?_
          have ho6 : RO (up (f) 6 (f 4)) := RO_up6 ho (by omega)
          refine v_aload_n C dX6_takeNumber_68 rfl 1 rfl ?_
          refine v_callV (na := 0) (wy := (Cond.code yX6_advance cX6_advance 2 none :: wsL_law)) (wc := (rdW (vG X) a b (up (f) 6 (f 4)) (bu))) (wr := []) C [] [] (c_X6_advance _ _ a b (up (f) 6 (f 4)) bu ho6.one hbu) rfl (gwV mw_464 mw_461 mw_462 mw_463 mw_11) rfl (by decide +kernel) 0 rfl rfl rfl rfl Sb.w rfl rfl dX6_takeNumber_69 (fun r w1 hp69_3 => ?_)
          obtain ⟨rfl, rfl⟩ := hp69_3
          show V X 0 0 72 [(3, vI (f 5)), (0, .ref a), (1, vI p), (2, vI q)] [] ((rdW (vG X) a b (avR (up (f) 6 (f 4)) bu) (bu)))
          have ro4 : RO (avR (up (f) 6 (f 4)) bu) := avR_ok ho6.one hbu
          have ro4c := ro4
          obtain ⟨⟨ro44a, ro44b, ro42b, ro41b⟩, ⟨ro43a, ro43b⟩, ro45, ⟨ro46a, ro46b⟩, ⟨ro47a, ro47b⟩, ro48, ro49, ro40a, ro40b⟩ := ro4c
          refine v_iload_n C dX6_takeNumber_72 rfl 0 rfl ?_
          exact v_iret C E rfl dX6_takeNumber_73 (by decide) (by decide) (⟨by rw [show tnV f p q = _ from (if_neg (show ¬ ¬ f 7 = 0 by omega)).trans ((if_neg (show ¬ ¬ f 3 = 2 by omega)).trans (if_neg (show ¬ (f 5 < p ∨ q < f 5) by omega)))], by rw [show tnR f bu p q = _ from (if_neg (show ¬ ¬ f 7 = 0 by omega)).trans ((if_neg (show ¬ ¬ f 3 = 2 by omega)).trans (if_neg (show ¬ (f 5 < p ∨ q < f 5) by omega)))]⟩)
        · skip
          refine v_aload_n C dX6_takeNumber_44 rfl 0 rfl ?_
          refine v_aload_n C dX6_takeNumber_45 rfl 0 rfl ?_
          refine v_get (v := vI (f 4)) C inw_6 0 5 rfl (by decide) (List.mem_cons_of_mem _ mw_465) rfl rfl dX6_takeNumber_46 ?_
          refine v_iconst C dX6_takeNumber_49 ?_
          refine v_callV (na := 2) (wy := (Cond.code yX6_failAt cX6_failAt 3 none :: wsL_law)) (wc := (rdW (vG X) a b (f) (bu))) (wr := []) C [vI (f 4), vI 3] [] (c_X6_failAt _ _ a b f bu (f 4) 3 (RO_sb ho)) rfl (gwV mw_520 mw_517 mw_518 mw_519 mw_11) rfl (by decide +kernel) 0 rfl rfl rfl rfl Sb.w rfl rfl dX6_takeNumber_50 (fun r w1 hp50_5 => ?_)
          obtain ⟨rfl, rfl⟩ := hp50_5
          show V X 0 0 53 [(0, .ref a), (1, vI p), (2, vI q)] [] ((rdW (vG X) a b (flR f (f 4) 3) (bu)))
          have ro6 : RO (flR f (f 4) 3) := flR_ok ho (by omega) (by omega)
          have ro6c := ro6
          obtain ⟨⟨ro64a, ro64b, ro62b, ro61b⟩, ⟨ro63a, ro63b⟩, ro65, ⟨ro66a, ro66b⟩, ⟨ro67a, ro67b⟩, ro68, ro69, ro60a, ro60b⟩ := ro6c
          refine v_iload_n C dX6_takeNumber_53 rfl 1 rfl ?_
          exact v_iret C E rfl dX6_takeNumber_54 (by decide) (by decide) (⟨by rw [show tnV f p q = _ from (if_neg (show ¬ ¬ f 7 = 0 by omega)).trans ((if_neg (show ¬ ¬ f 3 = 2 by omega)).trans (if_pos (show f 5 < p ∨ q < f 5 by omega)))], by rw [show tnR f bu p q = _ from (if_neg (show ¬ ¬ f 7 = 0 by omega)).trans ((if_neg (show ¬ ¬ f 3 = 2 by omega)).trans (if_pos (show f 5 < p ∨ q < f 5 by omega)))]⟩)
    · skip
      refine v_aload_n C dX6_takeNumber_17 rfl 0 rfl ?_
      refine v_aload_n C dX6_takeNumber_18 rfl 0 rfl ?_
      refine v_get (v := vI (f 4)) C inw_6 0 5 rfl (by decide) (List.mem_cons_of_mem _ mw_465) rfl rfl dX6_takeNumber_19 ?_
      refine v_iconst C dX6_takeNumber_22 ?_
      refine v_callV (na := 2) (wy := (Cond.code yX6_failAt cX6_failAt 3 none :: wsL_law)) (wc := (rdW (vG X) a b (f) (bu))) (wr := []) C [vI (f 4), vI 1] [] (c_X6_failAt _ _ a b f bu (f 4) 1 (RO_sb ho)) rfl (gwV mw_520 mw_517 mw_518 mw_519 mw_11) rfl (by decide +kernel) 0 rfl rfl rfl rfl Sb.w rfl rfl dX6_takeNumber_23 (fun r w1 hp23_7 => ?_)
      obtain ⟨rfl, rfl⟩ := hp23_7
      show V X 0 0 26 [(0, .ref a), (1, vI p), (2, vI q)] [] ((rdW (vG X) a b (flR f (f 4) 1) (bu)))
      have ro8 : RO (flR f (f 4) 1) := flR_ok ho (by omega) (by omega)
      have ro8c := ro8
      obtain ⟨⟨ro84a, ro84b, ro82b, ro81b⟩, ⟨ro83a, ro83b⟩, ro85, ⟨ro86a, ro86b⟩, ⟨ro87a, ro87b⟩, ro88, ro89, ro80a, ro80b⟩ := ro8c
      refine v_iload_n C dX6_takeNumber_26 rfl 1 rfl ?_
      exact v_iret C E rfl dX6_takeNumber_27 (by decide) (by decide) (⟨by rw [show tnV f p q = _ from (if_neg (show ¬ ¬ f 7 = 0 by omega)).trans (if_pos (show ¬ f 3 = 2 by omega))], by rw [show tnR f bu p q = _ from (if_neg (show ¬ ¬ f 7 = 0 by omega)).trans (if_pos (show ¬ f 3 = 2 by omega))]⟩)
  · skip
    refine v_iload_n C dX6_takeNumber_7 rfl 1 rfl ?_
    exact v_iret C E rfl dX6_takeNumber_8 (by decide) (by decide) (⟨by rw [show tnV f p q = _ from if_pos (show ¬ f 7 = 0 by omega)], by rw [show tnR f bu p q = _ from if_pos (show ¬ f 7 = 0 by omega)]⟩)
end C19
