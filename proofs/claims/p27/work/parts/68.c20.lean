section C20
set_option maxHeartbeats 4000000 in
set_option maxRecDepth 100000 in
theorem c_X6_readWindow (G : GG) (l : Launch) (a b : Nat) (f bu : Int → Int) (ad : Nat → Nat) (F : Int → Int → Int) (K : Int → Int → Int64) (ho : RO f) (hbu : sB 1000 bu)  : Ct G l yX6_readWindow (Cond.code yX6_readWindow cX6_readWindow 3 none :: wsL_law) 4 85 0 0 [.ref a, .ref (ad 0)] ((rdW G a b (f) (bu)) ++ (liW G ad F K)) (fun r w => r = none ∧ w = rdW G a b (rwR f bu) bu ++ liW G ad (rwF f bu F) K) := by
  refine Ct.of (own := RX6) (cc := cX6_readWindow) (maxL := 3) (ret := none) (by decide) rfl rfl (Nat.le_of_ble_eq_true rfl) (fun X C E M hG hl => ?_)
  subst hG hl
  have ho0 := ho
  obtain ⟨⟨h4a, h4b, h2b, h1b⟩, ⟨h3a, h3b⟩, h5, ⟨h6a, h6b⟩, ⟨h7a, h7b⟩, h8, h9, h0a, h0b⟩ := ho0
  refine v_aload_n C dX6_readWindow_0 rfl 0 rfl ?_
  refine v_iconst C dX6_readWindow_1 ?_
  refine v_iconst C dX6_readWindow_2 ?_
  refine v_callV (na := 2) (wy := (Cond.code yX6_takeNumber cX6_takeNumber 4 (some .int) :: wsL_law)) (wc := (rdW (vG X) a b (f) (bu))) (wr := (liW (vG X) ad F K)) C [vI 0, vI 1] [] (c_X6_takeNumber _ _ a b f bu 0 1 ho hbu (by decide)) rfl (gwV mw_524 mw_521 mw_522 mw_523 mw_11) rfl (by decide +kernel) 0 rfl rfl rfl rfl Sb.rf rfl rfl dX6_readWindow_3 (fun r w1 hp3_1 => ?_)
  obtain ⟨rfl, rfl⟩ := hp3_1
  show V X 0 0 6 [(0, .ref a), (1, .ref (ad 0))] [vI (tnV f 0 1)] ((rdW (vG X) a b (tnR f bu 0 1) (bu)) ++ (liW (vG X) ad F K))
  show V X 0 0 6 [(0, .ref a), (1, .ref (ad 0))] [vI (tnV f 0 1)] ((rdW (vG X) a b (tnR f bu 0 1) (bu)) ++ (liW (vG X) ad F K))
  have ro2 : RO (tnR f bu 0 1) := tnR_ok ho hbu (by decide)
  have ro2c := ro2
  obtain ⟨⟨ro24a, ro24b, ro22b, ro21b⟩, ⟨ro23a, ro23b⟩, ro25, ⟨ro26a, ro26b⟩, ⟨ro27a, ro27b⟩, ro28, ro29, ro20a, ro20b⟩ := ro2c
  obtain ⟨va3, vb3⟩ := tnV_in (f := f) (p := 0) (q := 1) ho (by decide)
  refine v_istore_n C M dX6_readWindow_6 rfl (by decide) (L' := [(2, vI (tnV f 0 1)), (0, .ref a), (1, .ref (ad 0))]) rfl ?_
  have hs01 : tnV f 0 1 = 0 ∨ tnV f 0 1 = 1 := by omega
  rcases hs01 with es | es
  · skip
    rw [es]
    show V X 0 0 7 [(2, vI 0), (0, .ref a), (1, .ref (ad 0))] [] ((rdW (vG X) a b (tnR f bu 0 1) (bu)) ++ (liW (vG X) ad F K))
    refine v_iload_n C dX6_readWindow_7 rfl 0 rfl ?_
    refine v_if_ne (tgt := 21) C dX6_readWindow_8 (by decide) (by decide) (fun c => absurd (by decide) c) (fun _ => ?_)
    refine v_aload_n C dX6_readWindow_11 rfl 1 rfl ?_
    refine v_get (v := vI ((tnR f bu 0 1) 8)) C inw_6 0 9 rfl (by decide) (List.mem_cons_of_mem _ mw_458) rfl rfl dX6_readWindow_12 ?_
    suffices mrg : V X 0 0 37 [(2, vI 0), (0, .ref a), (1, .ref (ad 0))] [] ((rdW (vG X) a b (rw2 f bu) (bu)) ++ (liW (vG X) ad F K)) by
      refine v_if_eq (tgt := 37) C dX6_readWindow_15 (by decide) (by  first | assumption | exact ⟨by omega, by omega⟩) (fun c15 => ?_) (fun c15 => ?_)
      · skip
        have e2 : rw2 f bu = tnR f bu 0 1 := if_pos (show (if tnV f 0 1 = 0 then tnR f bu 0 1 8 else tnR f bu 0 1 9) = 0 by rw [if_pos es]; exact c15)
        rw [e2] at mrg
        exact mrg
      · skip
        refine v_goto (tgt := 28) C dX6_readWindow_18 (by decide) ?_
        refine v_aload_n C dX6_readWindow_28 rfl 1 rfl ?_
        refine v_aload_n C dX6_readWindow_29 rfl 1 rfl ?_
        refine v_get (v := vI ((tnR f bu 0 1) 6)) C inw_6 0 7 rfl (by decide) (List.mem_cons_of_mem _ mw_525) rfl rfl dX6_readWindow_30 ?_
        refine v_iconst C dX6_readWindow_33 ?_
        refine v_callV (na := 2) (wy := (Cond.code yX6_failAt cX6_failAt 3 none :: wsL_law)) (wc := (rdW (vG X) a b (tnR f bu 0 1) (bu))) (wr := (liW (vG X) ad F K)) C [vI ((tnR f bu 0 1) 6), vI 2] [] (c_X6_failAt _ _ a b (tnR f bu 0 1) bu ((tnR f bu 0 1) 6) 2 (RO_sb ro2)) rfl (gwV mw_520 mw_517 mw_518 mw_519 mw_11) rfl (by decide +kernel) 0 rfl rfl rfl rfl Sb.rf rfl rfl dX6_readWindow_34 (fun r w1 hp34_4 => ?_)
        obtain ⟨rfl, rfl⟩ := hp34_4
        show V X 0 0 37 [(2, vI 0), (0, .ref a), (1, .ref (ad 0))] [] ((rdW (vG X) a b (flR (tnR f bu 0 1) ((tnR f bu 0 1) 6) 2) (bu)) ++ (liW (vG X) ad F K))
        show V X 0 0 37 [(2, vI 0), (0, .ref a), (1, .ref (ad 0))] [] ((rdW (vG X) a b (flR (tnR f bu 0 1) ((tnR f bu 0 1) 6) 2) (bu)) ++ (liW (vG X) ad F K))
        have ro5 : RO (flR (tnR f bu 0 1) ((tnR f bu 0 1) 6) 2) := flR_ok ro2 (by omega) (by omega)
        have ro5c := ro5
        obtain ⟨⟨ro54a, ro54b, ro52b, ro51b⟩, ⟨ro53a, ro53b⟩, ro55, ⟨ro56a, ro56b⟩, ⟨ro57a, ro57b⟩, ro58, ro59, ro50a, ro50b⟩ := ro5c
        have e2 : rw2 f bu = flR (tnR f bu 0 1) (tnR f bu 0 1 6) 2 := if_neg (show ¬ (if tnV f 0 1 = 0 then tnR f bu 0 1 8 else tnR f bu 0 1 9) = 0 by rw [if_pos es]; exact c15)
        rw [e2] at mrg
        exact mrg
    have ro6 : RO (rw2 f bu) := rw2_ok ho hbu
    have ro6c := ro6
    obtain ⟨⟨ro64a, ro64b, ro62b, ro61b⟩, ⟨ro63a, ro63b⟩, ro65, ⟨ro66a, ro66b⟩, ⟨ro67a, ro67b⟩, ro68, ro69, ro60a, ro60b⟩ := ro6c
    refine v_iload_n C dX6_readWindow_37 rfl 0 rfl ?_
    refine v_if_ne (tgt := 49) C dX6_readWindow_38 (by decide) (by decide) (fun c => absurd (by decide) c) (fun _ => ?_)
    refine v_aload_n C dX6_readWindow_41 rfl 1 rfl ?_
    refine v_iconst C dX6_readWindow_42 ?_
    refine v_put C inw_6 tyX6 tyX6_ok nmX6 0 9 rfl (by decide) (List.mem_cons_of_mem _ mw_458) rfl rfl rfl rfl (Nat.le_of_ble_eq_true rfl) dX6_readWindow_43 (ws' := (rdW (vG X) a b (up (rw2 f bu) 8 1) (bu)) ++ (liW (vG X) ad F K)) rfl ?_
    refine v_goto (tgt := 54) C dX6_readWindow_46 (by decide) ?_
    have er7 : (rw3 f bu) = (up (rw2 f bu) 8 1) := if_pos es
    rw [← er7]
    show V X 0 0 54 [(2, vI 0), (0, .ref a), (1, .ref (ad 0))] [] ((rdW (vG X) a b (rw3 f bu) (bu)) ++ (liW (vG X) ad F K))
    have ro8 : RO (rw3 f bu) := rw3_ok ho hbu
    have ro8c := ro8
    obtain ⟨⟨ro84a, ro84b, ro82b, ro81b⟩, ⟨ro83a, ro83b⟩, ro85, ⟨ro86a, ro86b⟩, ⟨ro87a, ro87b⟩, ro88, ro89, ro80a, ro80b⟩ := ro8c
    refine v_aload_n C dX6_readWindow_54 rfl 2 rfl ?_
    refine v_iload_n C dX6_readWindow_55 rfl 0 rfl ?_
    refine v_callV (na := 1) (wy := (Cond.code yX3_side cX3_side 2 (some (.object "TurnLine$Station")) :: wsL_law)) (wc := (liW (vG X) ad F K)) (wr := (rdW (vG X) a b (rw3 f bu) (bu))) C [vI 0] [] (c_X3_side _ _ ad F K 0 ⟨by omega, by omega⟩) rfl (gwV mw_122 mw_538 mw_120 mw_121 mw_15) rfl (by decide +kernel) 0 rfl rfl rfl rfl (Sb.pl [2, 3, 4, 5, 6, 7, 8, 9, 10, 0, 1] rfl rfl) rfl rfl dX6_readWindow_56 (fun r w1 hp56_9 => ?_)
    obtain ⟨rfl, rfl⟩ := hp56_9
    refine V.sb (ws' := (rdW (vG X) a b (rw3 f bu) (bu)) ++ (liW (vG X) ad F K)) (Sb.pl [9, 10, 0, 1, 2, 3, 4, 5, 6, 7, 8] rfl rfl) ?_
    show V X 0 0 59 [(2, vI 0), (0, .ref a), (1, .ref (ad 0))] [.ref (if 0 = 0 then (ad 1) else (ad 4))] ((rdW (vG X) a b (rw3 f bu) (bu)) ++ (liW (vG X) ad F K))
    show V X 0 0 59 [(2, vI 0), (0, .ref a), (1, .ref (ad 0))] [.ref (if 0 = 0 then (ad 1) else (ad 4))] ((rdW (vG X) a b (rw3 f bu) (bu)) ++ (liW (vG X) ad F K))
    rw [if_pos (show (0 : Int) = 0 by omega)]
    refine v_aload_n C dX6_readWindow_59 rfl 1 rfl ?_
    refine v_iconst C dX6_readWindow_60 ?_
    refine v_bipush C dX6_readWindow_61 (by decide +kernel) ?_
    refine v_callV (na := 2) (wy := (Cond.code yX6_takeNumber cX6_takeNumber 4 (some .int) :: wsL_law)) (wc := (rdW (vG X) a b (rw3 f bu) (bu))) (wr := (liW (vG X) ad F K)) C [vI 1, vI 9] [.ref (ad 1)] (c_X6_takeNumber _ _ a b (rw3 f bu) bu 1 9 ro8 hbu (by decide)) rfl (gwV mw_524 mw_521 mw_522 mw_523 mw_11) rfl (by decide +kernel) 0 rfl rfl rfl rfl Sb.rf rfl rfl dX6_readWindow_63 (fun r w1 hp63_10 => ?_)
    obtain ⟨rfl, rfl⟩ := hp63_10
    show V X 0 0 66 [(2, vI 0), (0, .ref a), (1, .ref (ad 0))] [vI (tnV (rw3 f bu) 1 9), .ref (ad 1)] ((rdW (vG X) a b (tnR (rw3 f bu) bu 1 9) (bu)) ++ (liW (vG X) ad F K))
    show V X 0 0 66 [(2, vI 0), (0, .ref a), (1, .ref (ad 0))] [vI (tnV (rw3 f bu) 1 9), .ref (ad 1)] ((rdW (vG X) a b (tnR (rw3 f bu) bu 1 9) (bu)) ++ (liW (vG X) ad F K))
    have ro11 : RO (tnR (rw3 f bu) bu 1 9) := tnR_ok ro8 hbu (by decide)
    have ro11c := ro11
    obtain ⟨⟨ro114a, ro114b, ro112b, ro111b⟩, ⟨ro113a, ro113b⟩, ro115, ⟨ro116a, ro116b⟩, ⟨ro117a, ro117b⟩, ro118, ro119, ro110a, ro110b⟩ := ro11c
    obtain ⟨va12, vb12⟩ := tnV_in (f := (rw3 f bu)) (p := 1) (q := 9) ro8 (by decide)
    refine v_putN C inw_5 tyX5 tyX5_ok nmX5 3 5 rfl (by decide) nw_7 rfl rfl rfl rfl (Nat.le_of_ble_eq_true rfl) dX6_readWindow_66 (ws' := (rdW (vG X) a b (tnR (rw3 f bu) bu 1 9) (bu)) ++ (liW (vG X) ad (up F 1 (up (F 1) 3 (tnV (rw3 f bu) 1 9))) K)) rfl ?_
    exact v_vret C E rfl dX6_readWindow_69 (by decide) (by decide) (⟨rfl, by rw [show rwF f bu F = _ from if_pos es]; rfl⟩)
  · skip
    rw [es]
    show V X 0 0 7 [(2, vI 1), (0, .ref a), (1, .ref (ad 0))] [] ((rdW (vG X) a b (tnR f bu 0 1) (bu)) ++ (liW (vG X) ad F K))
    refine v_iload_n C dX6_readWindow_7 rfl 0 rfl ?_
    refine v_if_ne (tgt := 21) C dX6_readWindow_8 (by decide) (by decide) (fun _ => ?_) (fun c => absurd c (by decide))
    refine v_aload_n C dX6_readWindow_21 rfl 1 rfl ?_
    refine v_get (v := vI ((tnR f bu 0 1) 9)) C inw_6 0 10 rfl (by decide) (List.mem_cons_of_mem _ mw_459) rfl rfl dX6_readWindow_22 ?_
    suffices mrg : V X 0 0 37 [(2, vI 1), (0, .ref a), (1, .ref (ad 0))] [] ((rdW (vG X) a b (rw2 f bu) (bu)) ++ (liW (vG X) ad F K)) by
      refine v_if_eq (tgt := 37) C dX6_readWindow_25 (by decide) (by  first | assumption | exact ⟨by omega, by omega⟩) (fun c25 => ?_) (fun c25 => ?_)
      · skip
        have e2 : rw2 f bu = tnR f bu 0 1 := if_pos (show (if tnV f 0 1 = 0 then tnR f bu 0 1 8 else tnR f bu 0 1 9) = 0 by rw [if_neg (show ¬ tnV f 0 1 = 0 by omega)]; exact c25)
        rw [e2] at mrg
        exact mrg
      · skip
        refine v_aload_n C dX6_readWindow_28 rfl 1 rfl ?_
        refine v_aload_n C dX6_readWindow_29 rfl 1 rfl ?_
        refine v_get (v := vI ((tnR f bu 0 1) 6)) C inw_6 0 7 rfl (by decide) (List.mem_cons_of_mem _ mw_525) rfl rfl dX6_readWindow_30 ?_
        refine v_iconst C dX6_readWindow_33 ?_
        refine v_callV (na := 2) (wy := (Cond.code yX6_failAt cX6_failAt 3 none :: wsL_law)) (wc := (rdW (vG X) a b (tnR f bu 0 1) (bu))) (wr := (liW (vG X) ad F K)) C [vI ((tnR f bu 0 1) 6), vI 2] [] (c_X6_failAt _ _ a b (tnR f bu 0 1) bu ((tnR f bu 0 1) 6) 2 (RO_sb ro2)) rfl (gwV mw_520 mw_517 mw_518 mw_519 mw_11) rfl (by decide +kernel) 0 rfl rfl rfl rfl Sb.rf rfl rfl dX6_readWindow_34 (fun r w1 hp34_13 => ?_)
        obtain ⟨rfl, rfl⟩ := hp34_13
        show V X 0 0 37 [(2, vI 1), (0, .ref a), (1, .ref (ad 0))] [] ((rdW (vG X) a b (flR (tnR f bu 0 1) ((tnR f bu 0 1) 6) 2) (bu)) ++ (liW (vG X) ad F K))
        show V X 0 0 37 [(2, vI 1), (0, .ref a), (1, .ref (ad 0))] [] ((rdW (vG X) a b (flR (tnR f bu 0 1) ((tnR f bu 0 1) 6) 2) (bu)) ++ (liW (vG X) ad F K))
        have ro14 : RO (flR (tnR f bu 0 1) ((tnR f bu 0 1) 6) 2) := flR_ok ro2 (by omega) (by omega)
        have ro14c := ro14
        obtain ⟨⟨ro144a, ro144b, ro142b, ro141b⟩, ⟨ro143a, ro143b⟩, ro145, ⟨ro146a, ro146b⟩, ⟨ro147a, ro147b⟩, ro148, ro149, ro140a, ro140b⟩ := ro14c
        have e2 : rw2 f bu = flR (tnR f bu 0 1) (tnR f bu 0 1 6) 2 := if_neg (show ¬ (if tnV f 0 1 = 0 then tnR f bu 0 1 8 else tnR f bu 0 1 9) = 0 by rw [if_neg (show ¬ tnV f 0 1 = 0 by omega)]; exact c25)
        rw [e2] at mrg
        exact mrg
    have ro15 : RO (rw2 f bu) := rw2_ok ho hbu
    have ro15c := ro15
    obtain ⟨⟨ro154a, ro154b, ro152b, ro151b⟩, ⟨ro153a, ro153b⟩, ro155, ⟨ro156a, ro156b⟩, ⟨ro157a, ro157b⟩, ro158, ro159, ro150a, ro150b⟩ := ro15c
    refine v_iload_n C dX6_readWindow_37 rfl 0 rfl ?_
    refine v_if_ne (tgt := 49) C dX6_readWindow_38 (by decide) (by decide) (fun _ => ?_) (fun c => absurd c (by decide))
    refine v_aload_n C dX6_readWindow_49 rfl 1 rfl ?_
    refine v_iconst C dX6_readWindow_50 ?_
    refine v_put C inw_6 tyX6 tyX6_ok nmX6 0 10 rfl (by decide) (List.mem_cons_of_mem _ mw_459) rfl rfl rfl rfl (Nat.le_of_ble_eq_true rfl) dX6_readWindow_51 (ws' := (rdW (vG X) a b (up (rw2 f bu) 9 1) (bu)) ++ (liW (vG X) ad F K)) rfl ?_
    have er16 : (rw3 f bu) = (up (rw2 f bu) 9 1) := if_neg (show ¬ tnV f 0 1 = 0 by omega)
    rw [← er16]
    show V X 0 0 54 [(2, vI 1), (0, .ref a), (1, .ref (ad 0))] [] ((rdW (vG X) a b (rw3 f bu) (bu)) ++ (liW (vG X) ad F K))
    have ro17 : RO (rw3 f bu) := rw3_ok ho hbu
    have ro17c := ro17
    obtain ⟨⟨ro174a, ro174b, ro172b, ro171b⟩, ⟨ro173a, ro173b⟩, ro175, ⟨ro176a, ro176b⟩, ⟨ro177a, ro177b⟩, ro178, ro179, ro170a, ro170b⟩ := ro17c
    refine v_aload_n C dX6_readWindow_54 rfl 2 rfl ?_
    refine v_iload_n C dX6_readWindow_55 rfl 0 rfl ?_
    refine v_callV (na := 1) (wy := (Cond.code yX3_side cX3_side 2 (some (.object "TurnLine$Station")) :: wsL_law)) (wc := (liW (vG X) ad F K)) (wr := (rdW (vG X) a b (rw3 f bu) (bu))) C [vI 1] [] (c_X3_side _ _ ad F K 1 ⟨by omega, by omega⟩) rfl (gwV mw_122 mw_538 mw_120 mw_121 mw_15) rfl (by decide +kernel) 0 rfl rfl rfl rfl (Sb.pl [2, 3, 4, 5, 6, 7, 8, 9, 10, 0, 1] rfl rfl) rfl rfl dX6_readWindow_56 (fun r w1 hp56_18 => ?_)
    obtain ⟨rfl, rfl⟩ := hp56_18
    refine V.sb (ws' := (rdW (vG X) a b (rw3 f bu) (bu)) ++ (liW (vG X) ad F K)) (Sb.pl [9, 10, 0, 1, 2, 3, 4, 5, 6, 7, 8] rfl rfl) ?_
    show V X 0 0 59 [(2, vI 1), (0, .ref a), (1, .ref (ad 0))] [.ref (if 1 = 0 then (ad 1) else (ad 4))] ((rdW (vG X) a b (rw3 f bu) (bu)) ++ (liW (vG X) ad F K))
    show V X 0 0 59 [(2, vI 1), (0, .ref a), (1, .ref (ad 0))] [.ref (if 1 = 0 then (ad 1) else (ad 4))] ((rdW (vG X) a b (rw3 f bu) (bu)) ++ (liW (vG X) ad F K))
    rw [if_neg (show ¬ (1 : Int) = 0 by omega)]
    refine v_aload_n C dX6_readWindow_59 rfl 1 rfl ?_
    refine v_iconst C dX6_readWindow_60 ?_
    refine v_bipush C dX6_readWindow_61 (by decide +kernel) ?_
    refine v_callV (na := 2) (wy := (Cond.code yX6_takeNumber cX6_takeNumber 4 (some .int) :: wsL_law)) (wc := (rdW (vG X) a b (rw3 f bu) (bu))) (wr := (liW (vG X) ad F K)) C [vI 1, vI 9] [.ref (ad 4)] (c_X6_takeNumber _ _ a b (rw3 f bu) bu 1 9 ro17 hbu (by decide)) rfl (gwV mw_524 mw_521 mw_522 mw_523 mw_11) rfl (by decide +kernel) 0 rfl rfl rfl rfl Sb.rf rfl rfl dX6_readWindow_63 (fun r w1 hp63_19 => ?_)
    obtain ⟨rfl, rfl⟩ := hp63_19
    show V X 0 0 66 [(2, vI 1), (0, .ref a), (1, .ref (ad 0))] [vI (tnV (rw3 f bu) 1 9), .ref (ad 4)] ((rdW (vG X) a b (tnR (rw3 f bu) bu 1 9) (bu)) ++ (liW (vG X) ad F K))
    show V X 0 0 66 [(2, vI 1), (0, .ref a), (1, .ref (ad 0))] [vI (tnV (rw3 f bu) 1 9), .ref (ad 4)] ((rdW (vG X) a b (tnR (rw3 f bu) bu 1 9) (bu)) ++ (liW (vG X) ad F K))
    have ro20 : RO (tnR (rw3 f bu) bu 1 9) := tnR_ok ro17 hbu (by decide)
    have ro20c := ro20
    obtain ⟨⟨ro204a, ro204b, ro202b, ro201b⟩, ⟨ro203a, ro203b⟩, ro205, ⟨ro206a, ro206b⟩, ⟨ro207a, ro207b⟩, ro208, ro209, ro200a, ro200b⟩ := ro20c
    obtain ⟨va21, vb21⟩ := tnV_in (f := (rw3 f bu)) (p := 1) (q := 9) ro17 (by decide)
    refine v_putN C inw_5 tyX5 tyX5_ok nmX5 6 5 rfl (by decide) nw_7 rfl rfl rfl rfl (Nat.le_of_ble_eq_true rfl) dX6_readWindow_66 (ws' := (rdW (vG X) a b (tnR (rw3 f bu) bu 1 9) (bu)) ++ (liW (vG X) ad (up F 2 (up (F 2) 3 (tnV (rw3 f bu) 1 9))) K)) rfl ?_
    exact v_vret C E rfl dX6_readWindow_69 (by decide) (by decide) (⟨rfl, by rw [show rwF f bu F = _ from if_neg (show ¬ tnV f 0 1 = 0 by omega)]; rfl⟩)
set_option maxHeartbeats 4000000 in
set_option maxRecDepth 100000 in
theorem c_X6_readLose (G : GG) (l : Launch) (a b : Nat) (f bu : Int → Int) (ad : Nat → Nat) (F : Int → Int → Int) (K : Int → Int → Int64) (ho : RO f) (hbu : sB 1000 bu)  : Ct G l yX6_readLose (Cond.code yX6_readLose cX6_readLose 3 none :: wsL_law) 4 85 0 0 [.ref a, .ref (ad 0)] ((rdW G a b (f) (bu)) ++ (liW G ad F K)) (fun r w => r = none ∧ w = rdW G a b (rlR f bu K) bu ++ liW G ad (tLF K (tnV f 0 499) F) (tLK (tnV f 0 499) K)) := by
  refine Ct.of (own := RX6) (cc := cX6_readLose) (maxL := 3) (ret := none) (by decide) rfl rfl (Nat.le_of_ble_eq_true rfl) (fun X C E M hG hl => ?_)
  subst hG hl
  have ho0 := ho
  obtain ⟨⟨h4a, h4b, h2b, h1b⟩, ⟨h3a, h3b⟩, h5, ⟨h6a, h6b⟩, ⟨h7a, h7b⟩, h8, h9, h0a, h0b⟩ := ho0
  refine v_aload_n C dX6_readLose_0 rfl 0 rfl ?_
  refine v_iconst C dX6_readLose_1 ?_
  refine v_sipush C dX6_readLose_2 (by decide +kernel) ?_
  refine v_callV (na := 2) (wy := (Cond.code yX6_takeNumber cX6_takeNumber 4 (some .int) :: wsL_law)) (wc := (rdW (vG X) a b (f) (bu))) (wr := (liW (vG X) ad F K)) C [vI 0, vI 499] [] (c_X6_takeNumber _ _ a b f bu 0 499 ho hbu (by decide)) rfl (gwV mw_524 mw_521 mw_522 mw_523 mw_11) rfl (by decide +kernel) 0 rfl rfl rfl rfl Sb.rf rfl rfl dX6_readLose_5 (fun r w1 hp5_1 => ?_)
  obtain ⟨rfl, rfl⟩ := hp5_1
  show V X 0 0 8 [(0, .ref a), (1, .ref (ad 0))] [vI (tnV f 0 499)] ((rdW (vG X) a b (tnR f bu 0 499) (bu)) ++ (liW (vG X) ad F K))
  show V X 0 0 8 [(0, .ref a), (1, .ref (ad 0))] [vI (tnV f 0 499)] ((rdW (vG X) a b (tnR f bu 0 499) (bu)) ++ (liW (vG X) ad F K))
  have ro2 : RO (tnR f bu 0 499) := tnR_ok ho hbu (by decide)
  have ro2c := ro2
  obtain ⟨⟨ro24a, ro24b, ro22b, ro21b⟩, ⟨ro23a, ro23b⟩, ro25, ⟨ro26a, ro26b⟩, ⟨ro27a, ro27b⟩, ro28, ro29, ro20a, ro20b⟩ := ro2c
  obtain ⟨va3, vb3⟩ := tnV_in (f := f) (p := 0) (q := 499) ho (by decide)
  refine v_istore_n C M dX6_readLose_8 rfl (by decide) (L' := [(2, vI (tnV f 0 499)), (0, .ref a), (1, .ref (ad 0))]) rfl ?_
  refine v_aload_n C dX6_readLose_9 rfl 2 rfl ?_
  refine v_iload_n C dX6_readLose_10 rfl 0 rfl ?_
  refine v_callV (na := 1) (wy := (Cond.code yX3_tells cX3_tells 2 (some .boolean) :: wsL_law)) (wc := (liW (vG X) ad F K)) (wr := (rdW (vG X) a b (tnR f bu 0 499) (bu))) C [vI (tnV f 0 499)] [] (c_X3_tells _ _ ad F K (tnV f 0 499) ⟨by omega, by omega⟩) rfl (gwV mw_166 mw_551 mw_164 mw_165 mw_15) rfl (by decide +kernel) 0 rfl rfl rfl rfl (Sb.pl [2, 3, 4, 5, 6, 7, 8, 9, 10, 0, 1] rfl rfl) rfl rfl dX6_readLose_11 (fun r w1 hp11_4 => ?_)
  obtain ⟨rfl, rfl⟩ := hp11_4
  refine V.sb (ws' := (rdW (vG X) a b (tnR f bu 0 499) (bu)) ++ (liW (vG X) ad F K)) (Sb.pl [9, 10, 0, 1, 2, 3, 4, 5, 6, 7, 8] rfl rfl) ?_
  show V X 0 0 14 [(2, vI (tnV f 0 499)), (0, .ref a), (1, .ref (ad 0))] [vI (bI (tlL (K 2) (tnV f 0 499)))] ((rdW (vG X) a b (tnR f bu 0 499) (bu)) ++ (liW (vG X) ad F K))
  show V X 0 0 14 [(2, vI (tnV f 0 499)), (0, .ref a), (1, .ref (ad 0))] [vI (bI (tlL (K 2) (tnV f 0 499)))] ((rdW (vG X) a b (tnR f bu 0 499) (bu)) ++ (liW (vG X) ad F K))
  suffices mrg : V X 0 0 26 [(2, vI (tnV f 0 499)), (0, .ref a), (1, .ref (ad 0))] [] ((rdW (vG X) a b (rlR f bu K) (bu)) ++ (liW (vG X) ad F K)) by
    refine v_if_eq (tgt := 26) C dX6_readLose_14 (by decide) sm_bI (fun c14 => ?_) (fun c14 => ?_)
    · skip
      have c14 := bI_0.mp c14
      have e2 : rlR f bu K = tnR f bu 0 499 := if_neg c14
      rw [e2] at mrg
      exact mrg
    · skip
      have c14 := bI_n0.mp c14
      refine v_aload_n C dX6_readLose_17 rfl 1 rfl ?_
      refine v_aload_n C dX6_readLose_18 rfl 1 rfl ?_
      refine v_get (v := vI ((tnR f bu 0 499) 6)) C inw_6 0 7 rfl (by decide) (List.mem_cons_of_mem _ mw_525) rfl rfl dX6_readLose_19 ?_
      refine v_iconst C dX6_readLose_22 ?_
      refine v_callV (na := 2) (wy := (Cond.code yX6_failAt cX6_failAt 3 none :: wsL_law)) (wc := (rdW (vG X) a b (tnR f bu 0 499) (bu))) (wr := (liW (vG X) ad F K)) C [vI ((tnR f bu 0 499) 6), vI 2] [] (c_X6_failAt _ _ a b (tnR f bu 0 499) bu ((tnR f bu 0 499) 6) 2 (RO_sb ro2)) rfl (gwV mw_520 mw_517 mw_518 mw_519 mw_11) rfl (by decide +kernel) 0 rfl rfl rfl rfl Sb.rf rfl rfl dX6_readLose_23 (fun r w1 hp23_5 => ?_)
      obtain ⟨rfl, rfl⟩ := hp23_5
      show V X 0 0 26 [(2, vI (tnV f 0 499)), (0, .ref a), (1, .ref (ad 0))] [] ((rdW (vG X) a b (flR (tnR f bu 0 499) ((tnR f bu 0 499) 6) 2) (bu)) ++ (liW (vG X) ad F K))
      show V X 0 0 26 [(2, vI (tnV f 0 499)), (0, .ref a), (1, .ref (ad 0))] [] ((rdW (vG X) a b (flR (tnR f bu 0 499) ((tnR f bu 0 499) 6) 2) (bu)) ++ (liW (vG X) ad F K))
      have ro6 : RO (flR (tnR f bu 0 499) ((tnR f bu 0 499) 6) 2) := flR_ok ro2 (by omega) (by omega)
      have ro6c := ro6
      obtain ⟨⟨ro64a, ro64b, ro62b, ro61b⟩, ⟨ro63a, ro63b⟩, ro65, ⟨ro66a, ro66b⟩, ⟨ro67a, ro67b⟩, ro68, ro69, ro60a, ro60b⟩ := ro6c
      have e2 : rlR f bu K = flR (tnR f bu 0 499) (tnR f bu 0 499 6) 2 := if_pos c14
      rw [e2] at mrg
      exact mrg
  refine v_aload_n C dX6_readLose_26 rfl 2 rfl ?_
  refine v_iload_n C dX6_readLose_27 rfl 0 rfl ?_
  refine v_callV (na := 1) (wy := (Cond.code yX3_tellLost cX3_tellLost 2 none :: wsL_law)) (wc := (liW (vG X) ad F K)) (wr := (rdW (vG X) a b (rlR f bu K) (bu))) C [vI (tnV f 0 499)] [] (c_X3_tellLost _ _ ad F K (tnV f 0 499) ⟨by omega, by omega⟩) rfl (gwV mw_555 mw_552 mw_553 mw_554 mw_15) rfl (by decide +kernel) 0 rfl rfl rfl rfl (Sb.pl [2, 3, 4, 5, 6, 7, 8, 9, 10, 0, 1] rfl rfl) rfl rfl dX6_readLose_28 (fun r w1 hp28_7 => ?_)
  obtain ⟨rfl, rfl⟩ := hp28_7
  refine V.sb (ws' := (rdW (vG X) a b (rlR f bu K) (bu)) ++ (liW (vG X) ad (tLF K (tnV f 0 499) F) (tLK (tnV f 0 499) K))) (Sb.pl [9, 10, 0, 1, 2, 3, 4, 5, 6, 7, 8] rfl rfl) ?_
  show V X 0 0 31 [(2, vI (tnV f 0 499)), (0, .ref a), (1, .ref (ad 0))] [] ((rdW (vG X) a b (rlR f bu K) (bu)) ++ (liW (vG X) ad (tLF K (tnV f 0 499) F) (tLK (tnV f 0 499) K)))
  show V X 0 0 31 [(2, vI (tnV f 0 499)), (0, .ref a), (1, .ref (ad 0))] [] ((rdW (vG X) a b (rlR f bu K) (bu)) ++ (liW (vG X) ad (tLF K (tnV f 0 499) F) (tLK (tnV f 0 499) K)))
  exact v_vret C E rfl dX6_readLose_31 (by decide) (by decide) (⟨rfl, rfl⟩)
end C20
