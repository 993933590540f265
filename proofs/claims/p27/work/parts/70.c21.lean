section C21
set_option maxHeartbeats 4000000 in
set_option maxRecDepth 100000 in
theorem c_X6_readMessage (G : GG) (l : Launch) (a b : Nat) (f bu : Int → Int) (ad : Nat → Nat) (F : Int → Int → Int) (K : Int → Int → Int64) (ho : RO f) (hbu : sB 1000 bu) (hF : ∀ i, sB 1000000 (F i)) : Ct G l yX6_readMessage (Cond.code yX6_readMessage cX6_readMessage 6 none :: wsL_law) 4 85 0 0 [.ref a, .ref (ad 0)] ((rdW G a b (f) (bu)) ++ (liW G ad F K)) (fun r w => r = none ∧ w = rdW G a b (rmR f bu F) bu ++ liW G ad (rmF f bu F) (rmK f bu F K)) := by
  refine Ct.of (own := RX6) (cc := cX6_readMessage) (maxL := 6) (ret := none) (by decide) rfl rfl (Nat.le_of_ble_eq_true rfl) (fun X C E M hG hl => ?_)
  subst hG hl
  have ho0 := ho
  obtain ⟨⟨h4a, h4b, h2b, h1b⟩, ⟨h3a, h3b⟩, h5, ⟨h6a, h6b⟩, ⟨h7a, h7b⟩, h8, h9, h0a, h0b⟩ := ho0
  refine v_aload_n C dX6_readMessage_0 rfl 1 rfl ?_
  refine v_aload_n C dX6_readMessage_1 rfl 0 rfl ?_
  refine v_iconst C dX6_readMessage_2 ?_
  refine v_iconst C dX6_readMessage_3 ?_
  refine v_callV (na := 2) (wy := (Cond.code yX6_takeNumber cX6_takeNumber 4 (some .int) :: wsL_law)) (wc := (rdW (vG X) a b (f) (bu))) (wr := (liW (vG X) ad F K)) C [vI 0, vI 1] [.ref (ad 0)] (c_X6_takeNumber _ _ a b f bu 0 1 ho hbu (by decide)) rfl (gwV mw_524 mw_521 mw_522 mw_523 mw_11) rfl (by decide +kernel) 0 rfl rfl rfl rfl Sb.rf rfl rfl dX6_readMessage_4 (fun r w1 hp4_1 => ?_)
  obtain ⟨rfl, rfl⟩ := hp4_1
  show V X 0 0 7 [(0, .ref a), (1, .ref (ad 0))] [vI (tnV f 0 1), .ref (ad 0)] ((rdW (vG X) a b (tnR f bu 0 1) (bu)) ++ (liW (vG X) ad F K))
  show V X 0 0 7 [(0, .ref a), (1, .ref (ad 0))] [vI (tnV f 0 1), .ref (ad 0)] ((rdW (vG X) a b (tnR f bu 0 1) (bu)) ++ (liW (vG X) ad F K))
  have ro2 : RO (tnR f bu 0 1) := tnR_ok ho hbu (by decide)
  have ro2c := ro2
  obtain ⟨⟨ro24a, ro24b, ro22b, ro21b⟩, ⟨ro23a, ro23b⟩, ro25, ⟨ro26a, ro26b⟩, ⟨ro27a, ro27b⟩, ro28, ro29, ro20a, ro20b⟩ := ro2c
  obtain ⟨va3, vb3⟩ := tnV_in (f := f) (p := 0) (q := 1) ho (by decide)
  have hs01 : tnV f 0 1 = 0 ∨ tnV f 0 1 = 1 := by omega
  rcases hs01 with es | es
  · skip
    rw [es]
    show V X 0 0 7 [(0, .ref a), (1, .ref (ad 0))] [vI 0, .ref (ad 0)] ((rdW (vG X) a b (tnR f bu 0 1) (bu)) ++ (liW (vG X) ad F K))
    refine v_callV (na := 1) (wy := (Cond.code yX3_side cX3_side 2 (some (.object "TurnLine$Station")) :: wsL_law)) (wc := (liW (vG X) ad F K)) (wr := (rdW (vG X) a b (tnR f bu 0 1) (bu))) C [vI 0] [] (c_X3_side _ _ ad F K 0 ⟨by omega, by omega⟩) rfl (gwV mw_122 mw_538 mw_120 mw_121 mw_15) rfl (by decide +kernel) 0 rfl rfl rfl rfl (Sb.pl [2, 3, 4, 5, 6, 7, 8, 9, 10, 0, 1] rfl rfl) rfl rfl dX6_readMessage_7 (fun r w1 hp7_4 => ?_)
    obtain ⟨rfl, rfl⟩ := hp7_4
    refine V.sb (ws' := (rdW (vG X) a b (tnR f bu 0 1) (bu)) ++ (liW (vG X) ad F K)) (Sb.pl [9, 10, 0, 1, 2, 3, 4, 5, 6, 7, 8] rfl rfl) ?_
    show V X 0 0 10 [(0, .ref a), (1, .ref (ad 0))] [.ref (if 0 = 0 then (ad 1) else (ad 4))] ((rdW (vG X) a b (tnR f bu 0 1) (bu)) ++ (liW (vG X) ad F K))
    show V X 0 0 10 [(0, .ref a), (1, .ref (ad 0))] [.ref (if 0 = 0 then (ad 1) else (ad 4))] ((rdW (vG X) a b (tnR f bu 0 1) (bu)) ++ (liW (vG X) ad F K))
    rw [if_pos (show (0 : Int) = 0 by omega)]
    refine v_astore_n C M dX6_readMessage_10 rfl (by decide) (L' := [(2, .ref (ad 1)), (0, .ref a), (1, .ref (ad 0))]) rfl ?_
    refine v_aload_n C dX6_readMessage_11 rfl 0 rfl ?_
    refine v_getN (v := vI (F 1 0)) C inw_5 3 2 rfl (by decide) nw_2 rfl rfl dX6_readMessage_12 ?_
    refine v_bipush C dX6_readMessage_15 (by decide +kernel) ?_
    suffices mrg : V X 0 0 29 [(2, .ref (ad 1)), (0, .ref a), (1, .ref (ad 0))] [] ((rdW (vG X) a b (rm2 f bu F) (bu)) ++ (liW (vG X) ad F K)) by
      refine v_icmp_lt (tgt := 29) C dX6_readMessage_17 (by decide) (by have := hF 1 0; first | assumption | exact ⟨by omega, by omega⟩) (by decide) (fun c17 => ?_) (fun c17 => ?_)
      · skip
        have e2 : rm2 f bu F = tnR f bu 0 1 := if_pos (show (if tnV f 0 1 = 0 then F 1 0 else F 2 0) < 20 by rw [if_pos es]; exact c17)
        rw [e2] at mrg
        exact mrg
      · skip
        refine v_aload_n C dX6_readMessage_20 rfl 1 rfl ?_
        refine v_aload_n C dX6_readMessage_21 rfl 1 rfl ?_
        refine v_get (v := vI ((tnR f bu 0 1) 6)) C inw_6 0 7 rfl (by decide) (List.mem_cons_of_mem _ mw_525) rfl rfl dX6_readMessage_22 ?_
        refine v_iconst C dX6_readMessage_25 ?_
        refine v_callV (na := 2) (wy := (Cond.code yX6_failAt cX6_failAt 3 none :: wsL_law)) (wc := (rdW (vG X) a b (tnR f bu 0 1) (bu))) (wr := (liW (vG X) ad F K)) C [vI ((tnR f bu 0 1) 6), vI 4] [] (c_X6_failAt _ _ a b (tnR f bu 0 1) bu ((tnR f bu 0 1) 6) 4 (RO_sb ro2)) rfl (gwV mw_520 mw_517 mw_518 mw_519 mw_11) rfl (by decide +kernel) 0 rfl rfl rfl rfl Sb.rf rfl rfl dX6_readMessage_26 (fun r w1 hp26_5 => ?_)
        obtain ⟨rfl, rfl⟩ := hp26_5
        show V X 0 0 29 [(2, .ref (ad 1)), (0, .ref a), (1, .ref (ad 0))] [] ((rdW (vG X) a b (flR (tnR f bu 0 1) ((tnR f bu 0 1) 6) 4) (bu)) ++ (liW (vG X) ad F K))
        show V X 0 0 29 [(2, .ref (ad 1)), (0, .ref a), (1, .ref (ad 0))] [] ((rdW (vG X) a b (flR (tnR f bu 0 1) ((tnR f bu 0 1) 6) 4) (bu)) ++ (liW (vG X) ad F K))
        have ro6 : RO (flR (tnR f bu 0 1) ((tnR f bu 0 1) 6) 4) := flR_ok ro2 (by omega) (by omega)
        have ro6c := ro6
        obtain ⟨⟨ro64a, ro64b, ro62b, ro61b⟩, ⟨ro63a, ro63b⟩, ro65, ⟨ro66a, ro66b⟩, ⟨ro67a, ro67b⟩, ro68, ro69, ro60a, ro60b⟩ := ro6c
        have e2 : rm2 f bu F = flR (tnR f bu 0 1) (tnR f bu 0 1 6) 4 := if_neg (show ¬ (if tnV f 0 1 = 0 then F 1 0 else F 2 0) < 20 by rw [if_pos es]; exact c17)
        rw [e2] at mrg
        exact mrg
    have ro7 : RO (rm2 f bu F) := rm2_ok ho hbu
    have ro7c := ro7
    obtain ⟨⟨ro74a, ro74b, ro72b, ro71b⟩, ⟨ro73a, ro73b⟩, ro75, ⟨ro76a, ro76b⟩, ⟨ro77a, ro77b⟩, ro78, ro79, ro70a, ro70b⟩ := ro7c
    refine v_aload_n C dX6_readMessage_29 rfl 1 rfl ?_
    refine v_iconst C dX6_readMessage_30 ?_
    refine v_sipush C dX6_readMessage_31 (by decide +kernel) ?_
    refine v_callV (na := 2) (wy := (Cond.code yX6_takeNumber cX6_takeNumber 4 (some .int) :: wsL_law)) (wc := (rdW (vG X) a b (rm2 f bu F) (bu))) (wr := (liW (vG X) ad F K)) C [vI 0, vI 255] [] (c_X6_takeNumber _ _ a b (rm2 f bu F) bu 0 255 ro7 hbu (by decide)) rfl (gwV mw_524 mw_521 mw_522 mw_523 mw_11) rfl (by decide +kernel) 0 rfl rfl rfl rfl Sb.rf rfl rfl dX6_readMessage_34 (fun r w1 hp34_8 => ?_)
    obtain ⟨rfl, rfl⟩ := hp34_8
    show V X 0 0 37 [(2, .ref (ad 1)), (0, .ref a), (1, .ref (ad 0))] [vI (tnV (rm2 f bu F) 0 255)] ((rdW (vG X) a b (tnR (rm2 f bu F) bu 0 255) (bu)) ++ (liW (vG X) ad F K))
    show V X 0 0 37 [(2, .ref (ad 1)), (0, .ref a), (1, .ref (ad 0))] [vI (tnV (rm2 f bu F) 0 255)] ((rdW (vG X) a b (tnR (rm2 f bu F) bu 0 255) (bu)) ++ (liW (vG X) ad F K))
    have ro9 : RO (tnR (rm2 f bu F) bu 0 255) := tnR_ok ro7 hbu (by decide)
    have ro9c := ro9
    obtain ⟨⟨ro94a, ro94b, ro92b, ro91b⟩, ⟨ro93a, ro93b⟩, ro95, ⟨ro96a, ro96b⟩, ⟨ro97a, ro97b⟩, ro98, ro99, ro90a, ro90b⟩ := ro9c
    obtain ⟨va10, vb10⟩ := tnV_in (f := (rm2 f bu F)) (p := 0) (q := 255) ro7 (by decide)
    refine v_i2l (v := toL (tnV (rm2 f bu F) 0 255)) C dX6_readMessage_37 rfl ?_
    refine v_lstore_n C M dX6_readMessage_38 rfl (by decide) (L' := [(3, .long (toL (tnV (rm2 f bu F) 0 255))), (2, .ref (ad 1)), (0, .ref a), (1, .ref (ad 0))]) rfl ?_
    refine v_iconst C dX6_readMessage_39 ?_
    refine v_istore C M dX6_readMessage_40 (by decide) (L' := [(5, vI 1), (3, .long (toL (tnV (rm2 f bu F) 0 255))), (2, .ref (ad 1)), (0, .ref a), (1, .ref (ad 0))]) rfl ?_
    have er11 : (rm3 f bu F) = (tnR (rm2 f bu F) bu 0 255) := rfl
    rw [← er11]
    show V X 0 0 42 [(5, vI 1), (3, .long (toL (tnV (rm2 f bu F) 0 255))), (2, .ref (ad 1)), (0, .ref a), (1, .ref (ad 0))] [] ((rdW (vG X) a b (rm3 f bu F) (bu)) ++ (liW (vG X) ad F K))
    have ro12 : RO (rm3 f bu F) := rm3_ok ho hbu
    have ro12c := ro12
    obtain ⟨⟨ro124a, ro124b, ro122b, ro121b⟩, ⟨ro123a, ro123b⟩, ro125, ⟨ro126a, ro126b⟩, ⟨ro127a, ro127b⟩, ro128, ro129, ro120a, ro120b⟩ := ro12c
    refine V.loc (L' := [(0, .ref a), (1, .ref (ad 0)), (2, .ref (ad 1)), (3, .long (toL (tnV (rm2 f bu F) 0 255))), (5, vI 1)]) [3, 4, 2, 1, 0] rfl ?_
    have tl : V X 0 0 88 [(0, .ref a), (1, .ref (ad 0)), (2, .ref (ad 1)), (3, .long (rmB (rm3 f bu F) (tnV (rm2 f bu F) 0 255) bu (rmN (rm3 f bu F) bu))), (5, vI (((rmN (rm3 f bu F) bu) : Int) + 1))] [] ((rdW (vG X) a b (rm4 f bu F) (bu)) ++ (liW (vG X) ad F K)) := by
      have ro13 : RO (rm4 f bu F) := rm4_ok ho hbu
      have ro13c := ro13
      obtain ⟨⟨ro134a, ro134b, ro132b, ro131b⟩, ⟨ro133a, ro133b⟩, ro135, ⟨ro136a, ro136b⟩, ⟨ro137a, ro137b⟩, ro138, ro139, ro130a, ro130b⟩ := ro13c
      have hN : (rmN (rm3 f bu F) bu) ≤ 7 := skN_le _
      suffices mrg5 : V X 0 0 121 [(0, .ref a), (1, .ref (ad 0)), (2, .ref (ad 1)), (3, .long (rmB (rm3 f bu F) (tnV (rm2 f bu F) 0 255) bu (rmN (rm3 f bu F) bu))), (5, vI (((rmN (rm3 f bu F) bu) : Int) + 1))] [] ((rdW (vG X) a b (rmR f bu F) (bu)) ++ (liW (vG X) ad F K)) by
        refine v_aload_n C dX6_readMessage_88 rfl 0 rfl ?_
        refine v_get (v := vI ((rm4 f bu F) 7)) C inw_6 0 8 rfl (by decide) (List.mem_cons_of_mem _ mw_457) rfl rfl dX6_readMessage_89 ?_
        refine v_if_ne (tgt := 121) C dX6_readMessage_92 (by decide) (by  first | assumption | exact ⟨by omega, by omega⟩) (fun c92 => ?_) (fun c92 => ?_)
        · skip
          have e5 : rmR f bu F = (rm4 f bu F) := if_neg (fun h => c92 h.1)
          rw [e5] at mrg5
          exact mrg5
        · skip
          refine v_aload_n C dX6_readMessage_95 rfl 0 rfl ?_
          refine v_get (v := vI ((rm4 f bu F) 3)) C inw_6 0 4 rfl (by decide) (List.mem_cons_of_mem _ mw_460) rfl rfl dX6_readMessage_96 ?_
          refine v_iconst C dX6_readMessage_99 ?_
          refine v_icmp_ne (tgt := 121) C dX6_readMessage_100 (by decide) (by  first | assumption | exact ⟨by omega, by omega⟩) (by decide) (fun c100 => ?_) (fun c100 => ?_)
          · skip
            have e5 : rmR f bu F = (rm4 f bu F) := if_neg (fun h => c100 h.2)
            rw [e5] at mrg5
            exact mrg5
          · skip
            refine v_aload_n C dX6_readMessage_103 rfl 0 rfl ?_
            refine v_iconst C dX6_readMessage_104 ?_
            refine v_sipush C dX6_readMessage_105 (by decide +kernel) ?_
            refine v_callV (na := 2) (wy := (Cond.code yX6_takeNumber cX6_takeNumber 4 (some .int) :: wsL_law)) (wc := (rdW (vG X) a b (rm4 f bu F) (bu))) (wr := (liW (vG X) ad F K)) C [vI 0, vI 255] [] (c_X6_takeNumber _ _ a b (rm4 f bu F) bu 0 255 ro13 hbu (by decide)) rfl (gwV mw_524 mw_521 mw_522 mw_523 mw_11) rfl (by decide +kernel) 0 rfl rfl rfl rfl Sb.rf rfl rfl dX6_readMessage_108 (fun r w1 hp108_14 => ?_)
            obtain ⟨rfl, rfl⟩ := hp108_14
            show V X 0 0 111 [(0, .ref a), (1, .ref (ad 0)), (2, .ref (ad 1)), (3, .long (rmB (rm3 f bu F) (tnV (rm2 f bu F) 0 255) bu (rmN (rm3 f bu F) bu))), (5, vI (((rmN (rm3 f bu F) bu) : Int) + 1))] [vI (tnV (rm4 f bu F) 0 255)] ((rdW (vG X) a b (tnR (rm4 f bu F) bu 0 255) (bu)) ++ (liW (vG X) ad F K))
            show V X 0 0 111 [(0, .ref a), (1, .ref (ad 0)), (2, .ref (ad 1)), (3, .long (rmB (rm3 f bu F) (tnV (rm2 f bu F) 0 255) bu (rmN (rm3 f bu F) bu))), (5, vI (((rmN (rm3 f bu F) bu) : Int) + 1))] [vI (tnV (rm4 f bu F) 0 255)] ((rdW (vG X) a b (tnR (rm4 f bu F) bu 0 255) (bu)) ++ (liW (vG X) ad F K))
            have ro15 : RO (tnR (rm4 f bu F) bu 0 255) := tnR_ok ro13 hbu (by decide)
            have ro15c := ro15
            obtain ⟨⟨ro154a, ro154b, ro152b, ro151b⟩, ⟨ro153a, ro153b⟩, ro155, ⟨ro156a, ro156b⟩, ⟨ro157a, ro157b⟩, ro158, ro159, ro150a, ro150b⟩ := ro15c
            obtain ⟨va16, vb16⟩ := tnV_in (f := (rm4 f bu F)) (p := 0) (q := 255) ro13 (by decide)
            refine v_pop C dX6_readMessage_111 rfl ?_
            refine v_aload_n C dX6_readMessage_112 rfl 0 rfl ?_
            refine v_aload_n C dX6_readMessage_113 rfl 0 rfl ?_
            refine v_get (v := vI ((tnR (rm4 f bu F) bu 0 255) 6)) C inw_6 0 7 rfl (by decide) (List.mem_cons_of_mem _ mw_525) rfl rfl dX6_readMessage_114 ?_
            refine v_iconst C dX6_readMessage_117 ?_
            refine v_callV (na := 2) (wy := (Cond.code yX6_failAt cX6_failAt 3 none :: wsL_law)) (wc := (rdW (vG X) a b (tnR (rm4 f bu F) bu 0 255) (bu))) (wr := (liW (vG X) ad F K)) C [vI ((tnR (rm4 f bu F) bu 0 255) 6), vI 4] [] (c_X6_failAt _ _ a b (tnR (rm4 f bu F) bu 0 255) bu ((tnR (rm4 f bu F) bu 0 255) 6) 4 (RO_sb ro15)) rfl (gwV mw_520 mw_517 mw_518 mw_519 mw_11) rfl (by decide +kernel) 0 rfl rfl rfl rfl Sb.rf rfl rfl dX6_readMessage_118 (fun r w1 hp118_17 => ?_)
            obtain ⟨rfl, rfl⟩ := hp118_17
            show V X 0 0 121 [(0, .ref a), (1, .ref (ad 0)), (2, .ref (ad 1)), (3, .long (rmB (rm3 f bu F) (tnV (rm2 f bu F) 0 255) bu (rmN (rm3 f bu F) bu))), (5, vI (((rmN (rm3 f bu F) bu) : Int) + 1))] [] ((rdW (vG X) a b (flR (tnR (rm4 f bu F) bu 0 255) ((tnR (rm4 f bu F) bu 0 255) 6) 4) (bu)) ++ (liW (vG X) ad F K))
            show V X 0 0 121 [(0, .ref a), (1, .ref (ad 0)), (2, .ref (ad 1)), (3, .long (rmB (rm3 f bu F) (tnV (rm2 f bu F) 0 255) bu (rmN (rm3 f bu F) bu))), (5, vI (((rmN (rm3 f bu F) bu) : Int) + 1))] [] ((rdW (vG X) a b (flR (tnR (rm4 f bu F) bu 0 255) ((tnR (rm4 f bu F) bu 0 255) 6) 4) (bu)) ++ (liW (vG X) ad F K))
            have ro18 : RO (flR (tnR (rm4 f bu F) bu 0 255) ((tnR (rm4 f bu F) bu 0 255) 6) 4) := flR_ok ro15 (by omega) (by omega)
            have ro18c := ro18
            obtain ⟨⟨ro184a, ro184b, ro182b, ro181b⟩, ⟨ro183a, ro183b⟩, ro185, ⟨ro186a, ro186b⟩, ⟨ro187a, ro187b⟩, ro188, ro189, ro180a, ro180b⟩ := ro18c
            have e5 : rmR f bu F = flR (tnR (rm4 f bu F) bu 0 255) (tnR (rm4 f bu F) bu 0 255 6) 4 := if_pos ⟨c92, c100⟩
            rw [e5] at mrg5
            exact mrg5
      have ro19 : RO (rmR f bu F) := rmR_ok ho hbu
      have ro19c := ro19
      obtain ⟨⟨ro194a, ro194b, ro192b, ro191b⟩, ⟨ro193a, ro193b⟩, ro195, ⟨ro196a, ro196b⟩, ⟨ro197a, ro197b⟩, ro198, ro199, ro190a, ro190b⟩ := ro19c
      refine v_aload_n C dX6_readMessage_121 rfl 0 rfl ?_
      refine v_get (v := vI ((rmR f bu F) 7)) C inw_6 0 8 rfl (by decide) (List.mem_cons_of_mem _ mw_457) rfl rfl dX6_readMessage_122 ?_
      refine v_if_ne (tgt := 135) C dX6_readMessage_125 (by decide) (by  first | assumption | exact ⟨by omega, by omega⟩) (fun c125 => ?_) (fun c125 => ?_)
      · skip
        exact v_vret C E rfl dX6_readMessage_135 (by decide) (by decide) (⟨rfl, by rw [show rmF f bu F = _ from if_pos c125, show rmK f bu F K = _ from if_pos c125]⟩)
      · skip
        refine v_aload_n C dX6_readMessage_128 rfl 2 rfl ?_
        refine v_iload C dX6_readMessage_129 4 rfl ?_
        refine v_lload_n C dX6_readMessage_131 rfl 3 rfl ?_
        refine v_callV (na := 2) (wy := (Cond.code yX5_addMessage cX5_addMessage 4 none :: wsL_law)) (wc := (stW (vG X) (ad 1) (ad 2) (ad 3) (F 1) (F 3) (K 0))) (wr := [(a, .inr (6, [.ref b, vI ((rmR f bu F) 0), vI ((rmR f bu F) 1), vI ((rmR f bu F) 2), vI ((rmR f bu F) 3), vI ((rmR f bu F) 4), vI ((rmR f bu F) 5), vI ((rmR f bu F) 6), vI ((rmR f bu F) 7), vI ((rmR f bu F) 8), vI ((rmR f bu F) 9)])), (b, .inl ((vG X).2 0, 700, .inl (fI (bu)))), ((ad 0), .inr (3, [.ref (ad 1), .ref (ad 4), .ref (ad 7), .ref (ad 8), vI (F 0 7), vI (F 0 4), vI (F 0 5), vI (F 0 1), vI (F 0 2), vI (F 0 6), vI (F 0 9)])), ((ad 4), .inr (5, [.ref (ad 5), .ref (ad 6), vI (F 2 0), vI (F 2 1), vI (F 2 2), vI (F 2 3), vI (F 2 4), vI (F 2 5), vI (F 2 10), vI (F 2 6), vI (F 2 7), vI (F 2 8), vI (F 2 9)])), ((ad 5), .inl ((vG X).2 1, 20, .inl (fI (F 4)))), ((ad 6), .inl ((vG X).2 2, 20, .inr (.inl (fL (K 1))))), ((ad 7), .inl ((vG X).2 1, 10, .inl (fI (F 5)))), ((ad 8), .inl ((vG X).2 2, 32, .inr (.inl (fL (K 2)))))]) C [vI (((rmN (rm3 f bu F) bu) : Int) + 1), .long (rmB (rm3 f bu F) (tnV (rm2 f bu F) 0 255) bu (rmN (rm3 f bu F) bu))] [] (c_X5_addMessage _ _ (ad 1) (ad 2) (ad 3) (F 1) (F 3) (K 0) (((rmN (rm3 f bu F) bu) : Int) + 1) (rmB (rm3 f bu F) (tnV (rm2 f bu F) 0 255) bu (rmN (rm3 f bu F) bu)) (sB_mono (by decide) (hF 1))) rfl (gwV mw_546 mw_543 mw_544 mw_545 mw_48) rfl (by decide +kernel) 0 rfl rfl rfl rfl (Sb.pl [3, 4, 5, 0, 1, 2, 6, 7, 8, 9, 10] rfl rfl) rfl rfl dX6_readMessage_132 (fun r w1 hp132_20 => ?_)
        obtain ⟨rfl, rfl⟩ := hp132_20
        refine V.sb (ws' := (rdW (vG X) a b (rmR f bu F) (bu)) ++ (liW (vG X) ad (up (up F 1 (adF (F 1))) 3 (adL (F 1) (F 3) (((rmN (rm3 f bu F) bu) : Int) + 1))) (up K 0 (adC (F 1) (K 0) (rmB (rm3 f bu F) (tnV (rm2 f bu F) 0 255) bu (rmN (rm3 f bu F) bu)))))) (Sb.pl [3, 4, 5, 0, 1, 2, 6, 7, 8, 9, 10] rfl rfl) ?_
        show V X 0 0 135 [(0, .ref a), (1, .ref (ad 0)), (2, .ref (ad 1)), (3, .long (rmB (rm3 f bu F) (tnV (rm2 f bu F) 0 255) bu (rmN (rm3 f bu F) bu))), (5, vI (((rmN (rm3 f bu F) bu) : Int) + 1))] [] ((rdW (vG X) a b (rmR f bu F) (bu)) ++ (liW (vG X) ad (up (up F 1 (adF (F 1))) 3 (adL (F 1) (F 3) (((rmN (rm3 f bu F) bu) : Int) + 1))) (up K 0 (adC (F 1) (K 0) (rmB (rm3 f bu F) (tnV (rm2 f bu F) 0 255) bu (rmN (rm3 f bu F) bu))))))
        exact v_vret C E rfl dX6_readMessage_135 (by decide) (by decide) (⟨rfl, by rw [show rmF f bu F = (up (up F 1 (adF (F 1))) 3 (adL (F 1) (F 3) (((rmN (rm3 f bu F) bu) : Int) + 1))) from (if_neg (fun h => h c125)).trans (if_pos es), show rmK f bu F K = (up K 0 (adC (F 1) (K 0) (rmB (rm3 f bu F) (tnV (rm2 f bu F) 0 255) bu (rmN (rm3 f bu F) bu)))) from (if_neg (fun h => h c125)).trans (if_pos es)]⟩)
    have lp : ∀ (n : Nat) (n0 : Nat) (hn0 : n0 ≤ 7) (hno : ∀ j : Nat, j < n0 → ¬ (fun k : Nat => ¬ ((k : Int) + 1 < 8 ∧ rmI (rm3 f bu F) bu k 7 = 0 ∧ rmI (rm3 f bu F) bu k 3 = 2)) j) (hm : 8 - (n0 : Int) < (n : Int)), V X 0 0 42 [(0, .ref a), (1, .ref (ad 0)), (2, .ref (ad 1)), (3, .long (rmB (rm3 f bu F) (tnV (rm2 f bu F) 0 255) bu n0)), (5, vI ((n0 : Int) + 1))] [] ((rdW (vG X) a b (rmI (rm3 f bu F) bu n0) (bu)) ++ (liW (vG X) ad F K)) := by
      intro n
      induction n with
      | zero => intro n0 hn0 hno hm; exact absurd hm (by omega)
      | succ n ih =>
        intro n0 hn0 hno hm
        have ro21 : RO (rmI (rm3 f bu F) bu n0) := rmI_ok ho hbu n0
        have ro21c := ro21
        obtain ⟨⟨ro214a, ro214b, ro212b, ro211b⟩, ⟨ro213a, ro213b⟩, ro215, ⟨ro216a, ro216b⟩, ⟨ro217a, ro217b⟩, ro218, ro219, ro210a, ro210b⟩ := ro21c
        refine v_iload C dX6_readMessage_42 4 rfl ?_
        refine v_bipush C dX6_readMessage_44 (by decide +kernel) ?_
        refine v_icmp_ge (tgt := 88) C dX6_readMessage_46 (by decide) (by  first | assumption | exact ⟨by omega, by omega⟩) (by decide) (fun c46 => ?_) (fun c46 => ?_)
        · skip
          have en : n0 = rmN (rm3 f bu F) bu := skN_u _ _ hno (by omega) (Or.inl (fun h => by omega))
          rw [en]
          exact tl
        · skip
          refine v_aload_n C dX6_readMessage_49 rfl 0 rfl ?_
          refine v_get (v := vI ((rmI (rm3 f bu F) bu n0) 7)) C inw_6 0 8 rfl (by decide) (List.mem_cons_of_mem _ mw_457) rfl rfl dX6_readMessage_50 ?_
          refine v_if_ne (tgt := 88) C dX6_readMessage_53 (by decide) (by  first | assumption | exact ⟨by omega, by omega⟩) (fun c53 => ?_) (fun c53 => ?_)
          · skip
            have en : n0 = rmN (rm3 f bu F) bu := skN_u _ _ hno (by omega) (Or.inl (fun h => c53 h.2.1))
            rw [en]
            exact tl
          · skip
            refine v_aload_n C dX6_readMessage_56 rfl 0 rfl ?_
            refine v_get (v := vI ((rmI (rm3 f bu F) bu n0) 3)) C inw_6 0 4 rfl (by decide) (List.mem_cons_of_mem _ mw_460) rfl rfl dX6_readMessage_57 ?_
            refine v_iconst C dX6_readMessage_60 ?_
            refine v_icmp_ne (tgt := 88) C dX6_readMessage_61 (by decide) (by  first | assumption | exact ⟨by omega, by omega⟩) (by decide) (fun c61 => ?_) (fun c61 => ?_)
            · skip
              have en : n0 = rmN (rm3 f bu F) bu := skN_u _ _ hno (by omega) (Or.inl (fun h => c61 h.2.2))
              rw [en]
              exact tl
            · skip
              refine v_lload_n C dX6_readMessage_64 rfl 3 rfl ?_
              refine v_aload_n C dX6_readMessage_65 rfl 0 rfl ?_
              refine v_iconst C dX6_readMessage_66 ?_
              refine v_sipush C dX6_readMessage_67 (by decide +kernel) ?_
              refine v_callV (na := 2) (wy := (Cond.code yX6_takeNumber cX6_takeNumber 4 (some .int) :: wsL_law)) (wc := (rdW (vG X) a b (rmI (rm3 f bu F) bu n0) (bu))) (wr := (liW (vG X) ad F K)) C [vI 0, vI 255] [.long (rmB (rm3 f bu F) (tnV (rm2 f bu F) 0 255) bu n0)] (c_X6_takeNumber _ _ a b (rmI (rm3 f bu F) bu n0) bu 0 255 ro21 hbu (by decide)) rfl (gwV mw_524 mw_521 mw_522 mw_523 mw_11) rfl (by decide +kernel) 0 rfl rfl rfl rfl Sb.rf rfl rfl dX6_readMessage_70 (fun r w1 hp70_22 => ?_)
              obtain ⟨rfl, rfl⟩ := hp70_22
              show V X 0 0 73 [(0, .ref a), (1, .ref (ad 0)), (2, .ref (ad 1)), (3, .long (rmB (rm3 f bu F) (tnV (rm2 f bu F) 0 255) bu n0)), (5, vI ((n0 : Int) + 1))] [vI (tnV (rmI (rm3 f bu F) bu n0) 0 255), .long (rmB (rm3 f bu F) (tnV (rm2 f bu F) 0 255) bu n0)] ((rdW (vG X) a b (tnR (rmI (rm3 f bu F) bu n0) bu 0 255) (bu)) ++ (liW (vG X) ad F K))
              show V X 0 0 73 [(0, .ref a), (1, .ref (ad 0)), (2, .ref (ad 1)), (3, .long (rmB (rm3 f bu F) (tnV (rm2 f bu F) 0 255) bu n0)), (5, vI ((n0 : Int) + 1))] [vI (tnV (rmI (rm3 f bu F) bu n0) 0 255), .long (rmB (rm3 f bu F) (tnV (rm2 f bu F) 0 255) bu n0)] ((rdW (vG X) a b (tnR (rmI (rm3 f bu F) bu n0) bu 0 255) (bu)) ++ (liW (vG X) ad F K))
              have ro23 : RO (tnR (rmI (rm3 f bu F) bu n0) bu 0 255) := tnR_ok ro21 hbu (by decide)
              have ro23c := ro23
              obtain ⟨⟨ro234a, ro234b, ro232b, ro231b⟩, ⟨ro233a, ro233b⟩, ro235, ⟨ro236a, ro236b⟩, ⟨ro237a, ro237b⟩, ro238, ro239, ro230a, ro230b⟩ := ro23c
              obtain ⟨va24, vb24⟩ := tnV_in (f := (rmI (rm3 f bu F) bu n0)) (p := 0) (q := 255) ro21 (by decide)
              refine v_i2l (v := toL (tnV (rmI (rm3 f bu F) bu n0) 0 255)) C dX6_readMessage_73 rfl ?_
              refine v_bipush C dX6_readMessage_74 (by decide +kernel) ?_
              refine v_iload C dX6_readMessage_76 4 rfl ?_
              refine v_imul C dX6_readMessage_78 ?_
              refine v_lshl (v := shL (toL (tnV (rmI (rm3 f bu F) bu n0) 0 255)) (8 * ((n0 : Int) + 1))) C dX6_readMessage_79 rfl ?_
              refine v_lor C dX6_readMessage_80 ?_
              refine v_lstore_n C M dX6_readMessage_81 rfl (by decide) (L' := [(3, .long ((rmB (rm3 f bu F) (tnV (rm2 f bu F) 0 255) bu n0) ||| (shL (toL (tnV (rmI (rm3 f bu F) bu n0) 0 255)) (8 * ((n0 : Int) + 1))))), (0, .ref a), (1, .ref (ad 0)), (2, .ref (ad 1)), (5, vI ((n0 : Int) + 1))]) rfl ?_
              refine v_iinc C M dX6_readMessage_82 4 rfl (by decide) (z' := (((n0 : Int) + 1) + 1)) rfl (L' := [(5, vI (((n0 : Int) + 1) + 1)), (3, .long ((rmB (rm3 f bu F) (tnV (rm2 f bu F) 0 255) bu n0) ||| (shL (toL (tnV (rmI (rm3 f bu F) bu n0) 0 255)) (8 * ((n0 : Int) + 1))))), (0, .ref a), (1, .ref (ad 0)), (2, .ref (ad 1))]) rfl ?_
              refine v_goto (tgt := 42) C dX6_readMessage_85 (by decide) ?_
              refine V.loc (L' := [(0, .ref a), (1, .ref (ad 0)), (2, .ref (ad 1)), (3, .long ((rmB (rm3 f bu F) (tnV (rm2 f bu F) 0 255) bu n0) ||| (shL (toL (tnV (rmI (rm3 f bu F) bu n0) 0 255)) (8 * ((n0 : Int) + 1))))), (5, vI (((n0 : Int) + 1) + 1))]) [2, 3, 4, 1, 0] rfl ?_
              have key := ih (n0 + 1) (by omega) (fun j hj => by
                by_cases e : j = n0
                · rw [e]; exact fun h => h ⟨by omega, c53, c61⟩
                · exact hno j (by omega)) (by omega)
              rw [show rmI (rm3 f bu F) bu (n0 + 1) = tnR (rmI (rm3 f bu F) bu n0) bu 0 255 from rfl, show rmB (rm3 f bu F) (tnV (rm2 f bu F) 0 255) bu (n0 + 1) = (rmB (rm3 f bu F) (tnV (rm2 f bu F) 0 255) bu n0 ||| shL (toL (tnV (rmI (rm3 f bu F) bu n0) 0 255)) (8 * ((n0 : Int) + 1))) from rfl, show ((n0 + 1 : Nat) : Int) + 1 = (n0 : Int) + 1 + 1 by omega] at key
              exact key
    exact lp 9 0 (by omega) (fun j hj => absurd hj (by omega)) (by omega)
  · skip
    rw [es]
    show V X 0 0 7 [(0, .ref a), (1, .ref (ad 0))] [vI 1, .ref (ad 0)] ((rdW (vG X) a b (tnR f bu 0 1) (bu)) ++ (liW (vG X) ad F K))
    refine v_callV (na := 1) (wy := (Cond.code yX3_side cX3_side 2 (some (.object "TurnLine$Station")) :: wsL_law)) (wc := (liW (vG X) ad F K)) (wr := (rdW (vG X) a b (tnR f bu 0 1) (bu))) C [vI 1] [] (c_X3_side _ _ ad F K 1 ⟨by omega, by omega⟩) rfl (gwV mw_122 mw_538 mw_120 mw_121 mw_15) rfl (by decide +kernel) 0 rfl rfl rfl rfl (Sb.pl [2, 3, 4, 5, 6, 7, 8, 9, 10, 0, 1] rfl rfl) rfl rfl dX6_readMessage_7 (fun r w1 hp7_25 => ?_)
    obtain ⟨rfl, rfl⟩ := hp7_25
    refine V.sb (ws' := (rdW (vG X) a b (tnR f bu 0 1) (bu)) ++ (liW (vG X) ad F K)) (Sb.pl [9, 10, 0, 1, 2, 3, 4, 5, 6, 7, 8] rfl rfl) ?_
    show V X 0 0 10 [(0, .ref a), (1, .ref (ad 0))] [.ref (if 1 = 0 then (ad 1) else (ad 4))] ((rdW (vG X) a b (tnR f bu 0 1) (bu)) ++ (liW (vG X) ad F K))
    show V X 0 0 10 [(0, .ref a), (1, .ref (ad 0))] [.ref (if 1 = 0 then (ad 1) else (ad 4))] ((rdW (vG X) a b (tnR f bu 0 1) (bu)) ++ (liW (vG X) ad F K))
    rw [if_neg (show ¬ (1 : Int) = 0 by omega)]
    refine v_astore_n C M dX6_readMessage_10 rfl (by decide) (L' := [(2, .ref (ad 4)), (0, .ref a), (1, .ref (ad 0))]) rfl ?_
    refine v_aload_n C dX6_readMessage_11 rfl 0 rfl ?_
    refine v_getN (v := vI (F 2 0)) C inw_5 6 2 rfl (by decide) nw_2 rfl rfl dX6_readMessage_12 ?_
    refine v_bipush C dX6_readMessage_15 (by decide +kernel) ?_
    suffices mrg : V X 0 0 29 [(2, .ref (ad 4)), (0, .ref a), (1, .ref (ad 0))] [] ((rdW (vG X) a b (rm2 f bu F) (bu)) ++ (liW (vG X) ad F K)) by
      refine v_icmp_lt (tgt := 29) C dX6_readMessage_17 (by decide) (by have := hF 2 0; first | assumption | exact ⟨by omega, by omega⟩) (by decide) (fun c17 => ?_) (fun c17 => ?_)
      · skip
        have e2 : rm2 f bu F = tnR f bu 0 1 := if_pos (show (if tnV f 0 1 = 0 then F 1 0 else F 2 0) < 20 by rw [if_neg (show ¬ tnV f 0 1 = 0 by omega)]; exact c17)
        rw [e2] at mrg
        exact mrg
      · skip
        refine v_aload_n C dX6_readMessage_20 rfl 1 rfl ?_
        refine v_aload_n C dX6_readMessage_21 rfl 1 rfl ?_
        refine v_get (v := vI ((tnR f bu 0 1) 6)) C inw_6 0 7 rfl (by decide) (List.mem_cons_of_mem _ mw_525) rfl rfl dX6_readMessage_22 ?_
        refine v_iconst C dX6_readMessage_25 ?_
        refine v_callV (na := 2) (wy := (Cond.code yX6_failAt cX6_failAt 3 none :: wsL_law)) (wc := (rdW (vG X) a b (tnR f bu 0 1) (bu))) (wr := (liW (vG X) ad F K)) C [vI ((tnR f bu 0 1) 6), vI 4] [] (c_X6_failAt _ _ a b (tnR f bu 0 1) bu ((tnR f bu 0 1) 6) 4 (RO_sb ro2)) rfl (gwV mw_520 mw_517 mw_518 mw_519 mw_11) rfl (by decide +kernel) 0 rfl rfl rfl rfl Sb.rf rfl rfl dX6_readMessage_26 (fun r w1 hp26_26 => ?_)
        obtain ⟨rfl, rfl⟩ := hp26_26
        show V X 0 0 29 [(2, .ref (ad 4)), (0, .ref a), (1, .ref (ad 0))] [] ((rdW (vG X) a b (flR (tnR f bu 0 1) ((tnR f bu 0 1) 6) 4) (bu)) ++ (liW (vG X) ad F K))
        show V X 0 0 29 [(2, .ref (ad 4)), (0, .ref a), (1, .ref (ad 0))] [] ((rdW (vG X) a b (flR (tnR f bu 0 1) ((tnR f bu 0 1) 6) 4) (bu)) ++ (liW (vG X) ad F K))
        have ro27 : RO (flR (tnR f bu 0 1) ((tnR f bu 0 1) 6) 4) := flR_ok ro2 (by omega) (by omega)
        have ro27c := ro27
        obtain ⟨⟨ro274a, ro274b, ro272b, ro271b⟩, ⟨ro273a, ro273b⟩, ro275, ⟨ro276a, ro276b⟩, ⟨ro277a, ro277b⟩, ro278, ro279, ro270a, ro270b⟩ := ro27c
        have e2 : rm2 f bu F = flR (tnR f bu 0 1) (tnR f bu 0 1 6) 4 := if_neg (show ¬ (if tnV f 0 1 = 0 then F 1 0 else F 2 0) < 20 by rw [if_neg (show ¬ tnV f 0 1 = 0 by omega)]; exact c17)
        rw [e2] at mrg
        exact mrg
    have ro28 : RO (rm2 f bu F) := rm2_ok ho hbu
    have ro28c := ro28
    obtain ⟨⟨ro284a, ro284b, ro282b, ro281b⟩, ⟨ro283a, ro283b⟩, ro285, ⟨ro286a, ro286b⟩, ⟨ro287a, ro287b⟩, ro288, ro289, ro280a, ro280b⟩ := ro28c
    refine v_aload_n C dX6_readMessage_29 rfl 1 rfl ?_
    refine v_iconst C dX6_readMessage_30 ?_
    refine v_sipush C dX6_readMessage_31 (by decide +kernel) ?_
    refine v_callV (na := 2) (wy := (Cond.code yX6_takeNumber cX6_takeNumber 4 (some .int) :: wsL_law)) (wc := (rdW (vG X) a b (rm2 f bu F) (bu))) (wr := (liW (vG X) ad F K)) C [vI 0, vI 255] [] (c_X6_takeNumber _ _ a b (rm2 f bu F) bu 0 255 ro28 hbu (by decide)) rfl (gwV mw_524 mw_521 mw_522 mw_523 mw_11) rfl (by decide +kernel) 0 rfl rfl rfl rfl Sb.rf rfl rfl dX6_readMessage_34 (fun r w1 hp34_29 => ?_)
    obtain ⟨rfl, rfl⟩ := hp34_29
    show V X 0 0 37 [(2, .ref (ad 4)), (0, .ref a), (1, .ref (ad 0))] [vI (tnV (rm2 f bu F) 0 255)] ((rdW (vG X) a b (tnR (rm2 f bu F) bu 0 255) (bu)) ++ (liW (vG X) ad F K))
    show V X 0 0 37 [(2, .ref (ad 4)), (0, .ref a), (1, .ref (ad 0))] [vI (tnV (rm2 f bu F) 0 255)] ((rdW (vG X) a b (tnR (rm2 f bu F) bu 0 255) (bu)) ++ (liW (vG X) ad F K))
    have ro30 : RO (tnR (rm2 f bu F) bu 0 255) := tnR_ok ro28 hbu (by decide)
    have ro30c := ro30
    obtain ⟨⟨ro304a, ro304b, ro302b, ro301b⟩, ⟨ro303a, ro303b⟩, ro305, ⟨ro306a, ro306b⟩, ⟨ro307a, ro307b⟩, ro308, ro309, ro300a, ro300b⟩ := ro30c
    obtain ⟨va31, vb31⟩ := tnV_in (f := (rm2 f bu F)) (p := 0) (q := 255) ro28 (by decide)
    refine v_i2l (v := toL (tnV (rm2 f bu F) 0 255)) C dX6_readMessage_37 rfl ?_
    refine v_lstore_n C M dX6_readMessage_38 rfl (by decide) (L' := [(3, .long (toL (tnV (rm2 f bu F) 0 255))), (2, .ref (ad 4)), (0, .ref a), (1, .ref (ad 0))]) rfl ?_
    refine v_iconst C dX6_readMessage_39 ?_
    refine v_istore C M dX6_readMessage_40 (by decide) (L' := [(5, vI 1), (3, .long (toL (tnV (rm2 f bu F) 0 255))), (2, .ref (ad 4)), (0, .ref a), (1, .ref (ad 0))]) rfl ?_
    have er32 : (rm3 f bu F) = (tnR (rm2 f bu F) bu 0 255) := rfl
    rw [← er32]
    show V X 0 0 42 [(5, vI 1), (3, .long (toL (tnV (rm2 f bu F) 0 255))), (2, .ref (ad 4)), (0, .ref a), (1, .ref (ad 0))] [] ((rdW (vG X) a b (rm3 f bu F) (bu)) ++ (liW (vG X) ad F K))
    have ro33 : RO (rm3 f bu F) := rm3_ok ho hbu
    have ro33c := ro33
    obtain ⟨⟨ro334a, ro334b, ro332b, ro331b⟩, ⟨ro333a, ro333b⟩, ro335, ⟨ro336a, ro336b⟩, ⟨ro337a, ro337b⟩, ro338, ro339, ro330a, ro330b⟩ := ro33c
    refine V.loc (L' := [(0, .ref a), (1, .ref (ad 0)), (2, .ref (ad 4)), (3, .long (toL (tnV (rm2 f bu F) 0 255))), (5, vI 1)]) [3, 4, 2, 1, 0] rfl ?_
    have tl : V X 0 0 88 [(0, .ref a), (1, .ref (ad 0)), (2, .ref (ad 4)), (3, .long (rmB (rm3 f bu F) (tnV (rm2 f bu F) 0 255) bu (rmN (rm3 f bu F) bu))), (5, vI (((rmN (rm3 f bu F) bu) : Int) + 1))] [] ((rdW (vG X) a b (rm4 f bu F) (bu)) ++ (liW (vG X) ad F K)) := by
      have ro34 : RO (rm4 f bu F) := rm4_ok ho hbu
      have ro34c := ro34
      obtain ⟨⟨ro344a, ro344b, ro342b, ro341b⟩, ⟨ro343a, ro343b⟩, ro345, ⟨ro346a, ro346b⟩, ⟨ro347a, ro347b⟩, ro348, ro349, ro340a, ro340b⟩ := ro34c
      have hN : (rmN (rm3 f bu F) bu) ≤ 7 := skN_le _
      suffices mrg5 : V X 0 0 121 [(0, .ref a), (1, .ref (ad 0)), (2, .ref (ad 4)), (3, .long (rmB (rm3 f bu F) (tnV (rm2 f bu F) 0 255) bu (rmN (rm3 f bu F) bu))), (5, vI (((rmN (rm3 f bu F) bu) : Int) + 1))] [] ((rdW (vG X) a b (rmR f bu F) (bu)) ++ (liW (vG X) ad F K)) by
        refine v_aload_n C dX6_readMessage_88 rfl 0 rfl ?_
        refine v_get (v := vI ((rm4 f bu F) 7)) C inw_6 0 8 rfl (by decide) (List.mem_cons_of_mem _ mw_457) rfl rfl dX6_readMessage_89 ?_
        refine v_if_ne (tgt := 121) C dX6_readMessage_92 (by decide) (by  first | assumption | exact ⟨by omega, by omega⟩) (fun c92 => ?_) (fun c92 => ?_)
        · skip
          have e5 : rmR f bu F = (rm4 f bu F) := if_neg (fun h => c92 h.1)
          rw [e5] at mrg5
          exact mrg5
        · skip
          refine v_aload_n C dX6_readMessage_95 rfl 0 rfl ?_
          refine v_get (v := vI ((rm4 f bu F) 3)) C inw_6 0 4 rfl (by decide) (List.mem_cons_of_mem _ mw_460) rfl rfl dX6_readMessage_96 ?_
          refine v_iconst C dX6_readMessage_99 ?_
          refine v_icmp_ne (tgt := 121) C dX6_readMessage_100 (by decide) (by  first | assumption | exact ⟨by omega, by omega⟩) (by decide) (fun c100 => ?_) (fun c100 => ?_)
          · skip
            have e5 : rmR f bu F = (rm4 f bu F) := if_neg (fun h => c100 h.2)
            rw [e5] at mrg5
            exact mrg5
          · skip
            refine v_aload_n C dX6_readMessage_103 rfl 0 rfl ?_
            refine v_iconst C dX6_readMessage_104 ?_
            refine v_sipush C dX6_readMessage_105 (by decide +kernel) ?_
            refine v_callV (na := 2) (wy := (Cond.code yX6_takeNumber cX6_takeNumber 4 (some .int) :: wsL_law)) (wc := (rdW (vG X) a b (rm4 f bu F) (bu))) (wr := (liW (vG X) ad F K)) C [vI 0, vI 255] [] (c_X6_takeNumber _ _ a b (rm4 f bu F) bu 0 255 ro34 hbu (by decide)) rfl (gwV mw_524 mw_521 mw_522 mw_523 mw_11) rfl (by decide +kernel) 0 rfl rfl rfl rfl Sb.rf rfl rfl dX6_readMessage_108 (fun r w1 hp108_35 => ?_)
            obtain ⟨rfl, rfl⟩ := hp108_35
            show V X 0 0 111 [(0, .ref a), (1, .ref (ad 0)), (2, .ref (ad 4)), (3, .long (rmB (rm3 f bu F) (tnV (rm2 f bu F) 0 255) bu (rmN (rm3 f bu F) bu))), (5, vI (((rmN (rm3 f bu F) bu) : Int) + 1))] [vI (tnV (rm4 f bu F) 0 255)] ((rdW (vG X) a b (tnR (rm4 f bu F) bu 0 255) (bu)) ++ (liW (vG X) ad F K))
            show V X 0 0 111 [(0, .ref a), (1, .ref (ad 0)), (2, .ref (ad 4)), (3, .long (rmB (rm3 f bu F) (tnV (rm2 f bu F) 0 255) bu (rmN (rm3 f bu F) bu))), (5, vI (((rmN (rm3 f bu F) bu) : Int) + 1))] [vI (tnV (rm4 f bu F) 0 255)] ((rdW (vG X) a b (tnR (rm4 f bu F) bu 0 255) (bu)) ++ (liW (vG X) ad F K))
            have ro36 : RO (tnR (rm4 f bu F) bu 0 255) := tnR_ok ro34 hbu (by decide)
            have ro36c := ro36
            obtain ⟨⟨ro364a, ro364b, ro362b, ro361b⟩, ⟨ro363a, ro363b⟩, ro365, ⟨ro366a, ro366b⟩, ⟨ro367a, ro367b⟩, ro368, ro369, ro360a, ro360b⟩ := ro36c
            obtain ⟨va37, vb37⟩ := tnV_in (f := (rm4 f bu F)) (p := 0) (q := 255) ro34 (by decide)
            refine v_pop C dX6_readMessage_111 rfl ?_
            refine v_aload_n C dX6_readMessage_112 rfl 0 rfl ?_
            refine v_aload_n C dX6_readMessage_113 rfl 0 rfl ?_
            refine v_get (v := vI ((tnR (rm4 f bu F) bu 0 255) 6)) C inw_6 0 7 rfl (by decide) (List.mem_cons_of_mem _ mw_525) rfl rfl dX6_readMessage_114 ?_
            refine v_iconst C dX6_readMessage_117 ?_
            refine v_callV (na := 2) (wy := (Cond.code yX6_failAt cX6_failAt 3 none :: wsL_law)) (wc := (rdW (vG X) a b (tnR (rm4 f bu F) bu 0 255) (bu))) (wr := (liW (vG X) ad F K)) C [vI ((tnR (rm4 f bu F) bu 0 255) 6), vI 4] [] (c_X6_failAt _ _ a b (tnR (rm4 f bu F) bu 0 255) bu ((tnR (rm4 f bu F) bu 0 255) 6) 4 (RO_sb ro36)) rfl (gwV mw_520 mw_517 mw_518 mw_519 mw_11) rfl (by decide +kernel) 0 rfl rfl rfl rfl Sb.rf rfl rfl dX6_readMessage_118 (fun r w1 hp118_38 => ?_)
            obtain ⟨rfl, rfl⟩ := hp118_38
            show V X 0 0 121 [(0, .ref a), (1, .ref (ad 0)), (2, .ref (ad 4)), (3, .long (rmB (rm3 f bu F) (tnV (rm2 f bu F) 0 255) bu (rmN (rm3 f bu F) bu))), (5, vI (((rmN (rm3 f bu F) bu) : Int) + 1))] [] ((rdW (vG X) a b (flR (tnR (rm4 f bu F) bu 0 255) ((tnR (rm4 f bu F) bu 0 255) 6) 4) (bu)) ++ (liW (vG X) ad F K))
            show V X 0 0 121 [(0, .ref a), (1, .ref (ad 0)), (2, .ref (ad 4)), (3, .long (rmB (rm3 f bu F) (tnV (rm2 f bu F) 0 255) bu (rmN (rm3 f bu F) bu))), (5, vI (((rmN (rm3 f bu F) bu) : Int) + 1))] [] ((rdW (vG X) a b (flR (tnR (rm4 f bu F) bu 0 255) ((tnR (rm4 f bu F) bu 0 255) 6) 4) (bu)) ++ (liW (vG X) ad F K))
            have ro39 : RO (flR (tnR (rm4 f bu F) bu 0 255) ((tnR (rm4 f bu F) bu 0 255) 6) 4) := flR_ok ro36 (by omega) (by omega)
            have ro39c := ro39
            obtain ⟨⟨ro394a, ro394b, ro392b, ro391b⟩, ⟨ro393a, ro393b⟩, ro395, ⟨ro396a, ro396b⟩, ⟨ro397a, ro397b⟩, ro398, ro399, ro390a, ro390b⟩ := ro39c
            have e5 : rmR f bu F = flR (tnR (rm4 f bu F) bu 0 255) (tnR (rm4 f bu F) bu 0 255 6) 4 := if_pos ⟨c92, c100⟩
            rw [e5] at mrg5
            exact mrg5
      have ro40 : RO (rmR f bu F) := rmR_ok ho hbu
      have ro40c := ro40
      obtain ⟨⟨ro404a, ro404b, ro402b, ro401b⟩, ⟨ro403a, ro403b⟩, ro405, ⟨ro406a, ro406b⟩, ⟨ro407a, ro407b⟩, ro408, ro409, ro400a, ro400b⟩ := ro40c
      refine v_aload_n C dX6_readMessage_121 rfl 0 rfl ?_
      refine v_get (v := vI ((rmR f bu F) 7)) C inw_6 0 8 rfl (by decide) (List.mem_cons_of_mem _ mw_457) rfl rfl dX6_readMessage_122 ?_
      refine v_if_ne (tgt := 135) C dX6_readMessage_125 (by decide) (by  first | assumption | exact ⟨by omega, by omega⟩) (fun c125 => ?_) (fun c125 => ?_)
      · skip
        exact v_vret C E rfl dX6_readMessage_135 (by decide) (by decide) (⟨rfl, by rw [show rmF f bu F = _ from if_pos c125, show rmK f bu F K = _ from if_pos c125]⟩)
      · skip
        refine v_aload_n C dX6_readMessage_128 rfl 2 rfl ?_
        refine v_iload C dX6_readMessage_129 4 rfl ?_
        refine v_lload_n C dX6_readMessage_131 rfl 3 rfl ?_
        refine v_callV (na := 2) (wy := (Cond.code yX5_addMessage cX5_addMessage 4 none :: wsL_law)) (wc := (stW (vG X) (ad 4) (ad 5) (ad 6) (F 2) (F 4) (K 1))) (wr := [(a, .inr (6, [.ref b, vI ((rmR f bu F) 0), vI ((rmR f bu F) 1), vI ((rmR f bu F) 2), vI ((rmR f bu F) 3), vI ((rmR f bu F) 4), vI ((rmR f bu F) 5), vI ((rmR f bu F) 6), vI ((rmR f bu F) 7), vI ((rmR f bu F) 8), vI ((rmR f bu F) 9)])), (b, .inl ((vG X).2 0, 700, .inl (fI (bu)))), ((ad 0), .inr (3, [.ref (ad 1), .ref (ad 4), .ref (ad 7), .ref (ad 8), vI (F 0 7), vI (F 0 4), vI (F 0 5), vI (F 0 1), vI (F 0 2), vI (F 0 6), vI (F 0 9)])), ((ad 1), .inr (5, [.ref (ad 2), .ref (ad 3), vI (F 1 0), vI (F 1 1), vI (F 1 2), vI (F 1 3), vI (F 1 4), vI (F 1 5), vI (F 1 10), vI (F 1 6), vI (F 1 7), vI (F 1 8), vI (F 1 9)])), ((ad 2), .inl ((vG X).2 1, 20, .inl (fI (F 3)))), ((ad 3), .inl ((vG X).2 2, 20, .inr (.inl (fL (K 0))))), ((ad 7), .inl ((vG X).2 1, 10, .inl (fI (F 5)))), ((ad 8), .inl ((vG X).2 2, 32, .inr (.inl (fL (K 2)))))]) C [vI (((rmN (rm3 f bu F) bu) : Int) + 1), .long (rmB (rm3 f bu F) (tnV (rm2 f bu F) 0 255) bu (rmN (rm3 f bu F) bu))] [] (c_X5_addMessage _ _ (ad 4) (ad 5) (ad 6) (F 2) (F 4) (K 1) (((rmN (rm3 f bu F) bu) : Int) + 1) (rmB (rm3 f bu F) (tnV (rm2 f bu F) 0 255) bu (rmN (rm3 f bu F) bu)) (sB_mono (by decide) (hF 2))) rfl (gwV mw_546 mw_543 mw_544 mw_545 mw_48) rfl (by decide +kernel) 0 rfl rfl rfl rfl (Sb.pl [6, 7, 8, 0, 1, 2, 3, 4, 5, 9, 10] rfl rfl) rfl rfl dX6_readMessage_132 (fun r w1 hp132_41 => ?_)
        obtain ⟨rfl, rfl⟩ := hp132_41
        refine V.sb (ws' := (rdW (vG X) a b (rmR f bu F) (bu)) ++ (liW (vG X) ad (up (up F 2 (adF (F 2))) 4 (adL (F 2) (F 4) (((rmN (rm3 f bu F) bu) : Int) + 1))) (up K 1 (adC (F 2) (K 1) (rmB (rm3 f bu F) (tnV (rm2 f bu F) 0 255) bu (rmN (rm3 f bu F) bu)))))) (Sb.pl [3, 4, 5, 6, 7, 8, 0, 1, 2, 9, 10] rfl rfl) ?_
        show V X 0 0 135 [(0, .ref a), (1, .ref (ad 0)), (2, .ref (ad 4)), (3, .long (rmB (rm3 f bu F) (tnV (rm2 f bu F) 0 255) bu (rmN (rm3 f bu F) bu))), (5, vI (((rmN (rm3 f bu F) bu) : Int) + 1))] [] ((rdW (vG X) a b (rmR f bu F) (bu)) ++ (liW (vG X) ad (up (up F 2 (adF (F 2))) 4 (adL (F 2) (F 4) (((rmN (rm3 f bu F) bu) : Int) + 1))) (up K 1 (adC (F 2) (K 1) (rmB (rm3 f bu F) (tnV (rm2 f bu F) 0 255) bu (rmN (rm3 f bu F) bu))))))
        exact v_vret C E rfl dX6_readMessage_135 (by decide) (by decide) (⟨rfl, by rw [show rmF f bu F = (up (up F 2 (adF (F 2))) 4 (adL (F 2) (F 4) (((rmN (rm3 f bu F) bu) : Int) + 1))) from (if_neg (fun h => h c125)).trans (if_neg (show ¬ tnV f 0 1 = 0 by omega)), show rmK f bu F K = (up K 1 (adC (F 2) (K 1) (rmB (rm3 f bu F) (tnV (rm2 f bu F) 0 255) bu (rmN (rm3 f bu F) bu)))) from (if_neg (fun h => h c125)).trans (if_neg (show ¬ tnV f 0 1 = 0 by omega))]⟩)
    have lp : ∀ (n : Nat) (n0 : Nat) (hn0 : n0 ≤ 7) (hno : ∀ j : Nat, j < n0 → ¬ (fun k : Nat => ¬ ((k : Int) + 1 < 8 ∧ rmI (rm3 f bu F) bu k 7 = 0 ∧ rmI (rm3 f bu F) bu k 3 = 2)) j) (hm : 8 - (n0 : Int) < (n : Int)), V X 0 0 42 [(0, .ref a), (1, .ref (ad 0)), (2, .ref (ad 4)), (3, .long (rmB (rm3 f bu F) (tnV (rm2 f bu F) 0 255) bu n0)), (5, vI ((n0 : Int) + 1))] [] ((rdW (vG X) a b (rmI (rm3 f bu F) bu n0) (bu)) ++ (liW (vG X) ad F K)) := by
      intro n
      induction n with
      | zero => intro n0 hn0 hno hm; exact absurd hm (by omega)
      | succ n ih =>
        intro n0 hn0 hno hm
        have ro42 : RO (rmI (rm3 f bu F) bu n0) := rmI_ok ho hbu n0
        have ro42c := ro42
        obtain ⟨⟨ro424a, ro424b, ro422b, ro421b⟩, ⟨ro423a, ro423b⟩, ro425, ⟨ro426a, ro426b⟩, ⟨ro427a, ro427b⟩, ro428, ro429, ro420a, ro420b⟩ := ro42c
        refine v_iload C dX6_readMessage_42 4 rfl ?_
        refine v_bipush C dX6_readMessage_44 (by decide +kernel) ?_
        refine v_icmp_ge (tgt := 88) C dX6_readMessage_46 (by decide) (by  first | assumption | exact ⟨by omega, by omega⟩) (by decide) (fun c46 => ?_) (fun c46 => ?_)
        · skip
          have en : n0 = rmN (rm3 f bu F) bu := skN_u _ _ hno (by omega) (Or.inl (fun h => by omega))
          rw [en]
          exact tl
        · skip
          refine v_aload_n C dX6_readMessage_49 rfl 0 rfl ?_
          refine v_get (v := vI ((rmI (rm3 f bu F) bu n0) 7)) C inw_6 0 8 rfl (by decide) (List.mem_cons_of_mem _ mw_457) rfl rfl dX6_readMessage_50 ?_
          refine v_if_ne (tgt := 88) C dX6_readMessage_53 (by decide) (by  first | assumption | exact ⟨by omega, by omega⟩) (fun c53 => ?_) (fun c53 => ?_)
          · skip
            have en : n0 = rmN (rm3 f bu F) bu := skN_u _ _ hno (by omega) (Or.inl (fun h => c53 h.2.1))
            rw [en]
            exact tl
          · skip
            refine v_aload_n C dX6_readMessage_56 rfl 0 rfl ?_
            refine v_get (v := vI ((rmI (rm3 f bu F) bu n0) 3)) C inw_6 0 4 rfl (by decide) (List.mem_cons_of_mem _ mw_460) rfl rfl dX6_readMessage_57 ?_
            refine v_iconst C dX6_readMessage_60 ?_
            refine v_icmp_ne (tgt := 88) C dX6_readMessage_61 (by decide) (by  first | assumption | exact ⟨by omega, by omega⟩) (by decide) (fun c61 => ?_) (fun c61 => ?_)
            · skip
              have en : n0 = rmN (rm3 f bu F) bu := skN_u _ _ hno (by omega) (Or.inl (fun h => c61 h.2.2))
              rw [en]
              exact tl
            · skip
              refine v_lload_n C dX6_readMessage_64 rfl 3 rfl ?_
              refine v_aload_n C dX6_readMessage_65 rfl 0 rfl ?_
              refine v_iconst C dX6_readMessage_66 ?_
              refine v_sipush C dX6_readMessage_67 (by decide +kernel) ?_
              refine v_callV (na := 2) (wy := (Cond.code yX6_takeNumber cX6_takeNumber 4 (some .int) :: wsL_law)) (wc := (rdW (vG X) a b (rmI (rm3 f bu F) bu n0) (bu))) (wr := (liW (vG X) ad F K)) C [vI 0, vI 255] [.long (rmB (rm3 f bu F) (tnV (rm2 f bu F) 0 255) bu n0)] (c_X6_takeNumber _ _ a b (rmI (rm3 f bu F) bu n0) bu 0 255 ro42 hbu (by decide)) rfl (gwV mw_524 mw_521 mw_522 mw_523 mw_11) rfl (by decide +kernel) 0 rfl rfl rfl rfl Sb.rf rfl rfl dX6_readMessage_70 (fun r w1 hp70_43 => ?_)
              obtain ⟨rfl, rfl⟩ := hp70_43
              show V X 0 0 73 [(0, .ref a), (1, .ref (ad 0)), (2, .ref (ad 4)), (3, .long (rmB (rm3 f bu F) (tnV (rm2 f bu F) 0 255) bu n0)), (5, vI ((n0 : Int) + 1))] [vI (tnV (rmI (rm3 f bu F) bu n0) 0 255), .long (rmB (rm3 f bu F) (tnV (rm2 f bu F) 0 255) bu n0)] ((rdW (vG X) a b (tnR (rmI (rm3 f bu F) bu n0) bu 0 255) (bu)) ++ (liW (vG X) ad F K))
              show V X 0 0 73 [(0, .ref a), (1, .ref (ad 0)), (2, .ref (ad 4)), (3, .long (rmB (rm3 f bu F) (tnV (rm2 f bu F) 0 255) bu n0)), (5, vI ((n0 : Int) + 1))] [vI (tnV (rmI (rm3 f bu F) bu n0) 0 255), .long (rmB (rm3 f bu F) (tnV (rm2 f bu F) 0 255) bu n0)] ((rdW (vG X) a b (tnR (rmI (rm3 f bu F) bu n0) bu 0 255) (bu)) ++ (liW (vG X) ad F K))
              have ro44 : RO (tnR (rmI (rm3 f bu F) bu n0) bu 0 255) := tnR_ok ro42 hbu (by decide)
              have ro44c := ro44
              obtain ⟨⟨ro444a, ro444b, ro442b, ro441b⟩, ⟨ro443a, ro443b⟩, ro445, ⟨ro446a, ro446b⟩, ⟨ro447a, ro447b⟩, ro448, ro449, ro440a, ro440b⟩ := ro44c
              obtain ⟨va45, vb45⟩ := tnV_in (f := (rmI (rm3 f bu F) bu n0)) (p := 0) (q := 255) ro42 (by decide)
              refine v_i2l (v := toL (tnV (rmI (rm3 f bu F) bu n0) 0 255)) C dX6_readMessage_73 rfl ?_
              refine v_bipush C dX6_readMessage_74 (by decide +kernel) ?_
              refine v_iload C dX6_readMessage_76 4 rfl ?_
              refine v_imul C dX6_readMessage_78 ?_
              refine v_lshl (v := shL (toL (tnV (rmI (rm3 f bu F) bu n0) 0 255)) (8 * ((n0 : Int) + 1))) C dX6_readMessage_79 rfl ?_
              refine v_lor C dX6_readMessage_80 ?_
              refine v_lstore_n C M dX6_readMessage_81 rfl (by decide) (L' := [(3, .long ((rmB (rm3 f bu F) (tnV (rm2 f bu F) 0 255) bu n0) ||| (shL (toL (tnV (rmI (rm3 f bu F) bu n0) 0 255)) (8 * ((n0 : Int) + 1))))), (0, .ref a), (1, .ref (ad 0)), (2, .ref (ad 4)), (5, vI ((n0 : Int) + 1))]) rfl ?_
              refine v_iinc C M dX6_readMessage_82 4 rfl (by decide) (z' := (((n0 : Int) + 1) + 1)) rfl (L' := [(5, vI (((n0 : Int) + 1) + 1)), (3, .long ((rmB (rm3 f bu F) (tnV (rm2 f bu F) 0 255) bu n0) ||| (shL (toL (tnV (rmI (rm3 f bu F) bu n0) 0 255)) (8 * ((n0 : Int) + 1))))), (0, .ref a), (1, .ref (ad 0)), (2, .ref (ad 4))]) rfl ?_
              refine v_goto (tgt := 42) C dX6_readMessage_85 (by decide) ?_
              refine V.loc (L' := [(0, .ref a), (1, .ref (ad 0)), (2, .ref (ad 4)), (3, .long ((rmB (rm3 f bu F) (tnV (rm2 f bu F) 0 255) bu n0) ||| (shL (toL (tnV (rmI (rm3 f bu F) bu n0) 0 255)) (8 * ((n0 : Int) + 1))))), (5, vI (((n0 : Int) + 1) + 1))]) [2, 3, 4, 1, 0] rfl ?_
              have key := ih (n0 + 1) (by omega) (fun j hj => by
                by_cases e : j = n0
                · rw [e]; exact fun h => h ⟨by omega, c53, c61⟩
                · exact hno j (by omega)) (by omega)
              rw [show rmI (rm3 f bu F) bu (n0 + 1) = tnR (rmI (rm3 f bu F) bu n0) bu 0 255 from rfl, show rmB (rm3 f bu F) (tnV (rm2 f bu F) 0 255) bu (n0 + 1) = (rmB (rm3 f bu F) (tnV (rm2 f bu F) 0 255) bu n0 ||| shL (toL (tnV (rmI (rm3 f bu F) bu n0) 0 255)) (8 * ((n0 : Int) + 1))) from rfl, show ((n0 + 1 : Nat) : Int) + 1 = (n0 : Int) + 1 + 1 by omega] at key
              exact key
    exact lp 9 0 (by omega) (fun j hj => absurd hj (by omega)) (by omega)
end C21
