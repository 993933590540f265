section C14
set_option maxHeartbeats 4000000 in
set_option maxRecDepth 100000 in
theorem c_X0_frames (G : GG) (l : Launch) (a b c : Nat) (ad wad : Nat → Nat) (F : Int → Int → Int) (K : Int → Int → Int64) (f pl : Int → Int) (ad2 : Nat → Nat) (F2 : Int → Int → Int) (K2 : Int → Int → Int64) (rd : Int) (hrd : rd = 0 ∨ rd = 1) (hz : F2 0 6 = 0 ∨ F2 0 6 = 1) (h : FOK rd K2 F2 600) : Ct G l yX0_frames (Cond.code yX0_frames cX0_frames 3 (some .int) :: wsL_law) 5 151 0 0 [.ref a, .ref (ad2 0), vI rd] ([(a, .inr (0, [.ref (ad 0), .ref (wad 0), .ref b]))] ++ (liW G ad F K) ++ (frW G b c (f) (pl)) ++ (liW G ad2 F2 K2)) (fun r w => ∃ f2 pl2 : Int → Int, r = some (vI (enV rd K2 F2 600)) ∧ w = [(a, .inr (0, [.ref (ad 0), .ref (wad 0), .ref b]))] ++ liW G ad (itL rd K2 F2 (enK rd K2 F2 600)) K2 ++ frW G b c f2 pl2 ++ liW G ad2 F2 K2) := by
  refine Ct.of (own := RX0) (cc := cX0_frames) (maxL := 3) (ret := (some .int)) (by decide) rfl rfl (Nat.le_of_ble_eq_true rfl) (fun X C E M hG hl => ?_)
  subst hG hl
  refine v_aload_n C dX0_frames_0 rfl 0 rfl ?_
  refine v_get (v := .ref (ad 0)) C inw_0 0 0 rfl (by decide) (List.mem_cons_of_mem _ mw_80) rfl rfl dX0_frames_1 ?_
  refine v_aload_n C dX0_frames_4 rfl 1 rfl ?_
  refine v_callV (na := 1) (wy := (Cond.code yX3_copyFrom cX3_copyFrom 2 none :: wsL_law)) (wc := (liW (vG X) ad F K) ++ (liW (vG X) ad2 F2 K2)) (wr := [(a, .inr (0, [.ref (ad 0), .ref (wad 0), .ref b]))] ++ (frW (vG X) b c (f) (pl))) C [.ref (ad2 0)] [] (c_X3_copyFrom _ _ ad F K ad2 F2 K2 hz) rfl (gwV mw_167 mw_582 mw_165 mw_166 mw_20) rfl (by decide +kernel) 0 rfl rfl rfl rfl (Sb.pl [1, 2, 3, 4, 5, 6, 7, 8, 9, 12, 13, 14, 15, 16, 17, 18, 19, 20, 0, 10, 11] rfl rfl) rfl rfl dX0_frames_5 (fun r w1 hp5_1 => ?_)
  obtain ⟨rfl, rfl⟩ := hp5_1
  refine V.sb (ws' := [(a, .inr (0, [.ref (ad 0), .ref (wad 0), .ref b]))] ++ (liW (vG X) ad F2 K2) ++ (frW (vG X) b c (f) (pl)) ++ (liW (vG X) ad2 F2 K2)) (Sb.pl [18, 0, 1, 2, 3, 4, 5, 6, 7, 8, 19, 20, 9, 10, 11, 12, 13, 14, 15, 16, 17] rfl rfl) ?_
  show V X 0 0 8 [(0, .ref a), (1, .ref (ad2 0)), (2, vI rd)] [] ([(a, .inr (0, [.ref (ad 0), .ref (wad 0), .ref b]))] ++ (liW (vG X) ad F2 K2) ++ (frW (vG X) b c (f) (pl)) ++ (liW (vG X) ad2 F2 K2))
  show V X 0 0 8 [(0, .ref a), (1, .ref (ad2 0)), (2, vI rd)] [] ([(a, .inr (0, [.ref (ad 0), .ref (wad 0), .ref b]))] ++ (liW (vG X) ad F2 K2) ++ (frW (vG X) b c (f) (pl)) ++ (liW (vG X) ad2 F2 K2))
  refine v_aload_n C dX0_frames_8 rfl 0 rfl ?_
  refine v_iload_n C dX0_frames_9 rfl 2 rfl ?_
  refine v_sipush C dX0_frames_10 (by decide +kernel) ?_
  refine v_callV (na := 2) (wy := (Cond.code yX0_framesToEnd cX0_framesToEnd 4 (some .int) :: wsL_law)) (wc := [(a, .inr (0, [.ref (ad 0), .ref (wad 0), .ref b]))] ++ (liW (vG X) ad F2 K2) ++ (frW (vG X) b c (f) (pl))) (wr := (liW (vG X) ad2 F2 K2)) C [vI rd, vI 600] [] (c_X0_fteN _ _ a (wad 0) b c ad F2 K2 (f) (pl) rd 600 hrd (show 0 ≤ 600 ∧ 600 ≤ 1000 by omega) h) rfl (gwV mw_591 mw_588 mw_589 mw_590 mw_30) rfl (by decide +kernel) 0 rfl rfl rfl rfl Sb.rf rfl rfl dX0_frames_13 (fun r w1 hp13_2 => ?_)
  obtain ⟨f13_3, p13_3, rfl, rfl⟩ := hp13_2
  show V X 0 0 16 [(0, .ref a), (1, .ref (ad2 0)), (2, vI rd)] [vI (enV rd K2 F2 600)] ([(a, .inr (0, [.ref (ad 0), .ref (wad 0), .ref b]))] ++ (liW (vG X) ad (itL rd K2 F2 (enK rd K2 F2 600)) K2) ++ (frW (vG X) b c (f13_3) (p13_3)) ++ (liW (vG X) ad2 F2 K2))
  show V X 0 0 16 [(0, .ref a), (1, .ref (ad2 0)), (2, vI rd)] [vI (enV rd K2 F2 600)] ([(a, .inr (0, [.ref (ad 0), .ref (wad 0), .ref b]))] ++ (liW (vG X) ad (itL rd K2 F2 (enK rd K2 F2 600)) K2) ++ (frW (vG X) b c (f13_3) (p13_3)) ++ (liW (vG X) ad2 F2 K2))
  exact v_iret C E rfl dX0_frames_16 (by decide) (by decide) (⟨_, _, rfl, rfl⟩)
set_option maxHeartbeats 4000000 in
set_option maxRecDepth 100000 in
theorem c_X0_ticksToEnd (G : GG) (l : Launch) (a b c : Nat) (wd : Nat) (ad : Nat → Nat) (F : Int → Int → Int) (K : Int → Int → Int64) (f pl : Int → Int) (rd : Int) (hrd : rd = 0 ∨ rd = 1) (h : FOK rd K F 600) : Ct G l yX0_ticksToEnd (Cond.code yX0_ticksToEnd cX0_ticksToEnd 3 (some .int) :: wsL_law) 5 151 0 0 [.ref a, vI rd] ([(a, .inr (0, [.ref (ad 0), .ref wd, .ref b]))] ++ (liW G ad F K) ++ (frW G b c (f) (pl))) (fun r w => ∃ f2 pl2 : Int → Int, r = some (vI (tkL rd K F)) ∧ w = [(a, .inr (0, [.ref (ad 0), .ref wd, .ref b]))] ++ liW G ad (itL rd K F (enK rd K F 600)) K ++ frW G b c f2 pl2) := by
  refine Ct.of (own := RX0) (cc := cX0_ticksToEnd) (maxL := 3) (ret := (some .int)) (by decide) rfl rfl (Nat.le_of_ble_eq_true rfl) (fun X C E M hG hl => ?_)
  subst hG hl
  have hv : sm (enV rd K F 600) := enV_sm (by decide)
  refine v_aload_n C dX0_ticksToEnd_0 rfl 0 rfl ?_
  refine v_get (v := .ref (ad 0)) C inw_0 0 0 rfl (by decide) (List.mem_cons_of_mem _ mw_80) rfl rfl dX0_ticksToEnd_1 ?_
  refine v_callV (na := 0) (wy := (Cond.code yX3_time cX3_time 1 (some .int) :: wsL_law)) (wc := (liW (vG X) ad F K)) (wr := [(a, .inr (0, [.ref (ad 0), .ref wd, .ref b]))] ++ (frW (vG X) b c (f) (pl))) C [] [] (c_X3_time _ _ ad F K) rfl (gwV mw_423 mw_587 mw_421 mw_422 mw_20) rfl (by decide +kernel) 0 rfl rfl rfl rfl (Sb.pl [1, 2, 3, 4, 5, 6, 7, 8, 9, 0, 10, 11] rfl rfl) rfl rfl dX0_ticksToEnd_4 (fun r w1 hp4_1 => ?_)
  obtain ⟨rfl, rfl⟩ := hp4_1
  refine V.sb (ws' := [(a, .inr (0, [.ref (ad 0), .ref wd, .ref b]))] ++ (liW (vG X) ad F K) ++ (frW (vG X) b c (f) (pl))) (Sb.pl [9, 0, 1, 2, 3, 4, 5, 6, 7, 8, 10, 11] rfl rfl) ?_
  show V X 0 0 7 [(0, .ref a), (1, vI rd)] [vI (tmL F)] ([(a, .inr (0, [.ref (ad 0), .ref wd, .ref b]))] ++ (liW (vG X) ad F K) ++ (frW (vG X) b c (f) (pl)))
  show V X 0 0 7 [(0, .ref a), (1, vI rd)] [vI (tmL F)] ([(a, .inr (0, [.ref (ad 0), .ref wd, .ref b]))] ++ (liW (vG X) ad F K) ++ (frW (vG X) b c (f) (pl)))
  refine v_istore_n C M dX0_ticksToEnd_7 rfl (by decide) (L' := [(2, vI (tmL F)), (0, .ref a), (1, vI rd)]) rfl ?_
  refine v_aload_n C dX0_ticksToEnd_8 rfl 1 rfl ?_
  refine v_iload_n C dX0_ticksToEnd_9 rfl 2 rfl ?_
  refine v_sipush C dX0_ticksToEnd_10 (by decide +kernel) ?_
  refine v_callV (na := 2) (wy := (Cond.code yX0_framesToEnd cX0_framesToEnd 4 (some .int) :: wsL_law)) (wc := [(a, .inr (0, [.ref (ad 0), .ref wd, .ref b]))] ++ (liW (vG X) ad F K) ++ (frW (vG X) b c (f) (pl))) (wr := []) C [vI rd, vI 600] [] (c_X0_fteN _ _ a wd b c ad F K (f) (pl) rd 600 hrd (show 0 ≤ 600 ∧ 600 ≤ 1000 by omega) h) rfl (gwV mw_591 mw_588 mw_589 mw_590 mw_30) rfl (by decide +kernel) 0 rfl rfl rfl rfl Sb.w rfl rfl dX0_ticksToEnd_13 (fun r w1 hp13_2 => ?_)
  obtain ⟨f13_3, p13_3, rfl, rfl⟩ := hp13_2
  show V X 0 0 16 [(2, vI (tmL F)), (0, .ref a), (1, vI rd)] [vI (enV rd K F 600)] ([(a, .inr (0, [.ref (ad 0), .ref wd, .ref b]))] ++ (liW (vG X) ad (itL rd K F (enK rd K F 600)) K) ++ (frW (vG X) b c (f13_3) (p13_3)))
  show V X 0 0 16 [(2, vI (tmL F)), (0, .ref a), (1, vI rd)] [vI (enV rd K F 600)] ([(a, .inr (0, [.ref (ad 0), .ref wd, .ref b]))] ++ (liW (vG X) ad (itL rd K F (enK rd K F 600)) K) ++ (frW (vG X) b c (f13_3) (p13_3)))
  refine v_iconst C dX0_ticksToEnd_16 ?_
  refine v_icmp_ne (tgt := 24) C dX0_ticksToEnd_17 (by decide) hv (by decide) (fun c17 => ?_) (fun c17 => ?_)
  · skip
    refine v_aload_n C dX0_ticksToEnd_24 rfl 1 rfl ?_
    refine v_get (v := .ref (ad 0)) C inw_0 0 0 rfl (by decide) (List.mem_cons_of_mem _ mw_80) rfl rfl dX0_ticksToEnd_25 ?_
    refine v_callV (na := 0) (wy := (Cond.code yX3_time cX3_time 1 (some .int) :: wsL_law)) (wc := (liW (vG X) ad (itL rd K F (enK rd K F 600)) K)) (wr := [(a, .inr (0, [.ref (ad 0), .ref wd, .ref b]))] ++ (frW (vG X) b c (f13_3) (p13_3))) C [] [] (c_X3_time _ _ ad (itL rd K F (enK rd K F 600)) K) rfl (gwV mw_423 mw_587 mw_421 mw_422 mw_20) rfl (by decide +kernel) 0 rfl rfl rfl rfl (Sb.pl [1, 2, 3, 4, 5, 6, 7, 8, 9, 0, 10, 11] rfl rfl) rfl rfl dX0_ticksToEnd_28 (fun r w1 hp28_4 => ?_)
    obtain ⟨rfl, rfl⟩ := hp28_4
    refine V.sb (ws' := [(a, .inr (0, [.ref (ad 0), .ref wd, .ref b]))] ++ (liW (vG X) ad (itL rd K F (enK rd K F 600)) K) ++ (frW (vG X) b c (f13_3) (p13_3))) (Sb.pl [9, 0, 1, 2, 3, 4, 5, 6, 7, 8, 10, 11] rfl rfl) ?_
    show V X 0 0 31 [(2, vI (tmL F)), (0, .ref a), (1, vI rd)] [vI (tmL (itL rd K F (enK rd K F 600)))] ([(a, .inr (0, [.ref (ad 0), .ref wd, .ref b]))] ++ (liW (vG X) ad (itL rd K F (enK rd K F 600)) K) ++ (frW (vG X) b c (f13_3) (p13_3)))
    show V X 0 0 31 [(2, vI (tmL F)), (0, .ref a), (1, vI rd)] [vI (tmL (itL rd K F (enK rd K F 600)))] ([(a, .inr (0, [.ref (ad 0), .ref wd, .ref b]))] ++ (liW (vG X) ad (itL rd K F (enK rd K F 600)) K) ++ (frW (vG X) b c (f13_3) (p13_3)))
    refine v_iload_n C dX0_ticksToEnd_31 rfl 0 rfl ?_
    refine v_isub C dX0_ticksToEnd_32 ?_
    exact v_iret C E rfl dX0_ticksToEnd_33 (by decide) (by decide) (⟨_, _, by rw [show tkL rd K F = _ from if_pos (enV_n.mp c17)], rfl⟩)
  · skip
    refine v_iconst C dX0_ticksToEnd_20 ?_
    refine v_goto (tgt := 33) C dX0_ticksToEnd_21 (by decide) ?_
    exact v_iret C E rfl dX0_ticksToEnd_33 (by decide) (by decide) (⟨_, _, by rw [show tkL rd K F = _ from if_neg (fun h => enV_n.mpr h c17)], rfl⟩)
set_option maxHeartbeats 4000000 in
set_option maxRecDepth 100000 in
theorem c_X0_ticks (G : GG) (l : Launch) (a b c : Nat) (ad wad : Nat → Nat) (F : Int → Int → Int) (K : Int → Int → Int64) (f pl : Int → Int) (ad2 : Nat → Nat) (F2 : Int → Int → Int) (K2 : Int → Int → Int64) (rd : Int) (hrd : rd = 0 ∨ rd = 1) (hz : F2 0 6 = 0 ∨ F2 0 6 = 1) (h : FOK rd K2 F2 600) : Ct G l yX0_ticks (Cond.code yX0_ticks cX0_ticks 3 (some .int) :: wsL_law) 6 173 0 0 [.ref a, .ref (ad2 0), vI rd] ([(a, .inr (0, [.ref (ad 0), .ref (wad 0), .ref b]))] ++ (liW G ad F K) ++ (frW G b c (f) (pl)) ++ (liW G ad2 F2 K2)) (fun r w => ∃ f2 pl2 : Int → Int, r = some (vI (tkL rd K2 F2)) ∧ w = [(a, .inr (0, [.ref (ad 0), .ref (wad 0), .ref b]))] ++ liW G ad (itL rd K2 F2 (enK rd K2 F2 600)) K2 ++ frW G b c f2 pl2 ++ liW G ad2 F2 K2) := by
  refine Ct.of (own := RX0) (cc := cX0_ticks) (maxL := 3) (ret := (some .int)) (by decide) rfl rfl (Nat.le_of_ble_eq_true rfl) (fun X C E M hG hl => ?_)
  subst hG hl
  refine v_aload_n C dX0_ticks_0 rfl 0 rfl ?_
  refine v_get (v := .ref (ad 0)) C inw_0 0 0 rfl (by decide) (List.mem_cons_of_mem _ mw_80) rfl rfl dX0_ticks_1 ?_
  refine v_aload_n C dX0_ticks_4 rfl 1 rfl ?_
  refine v_callV (na := 1) (wy := (Cond.code yX3_copyFrom cX3_copyFrom 2 none :: wsL_law)) (wc := (liW (vG X) ad F K) ++ (liW (vG X) ad2 F2 K2)) (wr := [(a, .inr (0, [.ref (ad 0), .ref (wad 0), .ref b]))] ++ (frW (vG X) b c (f) (pl))) C [.ref (ad2 0)] [] (c_X3_copyFrom _ _ ad F K ad2 F2 K2 hz) rfl (gwV mw_167 mw_582 mw_165 mw_166 mw_20) rfl (by decide +kernel) 0 rfl rfl rfl rfl (Sb.pl [1, 2, 3, 4, 5, 6, 7, 8, 9, 12, 13, 14, 15, 16, 17, 18, 19, 20, 0, 10, 11] rfl rfl) rfl rfl dX0_ticks_5 (fun r w1 hp5_1 => ?_)
  obtain ⟨rfl, rfl⟩ := hp5_1
  refine V.sb (ws' := [(a, .inr (0, [.ref (ad 0), .ref (wad 0), .ref b]))] ++ (liW (vG X) ad F2 K2) ++ (frW (vG X) b c (f) (pl)) ++ (liW (vG X) ad2 F2 K2)) (Sb.pl [18, 0, 1, 2, 3, 4, 5, 6, 7, 8, 19, 20, 9, 10, 11, 12, 13, 14, 15, 16, 17] rfl rfl) ?_
  show V X 0 0 8 [(0, .ref a), (1, .ref (ad2 0)), (2, vI rd)] [] ([(a, .inr (0, [.ref (ad 0), .ref (wad 0), .ref b]))] ++ (liW (vG X) ad F2 K2) ++ (frW (vG X) b c (f) (pl)) ++ (liW (vG X) ad2 F2 K2))
  show V X 0 0 8 [(0, .ref a), (1, .ref (ad2 0)), (2, vI rd)] [] ([(a, .inr (0, [.ref (ad 0), .ref (wad 0), .ref b]))] ++ (liW (vG X) ad F2 K2) ++ (frW (vG X) b c (f) (pl)) ++ (liW (vG X) ad2 F2 K2))
  refine v_aload_n C dX0_ticks_8 rfl 0 rfl ?_
  refine v_iload_n C dX0_ticks_9 rfl 2 rfl ?_
  refine v_callV (na := 1) (wy := (Cond.code yX0_ticksToEnd cX0_ticksToEnd 3 (some .int) :: wsL_law)) (wc := [(a, .inr (0, [.ref (ad 0), .ref (wad 0), .ref b]))] ++ (liW (vG X) ad F2 K2) ++ (frW (vG X) b c (f) (pl))) (wr := (liW (vG X) ad2 F2 K2)) C [vI rd] [] (c_X0_ticksToEnd _ _ a b c (wad 0) ad F2 K2 (f) (pl) rd hrd h) rfl (gwV mw_586 mw_583 mw_584 mw_585 mw_30) rfl (by decide +kernel) 0 rfl rfl rfl rfl Sb.rf rfl rfl dX0_ticks_10 (fun r w1 hp10_2 => ?_)
  obtain ⟨f10_3, p10_3, rfl, rfl⟩ := hp10_2
  show V X 0 0 13 [(0, .ref a), (1, .ref (ad2 0)), (2, vI rd)] [vI (tkL rd K2 F2)] ([(a, .inr (0, [.ref (ad 0), .ref (wad 0), .ref b]))] ++ (liW (vG X) ad (itL rd K2 F2 (enK rd K2 F2 600)) K2) ++ (frW (vG X) b c (f10_3) (p10_3)) ++ (liW (vG X) ad2 F2 K2))
  show V X 0 0 13 [(0, .ref a), (1, .ref (ad2 0)), (2, vI rd)] [vI (tkL rd K2 F2)] ([(a, .inr (0, [.ref (ad 0), .ref (wad 0), .ref b]))] ++ (liW (vG X) ad (itL rd K2 F2 (enK rd K2 F2 600)) K2) ++ (frW (vG X) b c (f10_3) (p10_3)) ++ (liW (vG X) ad2 F2 K2))
  exact v_iret C E rfl dX0_ticks_13 (by decide) (by decide) (⟨_, _, rfl, rfl⟩)
set_option maxHeartbeats 4000000 in
set_option maxRecDepth 100000 in
theorem c_X0_delayBy (G : GG) (l : Launch) (a b c : Nat) (ad wad : Nat → Nat) (F : Int → Int → Int) (K : Int → Int → Int64) (f pl : Int → Int) (ad2 : Nat → Nat) (F2 : Int → Int → Int) (K2 : Int → Int → Int64) (lost : Int) (hz : F2 0 6 = 0 ∨ F2 0 6 = 1) (h : FOK 1 K2 F2 600) (hlo : FOK 1 K2 (up F2 0 (up (F2 0) 9 lost)) 600) (hs : sm (tkL 1 K2 F2)) (hs2 : sm (tkL 1 K2 (up F2 0 (up (F2 0) 9 lost)))) : Ct G l yX0_delayBy (Cond.code yX0_delayBy cX0_delayBy 5 (some .int) :: wsL_law) 6 173 0 0 [.ref a, .ref (ad2 0), vI lost] ([(a, .inr (0, [.ref (ad 0), .ref (wad 0), .ref b]))] ++ (liW G ad F K) ++ (frW G b c (f) (pl)) ++ (liW G ad2 F2 K2)) (fun r w => ∃ (F1 : Int → Int → Int) (f2 pl2 : Int → Int), r = some (vI (dyL K2 F2 lost)) ∧ w = [(a, .inr (0, [.ref (ad 0), .ref (wad 0), .ref b]))] ++ liW G ad F1 K2 ++ frW G b c f2 pl2 ++ liW G ad2 F2 K2) := by
  refine Ct.of (own := RX0) (cc := cX0_delayBy) (maxL := 5) (ret := (some .int)) (by decide) rfl rfl (Nat.le_of_ble_eq_true rfl) (fun X C E M hG hl => ?_)
  subst hG hl
  refine v_aload_n C dX0_delayBy_0 rfl 0 rfl ?_
  refine v_get (v := .ref (ad 0)) C inw_0 0 0 rfl (by decide) (List.mem_cons_of_mem _ mw_80) rfl rfl dX0_delayBy_1 ?_
  refine v_aload_n C dX0_delayBy_4 rfl 1 rfl ?_
  refine v_callV (na := 1) (wy := (Cond.code yX3_copyFrom cX3_copyFrom 2 none :: wsL_law)) (wc := (liW (vG X) ad F K) ++ (liW (vG X) ad2 F2 K2)) (wr := [(a, .inr (0, [.ref (ad 0), .ref (wad 0), .ref b]))] ++ (frW (vG X) b c (f) (pl))) C [.ref (ad2 0)] [] (c_X3_copyFrom _ _ ad F K ad2 F2 K2 hz) rfl (gwV mw_167 mw_582 mw_165 mw_166 mw_20) rfl (by decide +kernel) 0 rfl rfl rfl rfl (Sb.pl [1, 2, 3, 4, 5, 6, 7, 8, 9, 12, 13, 14, 15, 16, 17, 18, 19, 20, 0, 10, 11] rfl rfl) rfl rfl dX0_delayBy_5 (fun r w1 hp5_1 => ?_)
  obtain ⟨rfl, rfl⟩ := hp5_1
  refine V.sb (ws' := [(a, .inr (0, [.ref (ad 0), .ref (wad 0), .ref b]))] ++ (liW (vG X) ad F2 K2) ++ (frW (vG X) b c (f) (pl)) ++ (liW (vG X) ad2 F2 K2)) (Sb.pl [18, 0, 1, 2, 3, 4, 5, 6, 7, 8, 19, 20, 9, 10, 11, 12, 13, 14, 15, 16, 17] rfl rfl) ?_
  show V X 0 0 8 [(0, .ref a), (1, .ref (ad2 0)), (2, vI lost)] [] ([(a, .inr (0, [.ref (ad 0), .ref (wad 0), .ref b]))] ++ (liW (vG X) ad F2 K2) ++ (frW (vG X) b c (f) (pl)) ++ (liW (vG X) ad2 F2 K2))
  show V X 0 0 8 [(0, .ref a), (1, .ref (ad2 0)), (2, vI lost)] [] ([(a, .inr (0, [.ref (ad 0), .ref (wad 0), .ref b]))] ++ (liW (vG X) ad F2 K2) ++ (frW (vG X) b c (f) (pl)) ++ (liW (vG X) ad2 F2 K2))
  refine v_aload_n C dX0_delayBy_8 rfl 0 rfl ?_
  refine v_iconst C dX0_delayBy_9 ?_
  refine v_callV (na := 1) (wy := (Cond.code yX0_ticksToEnd cX0_ticksToEnd 3 (some .int) :: wsL_law)) (wc := [(a, .inr (0, [.ref (ad 0), .ref (wad 0), .ref b]))] ++ (liW (vG X) ad F2 K2) ++ (frW (vG X) b c (f) (pl))) (wr := (liW (vG X) ad2 F2 K2)) C [vI 1] [] (c_X0_ticksToEnd _ _ a b c (wad 0) ad F2 K2 (f) (pl) 1 (by decide) h) rfl (gwV mw_586 mw_583 mw_584 mw_585 mw_30) rfl (by decide +kernel) 0 rfl rfl rfl rfl Sb.rf rfl rfl dX0_delayBy_10 (fun r w1 hp10_2 => ?_)
  obtain ⟨f10_3, p10_3, rfl, rfl⟩ := hp10_2
  show V X 0 0 13 [(0, .ref a), (1, .ref (ad2 0)), (2, vI lost)] [vI (tkL 1 K2 F2)] ([(a, .inr (0, [.ref (ad 0), .ref (wad 0), .ref b]))] ++ (liW (vG X) ad (itL 1 K2 F2 (enK 1 K2 F2 600)) K2) ++ (frW (vG X) b c (f10_3) (p10_3)) ++ (liW (vG X) ad2 F2 K2))
  show V X 0 0 13 [(0, .ref a), (1, .ref (ad2 0)), (2, vI lost)] [vI (tkL 1 K2 F2)] ([(a, .inr (0, [.ref (ad 0), .ref (wad 0), .ref b]))] ++ (liW (vG X) ad (itL 1 K2 F2 (enK 1 K2 F2 600)) K2) ++ (frW (vG X) b c (f10_3) (p10_3)) ++ (liW (vG X) ad2 F2 K2))
  refine v_istore_n C M dX0_delayBy_13 rfl (by decide) (L' := [(3, vI (tkL 1 K2 F2)), (0, .ref a), (1, .ref (ad2 0)), (2, vI lost)]) rfl ?_
  refine v_aload_n C dX0_delayBy_14 rfl 1 rfl ?_
  refine v_get (v := .ref (ad 0)) C inw_0 0 0 rfl (by decide) (List.mem_cons_of_mem _ mw_80) rfl rfl dX0_delayBy_15 ?_
  refine v_aload_n C dX0_delayBy_18 rfl 2 rfl ?_
  refine v_callV (na := 1) (wy := (Cond.code yX3_copyFrom cX3_copyFrom 2 none :: wsL_law)) (wc := (liW (vG X) ad (itL 1 K2 F2 (enK 1 K2 F2 600)) K2) ++ (liW (vG X) ad2 F2 K2)) (wr := [(a, .inr (0, [.ref (ad 0), .ref (wad 0), .ref b]))] ++ (frW (vG X) b c (f10_3) (p10_3))) C [.ref (ad2 0)] [] (c_X3_copyFrom _ _ ad (itL 1 K2 F2 (enK 1 K2 F2 600)) K2 ad2 F2 K2 hz) rfl (gwV mw_167 mw_582 mw_165 mw_166 mw_20) rfl (by decide +kernel) 0 rfl rfl rfl rfl (Sb.pl [1, 2, 3, 4, 5, 6, 7, 8, 9, 12, 13, 14, 15, 16, 17, 18, 19, 20, 0, 10, 11] rfl rfl) rfl rfl dX0_delayBy_19 (fun r w1 hp19_4 => ?_)
  obtain ⟨rfl, rfl⟩ := hp19_4
  refine V.sb (ws' := [(a, .inr (0, [.ref (ad 0), .ref (wad 0), .ref b]))] ++ (liW (vG X) ad F2 K2) ++ (frW (vG X) b c (f10_3) (p10_3)) ++ (liW (vG X) ad2 F2 K2)) (Sb.pl [18, 0, 1, 2, 3, 4, 5, 6, 7, 8, 19, 20, 9, 10, 11, 12, 13, 14, 15, 16, 17] rfl rfl) ?_
  show V X 0 0 22 [(3, vI (tkL 1 K2 F2)), (0, .ref a), (1, .ref (ad2 0)), (2, vI lost)] [] ([(a, .inr (0, [.ref (ad 0), .ref (wad 0), .ref b]))] ++ (liW (vG X) ad F2 K2) ++ (frW (vG X) b c (f10_3) (p10_3)) ++ (liW (vG X) ad2 F2 K2))
  show V X 0 0 22 [(3, vI (tkL 1 K2 F2)), (0, .ref a), (1, .ref (ad2 0)), (2, vI lost)] [] ([(a, .inr (0, [.ref (ad 0), .ref (wad 0), .ref b]))] ++ (liW (vG X) ad F2 K2) ++ (frW (vG X) b c (f10_3) (p10_3)) ++ (liW (vG X) ad2 F2 K2))
  refine v_aload_n C dX0_delayBy_22 rfl 1 rfl ?_
  refine v_get (v := .ref (ad 0)) C inw_0 0 0 rfl (by decide) (List.mem_cons_of_mem _ mw_80) rfl rfl dX0_delayBy_23 ?_
  refine v_iload_n C dX0_delayBy_26 rfl 3 rfl ?_
  refine v_putN C inw_3 tyX3 tyX3_ok nmX3 1 10 rfl (by decide) nw_36 rfl rfl rfl rfl (Nat.le_of_ble_eq_true rfl) dX0_delayBy_27 (ws' := [(a, .inr (0, [.ref (ad 0), .ref (wad 0), .ref b]))] ++ (liW (vG X) ad (up F2 0 (up (F2 0) 9 lost)) K2) ++ (frW (vG X) b c (f10_3) (p10_3)) ++ (liW (vG X) ad2 F2 K2)) rfl ?_
  refine v_aload_n C dX0_delayBy_30 rfl 1 rfl ?_
  refine v_iconst C dX0_delayBy_31 ?_
  refine v_callV (na := 1) (wy := (Cond.code yX0_ticksToEnd cX0_ticksToEnd 3 (some .int) :: wsL_law)) (wc := [(a, .inr (0, [.ref (ad 0), .ref (wad 0), .ref b]))] ++ (liW (vG X) ad (up F2 0 (up (F2 0) 9 lost)) K2) ++ (frW (vG X) b c (f10_3) (p10_3))) (wr := (liW (vG X) ad2 F2 K2)) C [vI 1] [] (c_X0_ticksToEnd _ _ a b c (wad 0) ad (up F2 0 (up (F2 0) 9 lost)) K2 (f10_3) (p10_3) 1 (by decide) hlo) rfl (gwV mw_586 mw_583 mw_584 mw_585 mw_30) rfl (by decide +kernel) 0 rfl rfl rfl rfl Sb.rf rfl rfl dX0_delayBy_32 (fun r w1 hp32_5 => ?_)
  obtain ⟨f32_6, p32_6, rfl, rfl⟩ := hp32_5
  show V X 0 0 35 [(3, vI (tkL 1 K2 F2)), (0, .ref a), (1, .ref (ad2 0)), (2, vI lost)] [vI (tkL 1 K2 (up F2 0 (up (F2 0) 9 lost)))] ([(a, .inr (0, [.ref (ad 0), .ref (wad 0), .ref b]))] ++ (liW (vG X) ad (itL 1 K2 (up F2 0 (up (F2 0) 9 lost)) (enK 1 K2 (up F2 0 (up (F2 0) 9 lost)) 600)) K2) ++ (frW (vG X) b c (f32_6) (p32_6)) ++ (liW (vG X) ad2 F2 K2))
  show V X 0 0 35 [(3, vI (tkL 1 K2 F2)), (0, .ref a), (1, .ref (ad2 0)), (2, vI lost)] [vI (tkL 1 K2 (up F2 0 (up (F2 0) 9 lost)))] ([(a, .inr (0, [.ref (ad 0), .ref (wad 0), .ref b]))] ++ (liW (vG X) ad (itL 1 K2 (up F2 0 (up (F2 0) 9 lost)) (enK 1 K2 (up F2 0 (up (F2 0) 9 lost)) 600)) K2) ++ (frW (vG X) b c (f32_6) (p32_6)) ++ (liW (vG X) ad2 F2 K2))
  refine v_istore C M dX0_delayBy_35 (by decide) (L' := [(4, vI (tkL 1 K2 (up F2 0 (up (F2 0) 9 lost)))), (3, vI (tkL 1 K2 F2)), (0, .ref a), (1, .ref (ad2 0)), (2, vI lost)]) rfl ?_
  refine v_iload_n C dX0_delayBy_37 rfl 1 rfl ?_
  refine v_iconst C dX0_delayBy_38 ?_
  refine v_icmp_eq (tgt := 48) C dX0_delayBy_39 (by decide) hs (by decide) (fun c39 => ?_) (fun c39 => ?_)
  · skip
    refine v_sipush C dX0_delayBy_48 (by decide +kernel) ?_
    refine v_goto (tgt := 58) C dX0_delayBy_51 (by decide) ?_
    exact v_iret C E rfl dX0_delayBy_58 (by decide) (by decide) (⟨_, _, _, by rw [show dyL K2 F2 lost = _ from if_pos (Or.inl c39)], rfl⟩)
  · skip
    refine v_iload C dX0_delayBy_42 0 rfl ?_
    refine v_iconst C dX0_delayBy_44 ?_
    refine v_icmp_ne (tgt := 54) C dX0_delayBy_45 (by decide) hs2 (by decide) (fun c45 => ?_) (fun c45 => ?_)
    · skip
      refine v_iload C dX0_delayBy_54 0 rfl ?_
      refine v_iload_n C dX0_delayBy_56 rfl 1 rfl ?_
      refine v_isub C dX0_delayBy_57 ?_
      exact v_iret C E rfl dX0_delayBy_58 (by decide) (by decide) (⟨_, _, _, by rw [show dyL K2 F2 lost = _ from if_neg (fun h => h.elim c39 c45)], rfl⟩)
    · skip
      refine v_sipush C dX0_delayBy_48 (by decide +kernel) ?_
      refine v_goto (tgt := 58) C dX0_delayBy_51 (by decide) ?_
      exact v_iret C E rfl dX0_delayBy_58 (by decide) (by decide) (⟨_, _, _, by rw [show dyL K2 F2 lost = _ from if_pos (Or.inr c45)], rfl⟩)
set_option maxHeartbeats 4000000 in
set_option maxRecDepth 100000 in
theorem c_X0_bestBurstOf (G : GG) (l : Launch) (a b c : Nat) (ad wad : Nat → Nat) (F : Int → Int → Int) (K : Int → Int → Int64) (f pl : Int → Int) (ad2 : Nat → Nat) (F2 : Int → Int → Int) (K2 : Int → Int → Int64) (hz : F2 0 6 = 0 ∨ F2 0 6 = 1) (h : ∀ n : Int, 1 ≤ n → n ≤ 7 → FOK 1 K2 (up F2 0 (up (F2 0) 4 n)) 600 ∧ sm (tkL 1 K2 (up F2 0 (up (F2 0) 4 n)))) : Ct G l yX0_bestBurstOf (Cond.code yX0_bestBurstOf cX0_bestBurstOf 6 (some .int) :: wsL_law) 6 173 0 0 [.ref a, .ref (ad2 0)] ([(a, .inr (0, [.ref (ad 0), .ref (wad 0), .ref b]))] ++ (liW G ad F K) ++ (frW G b c (f) (pl)) ++ (liW G ad2 F2 K2)) (fun r w => ∃ (F1 : Int → Int → Int) (K1 : Int → Int → Int64) (f2 pl2 : Int → Int), r = some (vI (bbL K2 F2 7).1) ∧ w = [(a, .inr (0, [.ref (ad 0), .ref (wad 0), .ref b]))] ++ liW G ad F1 K1 ++ frW G b c f2 pl2 ++ liW G ad2 F2 K2) := by
  refine Ct.of (own := RX0) (cc := cX0_bestBurstOf) (maxL := 6) (ret := (some .int)) (by decide) rfl rfl (Nat.le_of_ble_eq_true rfl) (fun X C E M hG hl => ?_)
  subst hG hl
  refine v_iconst C dX0_bestBurstOf_0 ?_
  refine v_istore_n C M dX0_bestBurstOf_1 rfl (by decide) (L' := [(2, vI (-1)), (0, .ref a), (1, .ref (ad2 0))]) rfl ?_
  refine v_iconst C dX0_bestBurstOf_2 ?_
  refine v_istore_n C M dX0_bestBurstOf_3 rfl (by decide) (L' := [(3, vI (-1)), (2, vI (-1)), (0, .ref a), (1, .ref (ad2 0))]) rfl ?_
  refine v_iconst C dX0_bestBurstOf_4 ?_
  refine v_istore C M dX0_bestBurstOf_5 (by decide) (L' := [(4, vI 1), (3, vI (-1)), (2, vI (-1)), (0, .ref a), (1, .ref (ad2 0))]) rfl ?_
  refine V.loc (L' := [(0, .ref a), (1, .ref (ad2 0)), (2, vI (-1)), (3, vI (-1)), (4, vI 1)]) [3, 4, 2, 1, 0] rfl ?_
  have lp : ∀ (n : Nat) (n0 : Nat) (G0 : Int → Int → Int) (K0 : Int → Int → Int64) (f2 : Int → Int) (p2 : Int → Int) (hn0 : n0 ≤ 7) (hm : 7 - (n0 : Int) < (n : Int)), V X 0 0 7 [(0, .ref a), (1, .ref (ad2 0)), (2, vI (bbL K2 F2 n0).1), (3, vI (bbL K2 F2 n0).2), (4, vI ((n0 : Int) + 1))] [] ([(a, .inr (0, [.ref (ad 0), .ref (wad 0), .ref b]))] ++ (liW (vG X) ad G0 K0) ++ (frW (vG X) b c (f2) (p2)) ++ (liW (vG X) ad2 F2 K2)) := by
    intro n
    induction n with
    | zero => intro n0 G0 K0 f2 p2 hn0 hm; exact absurd hm (by omega)
    | succ n ih =>
      intro n0 G0 K0 f2 p2 hn0 hm
      have hbs := bbL_sm (K := K2) (F := F2) (fun n a b => (h n a b).2) n0 (by omega)
      obtain ⟨hb1, hb2⟩ := hbs
      refine v_iload C dX0_bestBurstOf_7 4 rfl ?_
      refine v_bipush C dX0_bestBurstOf_9 (by decide +kernel) ?_
      refine v_icmp_gt (tgt := 67) C dX0_bestBurstOf_11 (by decide) ⟨by omega, by omega⟩ (by decide) (fun c11 => ?_) (fun c11 => ?_)
      · skip
        refine v_iload_n C dX0_bestBurstOf_67 rfl 2 rfl ?_
        obtain rfl : n0 = 7 := by omega
        exact v_iret C E rfl dX0_bestBurstOf_68 (by decide) (by decide) (⟨_, _, _, _, rfl, rfl⟩)
      · skip
        have ht := (h ((n0 : Int) + 1) (by omega) (by omega)).2
        refine v_aload_n C dX0_bestBurstOf_14 rfl 0 rfl ?_
        refine v_get (v := .ref (ad 0)) C inw_0 0 0 rfl (by decide) (List.mem_cons_of_mem _ mw_80) rfl rfl dX0_bestBurstOf_15 ?_
        refine v_aload_n C dX0_bestBurstOf_18 rfl 1 rfl ?_
        refine v_callV (na := 1) (wy := (Cond.code yX3_copyFrom cX3_copyFrom 2 none :: wsL_law)) (wc := (liW (vG X) ad G0 K0) ++ (liW (vG X) ad2 F2 K2)) (wr := [(a, .inr (0, [.ref (ad 0), .ref (wad 0), .ref b]))] ++ (frW (vG X) b c (f2) (p2))) C [.ref (ad2 0)] [] (c_X3_copyFrom _ _ ad G0 K0 ad2 F2 K2 hz) rfl (gwV mw_167 mw_582 mw_165 mw_166 mw_20) rfl (by decide +kernel) 0 rfl rfl rfl rfl (Sb.pl [1, 2, 3, 4, 5, 6, 7, 8, 9, 12, 13, 14, 15, 16, 17, 18, 19, 20, 0, 10, 11] rfl rfl) rfl rfl dX0_bestBurstOf_19 (fun r w1 hp19_1 => ?_)
        obtain ⟨rfl, rfl⟩ := hp19_1
        refine V.sb (ws' := [(a, .inr (0, [.ref (ad 0), .ref (wad 0), .ref b]))] ++ (liW (vG X) ad F2 K2) ++ (frW (vG X) b c (f2) (p2)) ++ (liW (vG X) ad2 F2 K2)) (Sb.pl [18, 0, 1, 2, 3, 4, 5, 6, 7, 8, 19, 20, 9, 10, 11, 12, 13, 14, 15, 16, 17] rfl rfl) ?_
        show V X 0 0 22 [(0, .ref a), (1, .ref (ad2 0)), (2, vI (bbL K2 F2 n0).1), (3, vI (bbL K2 F2 n0).2), (4, vI ((n0 : Int) + 1))] [] ([(a, .inr (0, [.ref (ad 0), .ref (wad 0), .ref b]))] ++ (liW (vG X) ad F2 K2) ++ (frW (vG X) b c (f2) (p2)) ++ (liW (vG X) ad2 F2 K2))
        show V X 0 0 22 [(0, .ref a), (1, .ref (ad2 0)), (2, vI (bbL K2 F2 n0).1), (3, vI (bbL K2 F2 n0).2), (4, vI ((n0 : Int) + 1))] [] ([(a, .inr (0, [.ref (ad 0), .ref (wad 0), .ref b]))] ++ (liW (vG X) ad F2 K2) ++ (frW (vG X) b c (f2) (p2)) ++ (liW (vG X) ad2 F2 K2))
        refine v_aload_n C dX0_bestBurstOf_22 rfl 0 rfl ?_
        refine v_get (v := .ref (ad 0)) C inw_0 0 0 rfl (by decide) (List.mem_cons_of_mem _ mw_80) rfl rfl dX0_bestBurstOf_23 ?_
        refine v_iload C dX0_bestBurstOf_26 4 rfl ?_
        refine v_putN C inw_3 tyX3 tyX3_ok nmX3 1 5 rfl (by decide) nw_30 rfl rfl rfl rfl (Nat.le_of_ble_eq_true rfl) dX0_bestBurstOf_28 (ws' := [(a, .inr (0, [.ref (ad 0), .ref (wad 0), .ref b]))] ++ (liW (vG X) ad (up F2 0 (up (F2 0) 4 ((n0 : Int) + 1))) K2) ++ (frW (vG X) b c (f2) (p2)) ++ (liW (vG X) ad2 F2 K2)) rfl ?_
        refine v_aload_n C dX0_bestBurstOf_31 rfl 0 rfl ?_
        refine v_iconst C dX0_bestBurstOf_32 ?_
        refine v_callV (na := 1) (wy := (Cond.code yX0_ticksToEnd cX0_ticksToEnd 3 (some .int) :: wsL_law)) (wc := [(a, .inr (0, [.ref (ad 0), .ref (wad 0), .ref b]))] ++ (liW (vG X) ad (up F2 0 (up (F2 0) 4 ((n0 : Int) + 1))) K2) ++ (frW (vG X) b c (f2) (p2))) (wr := (liW (vG X) ad2 F2 K2)) C [vI 1] [] (c_X0_ticksToEnd _ _ a b c (wad 0) ad (up F2 0 (up (F2 0) 4 ((n0 : Int) + 1))) K2 (f2) (p2) 1 (by decide) (h ((n0 : Int) + 1) (by omega) (by omega)).1) rfl (gwV mw_586 mw_583 mw_584 mw_585 mw_30) rfl (by decide +kernel) 0 rfl rfl rfl rfl Sb.rf rfl rfl dX0_bestBurstOf_33 (fun r w1 hp33_2 => ?_)
        obtain ⟨f33_3, p33_3, rfl, rfl⟩ := hp33_2
        show V X 0 0 36 [(0, .ref a), (1, .ref (ad2 0)), (2, vI (bbL K2 F2 n0).1), (3, vI (bbL K2 F2 n0).2), (4, vI ((n0 : Int) + 1))] [vI (tkL 1 K2 (up F2 0 (up (F2 0) 4 ((n0 : Int) + 1))))] ([(a, .inr (0, [.ref (ad 0), .ref (wad 0), .ref b]))] ++ (liW (vG X) ad (itL 1 K2 (up F2 0 (up (F2 0) 4 ((n0 : Int) + 1))) (enK 1 K2 (up F2 0 (up (F2 0) 4 ((n0 : Int) + 1))) 600)) K2) ++ (frW (vG X) b c (f33_3) (p33_3)) ++ (liW (vG X) ad2 F2 K2))
        show V X 0 0 36 [(0, .ref a), (1, .ref (ad2 0)), (2, vI (bbL K2 F2 n0).1), (3, vI (bbL K2 F2 n0).2), (4, vI ((n0 : Int) + 1))] [vI (tkL 1 K2 (up F2 0 (up (F2 0) 4 ((n0 : Int) + 1))))] ([(a, .inr (0, [.ref (ad 0), .ref (wad 0), .ref b]))] ++ (liW (vG X) ad (itL 1 K2 (up F2 0 (up (F2 0) 4 ((n0 : Int) + 1))) (enK 1 K2 (up F2 0 (up (F2 0) 4 ((n0 : Int) + 1))) 600)) K2) ++ (frW (vG X) b c (f33_3) (p33_3)) ++ (liW (vG X) ad2 F2 K2))
        refine v_istore C M dX0_bestBurstOf_36 (by decide) (L' := [(5, vI (tkL 1 K2 (up F2 0 (up (F2 0) 4 ((n0 : Int) + 1))))), (0, .ref a), (1, .ref (ad2 0)), (2, vI (bbL K2 F2 n0).1), (3, vI (bbL K2 F2 n0).2), (4, vI ((n0 : Int) + 1))]) rfl ?_
        refine v_iload C dX0_bestBurstOf_38 0 rfl ?_
        refine v_iconst C dX0_bestBurstOf_40 ?_
        refine v_icmp_eq (tgt := 61) C dX0_bestBurstOf_41 (by decide) ht (by decide) (fun c41 => ?_) (fun c41 => ?_)
        · skip
          refine v_iinc C M dX0_bestBurstOf_61 5 rfl (by decide) (z' := (((n0 : Int) + 1) + 1)) rfl (L' := [(4, vI (((n0 : Int) + 1) + 1)), (5, vI (tkL 1 K2 (up F2 0 (up (F2 0) 4 ((n0 : Int) + 1))))), (0, .ref a), (1, .ref (ad2 0)), (2, vI (bbL K2 F2 n0).1), (3, vI (bbL K2 F2 n0).2)]) rfl ?_
          refine v_goto (tgt := 7) C dX0_bestBurstOf_64 (by decide) ?_
          refine V.loc (L' := [(0, .ref a), (1, .ref (ad2 0)), (2, vI (bbL K2 F2 n0).1), (3, vI (bbL K2 F2 n0).2), (4, vI (((n0 : Int) + 1) + 1))]) [2, 3, 4, 5, 0] rfl ?_
          have key := ih (n0 + 1) (itL 1 K2 (up F2 0 (up (F2 0) 4 ((n0 : Int) + 1))) (enK 1 K2 (up F2 0 (up (F2 0) 4 ((n0 : Int) + 1))) 600)) K2 (f33_3) (p33_3) (by omega) (by omega)
          have e : bbL K2 F2 (n0 + 1) = bbL K2 F2 n0 := if_neg (fun h => h.1 c41)
          have e1 : (bbL K2 F2 (n0 + 1)).1 = (bbL K2 F2 n0).1 := by rw [e]
          have e2 : (bbL K2 F2 (n0 + 1)).2 = (bbL K2 F2 n0).2 := by rw [e]
          rw [e1, e2, show ((n0 + 1 : Nat) : Int) + 1 = (n0 : Int) + 1 + 1 by omega] at key
          exact key
        · skip
          refine v_iload_n C dX0_bestBurstOf_44 rfl 3 rfl ?_
          refine v_iconst C dX0_bestBurstOf_45 ?_
          refine v_icmp_eq (tgt := 55) C dX0_bestBurstOf_46 (by decide) hb1 (by decide) (fun c46 => ?_) (fun c46 => ?_)
          · skip
            refine v_iload C dX0_bestBurstOf_55 5 rfl ?_
            refine v_istore_n C M dX0_bestBurstOf_57 rfl (by decide) (L' := [(2, vI ((n0 : Int) + 1)), (5, vI (tkL 1 K2 (up F2 0 (up (F2 0) 4 ((n0 : Int) + 1))))), (0, .ref a), (1, .ref (ad2 0)), (3, vI (bbL K2 F2 n0).2), (4, vI ((n0 : Int) + 1))]) rfl ?_
            refine v_iload C dX0_bestBurstOf_58 1 rfl ?_
            refine v_istore_n C M dX0_bestBurstOf_60 rfl (by decide) (L' := [(3, vI (tkL 1 K2 (up F2 0 (up (F2 0) 4 ((n0 : Int) + 1))))), (2, vI ((n0 : Int) + 1)), (5, vI (tkL 1 K2 (up F2 0 (up (F2 0) 4 ((n0 : Int) + 1))))), (0, .ref a), (1, .ref (ad2 0)), (4, vI ((n0 : Int) + 1))]) rfl ?_
            refine v_iinc C M dX0_bestBurstOf_61 5 rfl (by decide) (z' := (((n0 : Int) + 1) + 1)) rfl (L' := [(4, vI (((n0 : Int) + 1) + 1)), (3, vI (tkL 1 K2 (up F2 0 (up (F2 0) 4 ((n0 : Int) + 1))))), (2, vI ((n0 : Int) + 1)), (5, vI (tkL 1 K2 (up F2 0 (up (F2 0) 4 ((n0 : Int) + 1))))), (0, .ref a), (1, .ref (ad2 0))]) rfl ?_
            refine v_goto (tgt := 7) C dX0_bestBurstOf_64 (by decide) ?_
            refine V.loc (L' := [(0, .ref a), (1, .ref (ad2 0)), (2, vI ((n0 : Int) + 1)), (3, vI (tkL 1 K2 (up F2 0 (up (F2 0) 4 ((n0 : Int) + 1))))), (4, vI (((n0 : Int) + 1) + 1))]) [4, 5, 2, 1, 0] rfl ?_
            have key := ih (n0 + 1) (itL 1 K2 (up F2 0 (up (F2 0) 4 ((n0 : Int) + 1))) (enK 1 K2 (up F2 0 (up (F2 0) 4 ((n0 : Int) + 1))) 600)) K2 (f33_3) (p33_3) (by omega) (by omega)
            have e : bbL K2 F2 (n0 + 1) = ((n0 : Int) + 1, (tkL 1 K2 (up F2 0 (up (F2 0) 4 ((n0 : Int) + 1))))) := if_pos ⟨c41, Or.inl c46⟩
            have e1 : (bbL K2 F2 (n0 + 1)).1 = (n0 : Int) + 1 := by rw [e]
            have e2 : (bbL K2 F2 (n0 + 1)).2 = (tkL 1 K2 (up F2 0 (up (F2 0) 4 ((n0 : Int) + 1)))) := by rw [e]
            rw [e1, e2, show ((n0 + 1 : Nat) : Int) + 1 = (n0 : Int) + 1 + 1 by omega] at key
            exact key
          · skip
            refine v_iload C dX0_bestBurstOf_49 0 rfl ?_
            refine v_iload_n C dX0_bestBurstOf_51 rfl 4 rfl ?_
            refine v_icmp_ge (tgt := 61) C dX0_bestBurstOf_52 (by decide) ht hb2 (fun c52 => ?_) (fun c52 => ?_)
            · skip
              refine v_iinc C M dX0_bestBurstOf_61 5 rfl (by decide) (z' := (((n0 : Int) + 1) + 1)) rfl (L' := [(4, vI (((n0 : Int) + 1) + 1)), (5, vI (tkL 1 K2 (up F2 0 (up (F2 0) 4 ((n0 : Int) + 1))))), (0, .ref a), (1, .ref (ad2 0)), (2, vI (bbL K2 F2 n0).1), (3, vI (bbL K2 F2 n0).2)]) rfl ?_
              refine v_goto (tgt := 7) C dX0_bestBurstOf_64 (by decide) ?_
              refine V.loc (L' := [(0, .ref a), (1, .ref (ad2 0)), (2, vI (bbL K2 F2 n0).1), (3, vI (bbL K2 F2 n0).2), (4, vI (((n0 : Int) + 1) + 1))]) [2, 3, 4, 5, 0] rfl ?_
              have key := ih (n0 + 1) (itL 1 K2 (up F2 0 (up (F2 0) 4 ((n0 : Int) + 1))) (enK 1 K2 (up F2 0 (up (F2 0) 4 ((n0 : Int) + 1))) 600)) K2 (f33_3) (p33_3) (by omega) (by omega)
              have e : bbL K2 F2 (n0 + 1) = bbL K2 F2 n0 := if_neg (fun h => h.2.elim c46 (fun h => absurd h (by omega)))
              have e1 : (bbL K2 F2 (n0 + 1)).1 = (bbL K2 F2 n0).1 := by rw [e]
              have e2 : (bbL K2 F2 (n0 + 1)).2 = (bbL K2 F2 n0).2 := by rw [e]
              rw [e1, e2, show ((n0 + 1 : Nat) : Int) + 1 = (n0 : Int) + 1 + 1 by omega] at key
              exact key
            · skip
              refine v_iload C dX0_bestBurstOf_55 5 rfl ?_
              refine v_istore_n C M dX0_bestBurstOf_57 rfl (by decide) (L' := [(2, vI ((n0 : Int) + 1)), (5, vI (tkL 1 K2 (up F2 0 (up (F2 0) 4 ((n0 : Int) + 1))))), (0, .ref a), (1, .ref (ad2 0)), (3, vI (bbL K2 F2 n0).2), (4, vI ((n0 : Int) + 1))]) rfl ?_
              refine v_iload C dX0_bestBurstOf_58 1 rfl ?_
              refine v_istore_n C M dX0_bestBurstOf_60 rfl (by decide) (L' := [(3, vI (tkL 1 K2 (up F2 0 (up (F2 0) 4 ((n0 : Int) + 1))))), (2, vI ((n0 : Int) + 1)), (5, vI (tkL 1 K2 (up F2 0 (up (F2 0) 4 ((n0 : Int) + 1))))), (0, .ref a), (1, .ref (ad2 0)), (4, vI ((n0 : Int) + 1))]) rfl ?_
              refine v_iinc C M dX0_bestBurstOf_61 5 rfl (by decide) (z' := (((n0 : Int) + 1) + 1)) rfl (L' := [(4, vI (((n0 : Int) + 1) + 1)), (3, vI (tkL 1 K2 (up F2 0 (up (F2 0) 4 ((n0 : Int) + 1))))), (2, vI ((n0 : Int) + 1)), (5, vI (tkL 1 K2 (up F2 0 (up (F2 0) 4 ((n0 : Int) + 1))))), (0, .ref a), (1, .ref (ad2 0))]) rfl ?_
              refine v_goto (tgt := 7) C dX0_bestBurstOf_64 (by decide) ?_
              refine V.loc (L' := [(0, .ref a), (1, .ref (ad2 0)), (2, vI ((n0 : Int) + 1)), (3, vI (tkL 1 K2 (up F2 0 (up (F2 0) 4 ((n0 : Int) + 1))))), (4, vI (((n0 : Int) + 1) + 1))]) [4, 5, 2, 1, 0] rfl ?_
              have key := ih (n0 + 1) (itL 1 K2 (up F2 0 (up (F2 0) 4 ((n0 : Int) + 1))) (enK 1 K2 (up F2 0 (up (F2 0) 4 ((n0 : Int) + 1))) 600)) K2 (f33_3) (p33_3) (by omega) (by omega)
              have e : bbL K2 F2 (n0 + 1) = ((n0 : Int) + 1, (tkL 1 K2 (up F2 0 (up (F2 0) 4 ((n0 : Int) + 1))))) := if_pos ⟨c41, Or.inr (by omega)⟩
              have e1 : (bbL K2 F2 (n0 + 1)).1 = (n0 : Int) + 1 := by rw [e]
              have e2 : (bbL K2 F2 (n0 + 1)).2 = (tkL 1 K2 (up F2 0 (up (F2 0) 4 ((n0 : Int) + 1)))) := by rw [e]
              rw [e1, e2, show ((n0 + 1 : Nat) : Int) + 1 = (n0 : Int) + 1 + 1 by omega] at key
              exact key
  exact lp 8 0 F K f pl (by omega) (by decide)
end C14
