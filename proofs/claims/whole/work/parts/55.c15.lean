section C15
set_option maxHeartbeats 4000000 in
set_option maxRecDepth 100000 in
theorem c_X0_worstOf (G : GG) (l : Launch) (a b c : Nat) (ad wad : Nat → Nat) (F : Int → Int → Int) (K : Int → Int → Int64) (f pl : Int → Int) (ad2 : Nat → Nat) (F2 : Int → Int → Int) (K2 : Int → Int → Int64) (F3 : Int → Int → Int) (K3 : Int → Int → Int64) (h : FOK 1 K2 F2 600) (hw : ∀ n : Nat, n < 600 → FOK 1 K2 (woT K2 F2 n) (600 - (n : Int))) : Ct G l yX0_worstOf (Cond.code yX0_worstOf cX0_worstOf 9 (some .int) :: wsL_law) 6 173 0 0 [.ref a, .ref (ad2 0)] ([(a, .inr (0, [.ref (ad 0), .ref (wad 0), .ref b]))] ++ (liW G ad F K) ++ (frW G b c (f) (pl)) ++ (liW G ad2 F2 K2) ++ (liW G wad F3 K3)) (fun r w => ∃ (F1 F3 : Int → Int → Int) (K1 K3 : Int → Int → Int64) (f2 pl2 : Int → Int), r = some (vI (wsL K2 F2)) ∧ w = [(a, .inr (0, [.ref (ad 0), .ref (wad 0), .ref b]))] ++ liW G ad F1 K1 ++ frW G b c f2 pl2 ++ liW G ad2 F2 K2 ++ liW G wad F3 K3) := by
  refine Ct.of (own := RX0) (cc := cX0_worstOf) (maxL := 9) (ret := (some .int)) (by decide) rfl rfl (Nat.le_of_ble_eq_true rfl) (fun X C E M hG hl => ?_)
  subst hG hl
  have hz := (h 0 (by omega)).2.2
  have he0 : sm (enV 1 K2 F2 600) := enV_sm (by decide)
  refine v_aload_n C dX0_worstOf_0 rfl 0 rfl ?_
  refine v_aload_n C dX0_worstOf_1 rfl 1 rfl ?_
  refine v_iconst C dX0_worstOf_2 ?_
  refine v_callV (na := 2) (wy := (Cond.code yX0_frames cX0_frames 3 (some .int) :: wsL_law)) (wc := [(a, .inr (0, [.ref (ad 0), .ref (wad 0), .ref b]))] ++ (liW (vG X) ad F K) ++ (frW (vG X) b c (f) (pl)) ++ (liW (vG X) ad2 F2 K2)) (wr := (liW (vG X) wad F3 K3)) C [.ref (ad2 0), vI 1] [] (c_X0_frames _ _ a b c ad wad F K (f) (pl) ad2 F2 K2 1 (by decide) hz h) rfl (gwV mw_635 mw_701 mw_633 mw_634 mw_30) rfl (by decide +kernel) 0 rfl rfl rfl rfl Sb.rf rfl rfl dX0_worstOf_3 (fun r w1 hp3_1 => ?_)
  obtain ⟨f3_2, p3_2, rfl, rfl⟩ := hp3_1
  show V X 0 0 6 [(0, .ref a), (1, .ref (ad2 0))] [vI (enV 1 K2 F2 600)] ([(a, .inr (0, [.ref (ad 0), .ref (wad 0), .ref b]))] ++ (liW (vG X) ad (itL 1 K2 F2 (enK 1 K2 F2 600)) K2) ++ (frW (vG X) b c (f3_2) (p3_2)) ++ (liW (vG X) ad2 F2 K2) ++ (liW (vG X) wad F3 K3))
  show V X 0 0 6 [(0, .ref a), (1, .ref (ad2 0))] [vI (enV 1 K2 F2 600)] ([(a, .inr (0, [.ref (ad 0), .ref (wad 0), .ref b]))] ++ (liW (vG X) ad (itL 1 K2 F2 (enK 1 K2 F2 600)) K2) ++ (frW (vG X) b c (f3_2) (p3_2)) ++ (liW (vG X) ad2 F2 K2) ++ (liW (vG X) wad F3 K3))
  refine v_istore_n C M dX0_worstOf_6 rfl (by decide) (L' := [(2, vI (enV 1 K2 F2 600)), (0, .ref a), (1, .ref (ad2 0))]) rfl ?_
  refine v_iload_n C dX0_worstOf_7 rfl 0 rfl ?_
  refine v_if_gt (tgt := 13) C dX0_worstOf_8 (by decide) he0 (fun c8 => ?_) (fun c8 => ?_)
  · skip
    obtain ⟨hev, hek⟩ := enV_p c8
    refine v_aload_n C dX0_worstOf_13 rfl 1 rfl ?_
    refine v_get (v := .ref (ad 0)) C inw_0 0 0 rfl (by decide) (List.mem_cons_of_mem _ mw_80) rfl rfl dX0_worstOf_14 ?_
    refine v_callV (na := 0) (wy := (Cond.code yX3_time cX3_time 1 (some .int) :: wsL_law)) (wc := (liW (vG X) ad (itL 1 K2 F2 (enK 1 K2 F2 600)) K2)) (wr := [(a, .inr (0, [.ref (ad 0), .ref (wad 0), .ref b]))] ++ (frW (vG X) b c (f3_2) (p3_2)) ++ (liW (vG X) ad2 F2 K2) ++ (liW (vG X) wad F3 K3)) C [] [] (c_X3_time _ _ ad (itL 1 K2 F2 (enK 1 K2 F2 600)) K2) rfl (gwV mw_423 mw_587 mw_421 mw_422 mw_20) rfl (by decide +kernel) 0 rfl rfl rfl rfl (Sb.pl [1, 2, 3, 4, 5, 6, 7, 8, 9, 0, 10, 11, 12, 13, 14, 15, 16, 17, 18, 19, 20, 21, 22, 23, 24, 25, 26, 27, 28, 29] rfl rfl) rfl rfl dX0_worstOf_17 (fun r w1 hp17_3 => ?_)
    obtain ⟨rfl, rfl⟩ := hp17_3
    refine V.sb (ws' := [(a, .inr (0, [.ref (ad 0), .ref (wad 0), .ref b]))] ++ (liW (vG X) ad (itL 1 K2 F2 (enK 1 K2 F2 600)) K2) ++ (frW (vG X) b c (f3_2) (p3_2)) ++ (liW (vG X) ad2 F2 K2) ++ (liW (vG X) wad F3 K3)) (Sb.pl [9, 0, 1, 2, 3, 4, 5, 6, 7, 8, 10, 11, 12, 13, 14, 15, 16, 17, 18, 19, 20, 21, 22, 23, 24, 25, 26, 27, 28, 29] rfl rfl) ?_
    show V X 0 0 20 [(2, vI (enV 1 K2 F2 600)), (0, .ref a), (1, .ref (ad2 0))] [vI (tmL (itL 1 K2 F2 (enK 1 K2 F2 600)))] ([(a, .inr (0, [.ref (ad 0), .ref (wad 0), .ref b]))] ++ (liW (vG X) ad (itL 1 K2 F2 (enK 1 K2 F2 600)) K2) ++ (frW (vG X) b c (f3_2) (p3_2)) ++ (liW (vG X) ad2 F2 K2) ++ (liW (vG X) wad F3 K3))
    show V X 0 0 20 [(2, vI (enV 1 K2 F2 600)), (0, .ref a), (1, .ref (ad2 0))] [vI (tmL (itL 1 K2 F2 (enK 1 K2 F2 600)))] ([(a, .inr (0, [.ref (ad 0), .ref (wad 0), .ref b]))] ++ (liW (vG X) ad (itL 1 K2 F2 (enK 1 K2 F2 600)) K2) ++ (frW (vG X) b c (f3_2) (p3_2)) ++ (liW (vG X) ad2 F2 K2) ++ (liW (vG X) wad F3 K3))
    refine v_istore_n C M dX0_worstOf_20 rfl (by decide) (L' := [(3, vI (tmL (itL 1 K2 F2 (enK 1 K2 F2 600)))), (2, vI (enV 1 K2 F2 600)), (0, .ref a), (1, .ref (ad2 0))]) rfl ?_
    refine v_iconst C dX0_worstOf_21 ?_
    refine v_istore C M dX0_worstOf_22 (by decide) (L' := [(4, vI (-1)), (3, vI (tmL (itL 1 K2 F2 (enK 1 K2 F2 600)))), (2, vI (enV 1 K2 F2 600)), (0, .ref a), (1, .ref (ad2 0))]) rfl ?_
    refine v_iconst C dX0_worstOf_24 ?_
    refine v_istore C M dX0_worstOf_25 (by decide) (L' := [(5, vI 0), (4, vI (-1)), (3, vI (tmL (itL 1 K2 F2 (enK 1 K2 F2 600)))), (2, vI (enV 1 K2 F2 600)), (0, .ref a), (1, .ref (ad2 0))]) rfl ?_
    refine v_aload_n C dX0_worstOf_27 rfl 4 rfl ?_
    refine v_get (v := .ref (wad 0)) C inw_0 0 1 rfl (by decide) (List.mem_cons_of_mem _ mw_81) rfl rfl dX0_worstOf_28 ?_
    refine v_aload_n C dX0_worstOf_31 rfl 5 rfl ?_
    refine v_callV (na := 1) (wy := (Cond.code yX3_copyFrom cX3_copyFrom 2 none :: wsL_law)) (wc := (liW (vG X) wad F3 K3) ++ (liW (vG X) ad2 F2 K2)) (wr := [(a, .inr (0, [.ref (ad 0), .ref (wad 0), .ref b]))] ++ (liW (vG X) ad (itL 1 K2 F2 (enK 1 K2 F2 600)) K2) ++ (frW (vG X) b c (f3_2) (p3_2))) C [.ref (ad2 0)] [] (c_X3_copyFrom _ _ wad F3 K3 ad2 F2 K2 hz) rfl (gwV mw_167 mw_582 mw_165 mw_166 mw_20) rfl (by decide +kernel) 0 rfl rfl rfl rfl (Sb.pl [21, 22, 23, 24, 25, 26, 27, 28, 29, 12, 13, 14, 15, 16, 17, 18, 19, 20, 0, 1, 2, 3, 4, 5, 6, 7, 8, 9, 10, 11] rfl rfl) rfl rfl dX0_worstOf_32 (fun r w1 hp32_4 => ?_)
    obtain ⟨rfl, rfl⟩ := hp32_4
    refine V.sb (ws' := [(a, .inr (0, [.ref (ad 0), .ref (wad 0), .ref b]))] ++ (liW (vG X) ad (itL 1 K2 F2 (enK 1 K2 F2 600)) K2) ++ (frW (vG X) b c (f3_2) (p3_2)) ++ (liW (vG X) ad2 F2 K2) ++ (liW (vG X) wad F2 K2)) (Sb.pl [18, 19, 20, 21, 22, 23, 24, 25, 26, 27, 28, 29, 9, 10, 11, 12, 13, 14, 15, 16, 17, 0, 1, 2, 3, 4, 5, 6, 7, 8] rfl rfl) ?_
    show V X 0 0 35 [(5, vI 0), (4, vI (-1)), (3, vI (tmL (itL 1 K2 F2 (enK 1 K2 F2 600)))), (2, vI (enV 1 K2 F2 600)), (0, .ref a), (1, .ref (ad2 0))] [] ([(a, .inr (0, [.ref (ad 0), .ref (wad 0), .ref b]))] ++ (liW (vG X) ad (itL 1 K2 F2 (enK 1 K2 F2 600)) K2) ++ (frW (vG X) b c (f3_2) (p3_2)) ++ (liW (vG X) ad2 F2 K2) ++ (liW (vG X) wad F2 K2))
    show V X 0 0 35 [(5, vI 0), (4, vI (-1)), (3, vI (tmL (itL 1 K2 F2 (enK 1 K2 F2 600)))), (2, vI (enV 1 K2 F2 600)), (0, .ref a), (1, .ref (ad2 0))] [] ([(a, .inr (0, [.ref (ad 0), .ref (wad 0), .ref b]))] ++ (liW (vG X) ad (itL 1 K2 F2 (enK 1 K2 F2 600)) K2) ++ (frW (vG X) b c (f3_2) (p3_2)) ++ (liW (vG X) ad2 F2 K2) ++ (liW (vG X) wad F2 K2))
    refine v_iconst C dX0_worstOf_35 ?_
    refine v_istore C M dX0_worstOf_36 (by decide) (L' := [(6, vI 0), (5, vI 0), (4, vI (-1)), (3, vI (tmL (itL 1 K2 F2 (enK 1 K2 F2 600)))), (2, vI (enV 1 K2 F2 600)), (0, .ref a), (1, .ref (ad2 0))]) rfl ?_
    refine V.loc (L' := [(0, .ref a), (1, .ref (ad2 0)), (2, vI (enV 1 K2 F2 600)), (3, vI (tmL (itL 1 K2 F2 (enK 1 K2 F2 600)))), (4, vI (-1)), (5, vI 0), (6, vI 0)]) [5, 6, 4, 3, 2, 1, 0] rfl ?_
    have lp : ∀ (n : Nat) (n0 : Nat) (G0 : Int → Int → Int) (K0 : Int → Int → Int64) (f2 : Int → Int) (p2 : Int → Int) (hn0 : n0 ≤ enK 1 K2 F2 600) (hm : 600 - (n0 : Int) < (n : Int)), V X 0 0 38 [(0, .ref a), (1, .ref (ad2 0)), (2, vI (enV 1 K2 F2 600)), (3, vI (tmL (itL 1 K2 F2 (enK 1 K2 F2 600)))), (4, vI (woL K2 F2 n0).1), (5, vI (woL K2 F2 n0).2), (6, vI (n0 : Int))] [] ([(a, .inr (0, [.ref (ad 0), .ref (wad 0), .ref b]))] ++ (liW (vG X) ad G0 K0) ++ (frW (vG X) b c (f2) (p2)) ++ (liW (vG X) ad2 F2 K2) ++ (liW (vG X) wad (itL 1 K2 F2 n0) K2)) := by
      intro n
      induction n with
      | zero => intro n0 G0 K0 f2 p2 hn0 hm; exact absurd hm (by omega)
      | succ n ih =>
        intro n0 G0 K0 f2 p2 hn0 hm
        obtain ⟨hb1, hb2⟩ := woL_sm h hw hek n0 (by omega)
        refine v_iload C dX0_worstOf_38 6 rfl ?_
        refine v_iload_n C dX0_worstOf_40 rfl 2 rfl ?_
        refine v_icmp_ge (tgt := 152) C dX0_worstOf_41 (by decide) ⟨by omega, by omega⟩ he0 (fun c41 => ?_) (fun c41 => ?_)
        · skip
          refine v_iload C dX0_worstOf_152 4 rfl ?_
          have en : n0 = enK 1 K2 F2 600 := by omega
          have ew : wsL K2 F2 = (woL K2 F2 n0).1 := by rw [en]; exact if_neg (show ¬ enV 1 K2 F2 600 ≤ 0 by omega)
          exact v_iret C E rfl dX0_worstOf_154 (by decide) (by decide) (⟨_, _, _, _, _, _, by rw [ew], rfl⟩)
        · skip
          refine v_iload C dX0_worstOf_44 6 rfl ?_
          refine v_sipush C dX0_worstOf_46 (by decide +kernel) ?_
          refine v_icmp_ge (tgt := 152) C dX0_worstOf_49 (by decide) ⟨by omega, by omega⟩ (by decide) (fun c49 => ?_) (fun c49 => ?_)
          · skip
            exact absurd hek (by omega)
          · skip
            have hk := h n0 (by omega)
            have hwn := hw n0 (by omega)
            have hz2 := hk.2.2
            obtain ⟨q1, q2, q3, q4⟩ := hk.2.1
            rw [show rdL 1 (itL 1 K2 F2 n0) = lrL (itL 1 K2 F2 n0) from if_neg (show ¬ (1 : Int) = 0 by decide)] at q1 q2 q3 q4
            have hen : sm (enV 1 K2 (woT K2 F2 n0) (600 - (n0 : Int))) := enV_sm (by omega)
            refine v_aload_n C dX0_worstOf_52 rfl 0 rfl ?_
            refine v_get (v := .ref (wad 0)) C inw_0 0 1 rfl (by decide) (List.mem_cons_of_mem _ mw_81) rfl rfl dX0_worstOf_53 ?_
            refine v_callV (na := 0) (wy := (Cond.code yX3_letHostsRead cX3_letHostsRead 1 none :: wsL_law)) (wc := (liW (vG X) wad (itL 1 K2 F2 n0) K2)) (wr := [(a, .inr (0, [.ref (ad 0), .ref (wad 0), .ref b]))] ++ (liW (vG X) ad G0 K0) ++ (frW (vG X) b c (f2) (p2)) ++ (liW (vG X) ad2 F2 K2)) C [] [] (c_X3_letHostsRead _ _ wad (itL 1 K2 F2 n0) K2) rfl (gwV mw_599 mw_596 mw_597 mw_598 mw_20) rfl (by decide +kernel) 0 rfl rfl rfl rfl (Sb.pl [21, 22, 23, 24, 25, 26, 27, 28, 29, 0, 1, 2, 3, 4, 5, 6, 7, 8, 9, 10, 11, 12, 13, 14, 15, 16, 17, 18, 19, 20] rfl rfl) rfl rfl dX0_worstOf_56 (fun r w1 hp56_5 => ?_)
            obtain ⟨rfl, rfl⟩ := hp56_5
            refine V.sb (ws' := [(a, .inr (0, [.ref (ad 0), .ref (wad 0), .ref b]))] ++ (liW (vG X) ad G0 K0) ++ (frW (vG X) b c (f2) (p2)) ++ (liW (vG X) ad2 F2 K2) ++ (liW (vG X) wad (lrL (itL 1 K2 F2 n0)) K2)) (Sb.pl [9, 10, 11, 12, 13, 14, 15, 16, 17, 18, 19, 20, 21, 22, 23, 24, 25, 26, 27, 28, 29, 0, 1, 2, 3, 4, 5, 6, 7, 8] rfl rfl) ?_
            show V X 0 0 59 [(0, .ref a), (1, .ref (ad2 0)), (2, vI (enV 1 K2 F2 600)), (3, vI (tmL (itL 1 K2 F2 (enK 1 K2 F2 600)))), (4, vI (woL K2 F2 n0).1), (5, vI (woL K2 F2 n0).2), (6, vI (n0 : Int))] [] ([(a, .inr (0, [.ref (ad 0), .ref (wad 0), .ref b]))] ++ (liW (vG X) ad G0 K0) ++ (frW (vG X) b c (f2) (p2)) ++ (liW (vG X) ad2 F2 K2) ++ (liW (vG X) wad (lrL (itL 1 K2 F2 n0)) K2))
            refine v_aload_n C dX0_worstOf_59 rfl 0 rfl ?_
            refine v_get (v := .ref (wad 0)) C inw_0 0 1 rfl (by decide) (List.mem_cons_of_mem _ mw_81) rfl rfl dX0_worstOf_60 ?_
            refine v_callV (na := 0) (wy := (Cond.code yX3_framesSent cX3_framesSent 1 (some .int) :: wsL_law)) (wc := (liW (vG X) wad (lrL (itL 1 K2 F2 n0)) K2)) (wr := [(a, .inr (0, [.ref (ad 0), .ref (wad 0), .ref b]))] ++ (liW (vG X) ad G0 K0) ++ (frW (vG X) b c (f2) (p2)) ++ (liW (vG X) ad2 F2 K2)) C [] [] (c_X3_framesSent _ _ wad (lrL (itL 1 K2 F2 n0)) K2) rfl (gwV mw_527 mw_702 mw_525 mw_526 mw_20) rfl (by decide +kernel) 0 rfl rfl rfl rfl (Sb.pl [21, 22, 23, 24, 25, 26, 27, 28, 29, 0, 1, 2, 3, 4, 5, 6, 7, 8, 9, 10, 11, 12, 13, 14, 15, 16, 17, 18, 19, 20] rfl rfl) rfl rfl dX0_worstOf_63 (fun r w1 hp63_6 => ?_)
            obtain ⟨rfl, rfl⟩ := hp63_6
            refine V.sb (ws' := [(a, .inr (0, [.ref (ad 0), .ref (wad 0), .ref b]))] ++ (liW (vG X) ad G0 K0) ++ (frW (vG X) b c (f2) (p2)) ++ (liW (vG X) ad2 F2 K2) ++ (liW (vG X) wad (lrL (itL 1 K2 F2 n0)) K2)) (Sb.pl [9, 10, 11, 12, 13, 14, 15, 16, 17, 18, 19, 20, 21, 22, 23, 24, 25, 26, 27, 28, 29, 0, 1, 2, 3, 4, 5, 6, 7, 8] rfl rfl) ?_
            show V X 0 0 66 [(0, .ref a), (1, .ref (ad2 0)), (2, vI (enV 1 K2 F2 600)), (3, vI (tmL (itL 1 K2 F2 (enK 1 K2 F2 600)))), (4, vI (woL K2 F2 n0).1), (5, vI (woL K2 F2 n0).2), (6, vI (n0 : Int))] [vI ((lrL (itL 1 K2 F2 n0)) 5 0)] ([(a, .inr (0, [.ref (ad 0), .ref (wad 0), .ref b]))] ++ (liW (vG X) ad G0 K0) ++ (frW (vG X) b c (f2) (p2)) ++ (liW (vG X) ad2 F2 K2) ++ (liW (vG X) wad (lrL (itL 1 K2 F2 n0)) K2))
            show V X 0 0 66 [(0, .ref a), (1, .ref (ad2 0)), (2, vI (enV 1 K2 F2 600)), (3, vI (tmL (itL 1 K2 F2 (enK 1 K2 F2 600)))), (4, vI (woL K2 F2 n0).1), (5, vI (woL K2 F2 n0).2), (6, vI (n0 : Int))] [vI ((lrL (itL 1 K2 F2 n0)) 5 0)] ([(a, .inr (0, [.ref (ad 0), .ref (wad 0), .ref b]))] ++ (liW (vG X) ad G0 K0) ++ (frW (vG X) b c (f2) (p2)) ++ (liW (vG X) ad2 F2 K2) ++ (liW (vG X) wad (lrL (itL 1 K2 F2 n0)) K2))
            refine v_istore C M dX0_worstOf_66 (by decide) (L' := [(7, vI ((lrL (itL 1 K2 F2 n0)) 5 0)), (0, .ref a), (1, .ref (ad2 0)), (2, vI (enV 1 K2 F2 600)), (3, vI (tmL (itL 1 K2 F2 (enK 1 K2 F2 600)))), (4, vI (woL K2 F2 n0).1), (5, vI (woL K2 F2 n0).2), (6, vI (n0 : Int))]) rfl ?_
            refine v_aload_n C dX0_worstOf_68 rfl 1 rfl ?_
            refine v_get (v := .ref (ad 0)) C inw_0 0 0 rfl (by decide) (List.mem_cons_of_mem _ mw_80) rfl rfl dX0_worstOf_69 ?_
            refine v_aload_n C dX0_worstOf_72 rfl 1 rfl ?_
            refine v_get (v := .ref (wad 0)) C inw_0 0 1 rfl (by decide) (List.mem_cons_of_mem _ mw_81) rfl rfl dX0_worstOf_73 ?_
            refine v_callV (na := 1) (wy := (Cond.code yX3_copyFrom cX3_copyFrom 2 none :: wsL_law)) (wc := (liW (vG X) ad G0 K0) ++ (liW (vG X) wad (lrL (itL 1 K2 F2 n0)) K2)) (wr := [(a, .inr (0, [.ref (ad 0), .ref (wad 0), .ref b]))] ++ (frW (vG X) b c (f2) (p2)) ++ (liW (vG X) ad2 F2 K2)) C [.ref (wad 0)] [] (c_X3_copyFrom _ _ ad G0 K0 wad (lrL (itL 1 K2 F2 n0)) K2 hz2) rfl (gwV mw_167 mw_582 mw_165 mw_166 mw_20) rfl (by decide +kernel) 0 rfl rfl rfl rfl (Sb.pl [1, 2, 3, 4, 5, 6, 7, 8, 9, 21, 22, 23, 24, 25, 26, 27, 28, 29, 0, 10, 11, 12, 13, 14, 15, 16, 17, 18, 19, 20] rfl rfl) rfl rfl dX0_worstOf_76 (fun r w1 hp76_7 => ?_)
            obtain ⟨rfl, rfl⟩ := hp76_7
            refine V.sb (ws' := [(a, .inr (0, [.ref (ad 0), .ref (wad 0), .ref b]))] ++ (liW (vG X) ad (lrL (itL 1 K2 F2 n0)) K2) ++ (frW (vG X) b c (f2) (p2)) ++ (liW (vG X) ad2 F2 K2) ++ (liW (vG X) wad (lrL (itL 1 K2 F2 n0)) K2)) (Sb.pl [18, 0, 1, 2, 3, 4, 5, 6, 7, 8, 19, 20, 21, 22, 23, 24, 25, 26, 27, 28, 29, 9, 10, 11, 12, 13, 14, 15, 16, 17] rfl rfl) ?_
            show V X 0 0 79 [(7, vI ((lrL (itL 1 K2 F2 n0)) 5 0)), (0, .ref a), (1, .ref (ad2 0)), (2, vI (enV 1 K2 F2 600)), (3, vI (tmL (itL 1 K2 F2 (enK 1 K2 F2 600)))), (4, vI (woL K2 F2 n0).1), (5, vI (woL K2 F2 n0).2), (6, vI (n0 : Int))] [] ([(a, .inr (0, [.ref (ad 0), .ref (wad 0), .ref b]))] ++ (liW (vG X) ad (lrL (itL 1 K2 F2 n0)) K2) ++ (frW (vG X) b c (f2) (p2)) ++ (liW (vG X) ad2 F2 K2) ++ (liW (vG X) wad (lrL (itL 1 K2 F2 n0)) K2))
            show V X 0 0 79 [(7, vI ((lrL (itL 1 K2 F2 n0)) 5 0)), (0, .ref a), (1, .ref (ad2 0)), (2, vI (enV 1 K2 F2 600)), (3, vI (tmL (itL 1 K2 F2 (enK 1 K2 F2 600)))), (4, vI (woL K2 F2 n0).1), (5, vI (woL K2 F2 n0).2), (6, vI (n0 : Int))] [] ([(a, .inr (0, [.ref (ad 0), .ref (wad 0), .ref b]))] ++ (liW (vG X) ad (lrL (itL 1 K2 F2 n0)) K2) ++ (frW (vG X) b c (f2) (p2)) ++ (liW (vG X) ad2 F2 K2) ++ (liW (vG X) wad (lrL (itL 1 K2 F2 n0)) K2))
            refine v_aload_n C dX0_worstOf_79 rfl 1 rfl ?_
            refine v_get (v := .ref (ad 0)) C inw_0 0 0 rfl (by decide) (List.mem_cons_of_mem _ mw_80) rfl rfl dX0_worstOf_80 ?_
            refine v_iload C dX0_worstOf_83 0 rfl ?_
            refine v_putN C inw_3 tyX3 tyX3_ok nmX3 1 10 rfl (by decide) nw_36 rfl rfl rfl rfl (Nat.le_of_ble_eq_true rfl) dX0_worstOf_85 (ws' := [(a, .inr (0, [.ref (ad 0), .ref (wad 0), .ref b]))] ++ (liW (vG X) ad (up (lrL (itL 1 K2 F2 n0)) 0 (up ((lrL (itL 1 K2 F2 n0)) 0) 9 ((lrL (itL 1 K2 F2 n0)) 5 0))) K2) ++ (frW (vG X) b c (f2) (p2)) ++ (liW (vG X) ad2 F2 K2) ++ (liW (vG X) wad (lrL (itL 1 K2 F2 n0)) K2)) rfl ?_
            show V X 0 0 88 [(7, vI ((lrL (itL 1 K2 F2 n0)) 5 0)), (0, .ref a), (1, .ref (ad2 0)), (2, vI (enV 1 K2 F2 600)), (3, vI (tmL (itL 1 K2 F2 (enK 1 K2 F2 600)))), (4, vI (woL K2 F2 n0).1), (5, vI (woL K2 F2 n0).2), (6, vI (n0 : Int))] [] ([(a, .inr (0, [.ref (ad 0), .ref (wad 0), .ref b]))] ++ (liW (vG X) ad (woT K2 F2 n0) K2) ++ (frW (vG X) b c (f2) (p2)) ++ (liW (vG X) ad2 F2 K2) ++ (liW (vG X) wad (lrL (itL 1 K2 F2 n0)) K2))
            refine v_aload_n C dX0_worstOf_88 rfl 1 rfl ?_
            refine v_iconst C dX0_worstOf_89 ?_
            refine v_sipush C dX0_worstOf_90 (by decide +kernel) ?_
            refine v_iload C dX0_worstOf_93 7 rfl ?_
            refine v_isub C dX0_worstOf_95 ?_
            refine v_callV (na := 2) (wy := (Cond.code yX0_framesToEnd cX0_framesToEnd 4 (some .int) :: wsL_law)) (wc := [(a, .inr (0, [.ref (ad 0), .ref (wad 0), .ref b]))] ++ (liW (vG X) ad (woT K2 F2 n0) K2) ++ (frW (vG X) b c (f2) (p2))) (wr := (liW (vG X) ad2 F2 K2) ++ (liW (vG X) wad (lrL (itL 1 K2 F2 n0)) K2)) C [vI 1, vI (600 - (n0 : Int))] [] (c_X0_fteN _ _ a (wad 0) b c ad (woT K2 F2 n0) K2 (f2) (p2) 1 (600 - (n0 : Int)) (by decide) (show 0 ≤ (600 - (n0 : Int)) ∧ (600 - (n0 : Int)) ≤ 1000 by omega) hwn) rfl (gwV mw_591 mw_588 mw_589 mw_590 mw_30) rfl (by decide +kernel) 0 rfl rfl rfl rfl Sb.rf rfl rfl dX0_worstOf_96 (fun r w1 hp96_8 => ?_)
            obtain ⟨f96_9, p96_9, rfl, rfl⟩ := hp96_8
            show V X 0 0 99 [(7, vI ((lrL (itL 1 K2 F2 n0)) 5 0)), (0, .ref a), (1, .ref (ad2 0)), (2, vI (enV 1 K2 F2 600)), (3, vI (tmL (itL 1 K2 F2 (enK 1 K2 F2 600)))), (4, vI (woL K2 F2 n0).1), (5, vI (woL K2 F2 n0).2), (6, vI (n0 : Int))] [vI (enV 1 K2 (woT K2 F2 n0) (600 - (n0 : Int)))] ([(a, .inr (0, [.ref (ad 0), .ref (wad 0), .ref b]))] ++ (liW (vG X) ad (itL 1 K2 (woT K2 F2 n0) (enK 1 K2 (woT K2 F2 n0) (600 - (n0 : Int)))) K2) ++ (frW (vG X) b c (f96_9) (p96_9)) ++ (liW (vG X) ad2 F2 K2) ++ (liW (vG X) wad (lrL (itL 1 K2 F2 n0)) K2))
            show V X 0 0 99 [(7, vI ((lrL (itL 1 K2 F2 n0)) 5 0)), (0, .ref a), (1, .ref (ad2 0)), (2, vI (enV 1 K2 F2 600)), (3, vI (tmL (itL 1 K2 F2 (enK 1 K2 F2 600)))), (4, vI (woL K2 F2 n0).1), (5, vI (woL K2 F2 n0).2), (6, vI (n0 : Int))] [vI (enV 1 K2 (woT K2 F2 n0) (600 - (n0 : Int)))] ([(a, .inr (0, [.ref (ad 0), .ref (wad 0), .ref b]))] ++ (liW (vG X) ad (itL 1 K2 (woT K2 F2 n0) (enK 1 K2 (woT K2 F2 n0) (600 - (n0 : Int)))) K2) ++ (frW (vG X) b c (f96_9) (p96_9)) ++ (liW (vG X) ad2 F2 K2) ++ (liW (vG X) wad (lrL (itL 1 K2 F2 n0)) K2))
            refine v_iconst C dX0_worstOf_99 ?_
            refine v_icmp_eq (tgt := 135) C dX0_worstOf_100 (by decide) hen (by decide) (fun c100 => ?_) (fun c100 => ?_)
            · skip
              refine v_aload_n C dX0_worstOf_135 rfl 1 rfl ?_
              refine v_get (v := .ref (wad 0)) C inw_0 0 1 rfl (by decide) (List.mem_cons_of_mem _ mw_81) rfl rfl dX0_worstOf_136 ?_
              refine v_aload_n C dX0_worstOf_139 rfl 1 rfl ?_
              refine v_get (v := .ref b) C inw_0 0 2 rfl (by decide) (List.mem_cons_of_mem _ mw_83) rfl rfl dX0_worstOf_140 ?_
              refine v_callV (na := 1) (wy := (Cond.code yX3_step cX3_step 3 none :: wsL_law)) (wc := (liW (vG X) wad (lrL (itL 1 K2 F2 n0)) K2) ++ (frW (vG X) b c (f96_9) (p96_9))) (wr := [(a, .inr (0, [.ref (ad 0), .ref (wad 0), .ref b]))] ++ (liW (vG X) ad (itL 1 K2 (woT K2 F2 n0) (enK 1 K2 (woT K2 F2 n0) (600 - (n0 : Int)))) K2) ++ (liW (vG X) ad2 F2 K2)) C [.ref b] [] (c_X3_step _ _ wad (lrL (itL 1 K2 F2 n0)) K2 b c (f96_9) (p96_9) q1 q2 q3 q4) rfl (gwV mw_603 mw_600 mw_601 mw_602 mw_20) rfl (by decide +kernel) 0 rfl rfl rfl rfl (Sb.pl [21, 22, 23, 24, 25, 26, 27, 28, 29, 10, 11, 0, 1, 2, 3, 4, 5, 6, 7, 8, 9, 12, 13, 14, 15, 16, 17, 18, 19, 20] rfl rfl) rfl rfl dX0_worstOf_143 (fun r w1 hp143_10 => ?_)
              obtain ⟨rfl, f143_11, p143_11, rfl⟩ := hp143_10
              refine V.sb (ws' := [(a, .inr (0, [.ref (ad 0), .ref (wad 0), .ref b]))] ++ (liW (vG X) ad (itL 1 K2 (woT K2 F2 n0) (enK 1 K2 (woT K2 F2 n0) (600 - (n0 : Int)))) K2) ++ (frW (vG X) b c (f143_11) (p143_11)) ++ (liW (vG X) ad2 F2 K2) ++ (liW (vG X) wad (spL K2 (lrL (itL 1 K2 F2 n0))) K2)) (Sb.pl [11, 12, 13, 14, 15, 16, 17, 18, 19, 20, 9, 10, 21, 22, 23, 24, 25, 26, 27, 28, 29, 0, 1, 2, 3, 4, 5, 6, 7, 8] rfl rfl) ?_
              show V X 0 0 146 [(7, vI ((lrL (itL 1 K2 F2 n0)) 5 0)), (0, .ref a), (1, .ref (ad2 0)), (2, vI (enV 1 K2 F2 600)), (3, vI (tmL (itL 1 K2 F2 (enK 1 K2 F2 600)))), (4, vI (woL K2 F2 n0).1), (5, vI (woL K2 F2 n0).2), (6, vI (n0 : Int))] [] ([(a, .inr (0, [.ref (ad 0), .ref (wad 0), .ref b]))] ++ (liW (vG X) ad (itL 1 K2 (woT K2 F2 n0) (enK 1 K2 (woT K2 F2 n0) (600 - (n0 : Int)))) K2) ++ (frW (vG X) b c (f143_11) (p143_11)) ++ (liW (vG X) ad2 F2 K2) ++ (liW (vG X) wad (spL K2 (lrL (itL 1 K2 F2 n0))) K2))
              refine v_iinc C M dX0_worstOf_146 7 rfl (by decide) (z' := ((n0 : Int) + 1)) rfl (L' := [(6, vI ((n0 : Int) + 1)), (7, vI ((lrL (itL 1 K2 F2 n0)) 5 0)), (0, .ref a), (1, .ref (ad2 0)), (2, vI (enV 1 K2 F2 600)), (3, vI (tmL (itL 1 K2 F2 (enK 1 K2 F2 600)))), (4, vI (woL K2 F2 n0).1), (5, vI (woL K2 F2 n0).2)]) rfl ?_
              refine v_goto (tgt := 38) C dX0_worstOf_149 (by decide) ?_
              refine V.loc (L' := [(0, .ref a), (1, .ref (ad2 0)), (2, vI (enV 1 K2 F2 600)), (3, vI (tmL (itL 1 K2 F2 (enK 1 K2 F2 600)))), (4, vI (woL K2 F2 n0).1), (5, vI (woL K2 F2 n0).2), (6, vI ((n0 : Int) + 1))]) [2, 3, 4, 5, 6, 7, 0] rfl ?_
              have key := ih (n0 + 1) (itL 1 K2 (woT K2 F2 n0) (enK 1 K2 (woT K2 F2 n0) (600 - (n0 : Int)))) K2 (f143_11) (p143_11) (by omega) (by omega)
              rw [show itL 1 K2 F2 (n0 + 1) = spL K2 (lrL (itL 1 K2 F2 n0)) from congrArg (spL K2) (if_neg (show ¬ (1 : Int) = 0 by decide))] at key
              have e : woL K2 F2 (n0 + 1) = woL K2 F2 n0 := if_neg (fun h => h.1 c100)
              have e1 : (woL K2 F2 (n0 + 1)).1 = (woL K2 F2 n0).1 := by rw [e]
              have e2 : (woL K2 F2 (n0 + 1)).2 = (woL K2 F2 n0).2 := by rw [e]
              rw [e1, e2, show ((n0 + 1 : Nat) : Int) = (n0 : Int) + 1 by omega] at key
              exact key
            · skip
              have hdd : sm (woD K2 F2 n0) := woD_sm h hwn hek (enV_n.mp c100)
              refine v_aload_n C dX0_worstOf_103 rfl 1 rfl ?_
              refine v_get (v := .ref (ad 0)) C inw_0 0 0 rfl (by decide) (List.mem_cons_of_mem _ mw_80) rfl rfl dX0_worstOf_104 ?_
              refine v_callV (na := 0) (wy := (Cond.code yX3_time cX3_time 1 (some .int) :: wsL_law)) (wc := (liW (vG X) ad (itL 1 K2 (woT K2 F2 n0) (enK 1 K2 (woT K2 F2 n0) (600 - (n0 : Int)))) K2)) (wr := [(a, .inr (0, [.ref (ad 0), .ref (wad 0), .ref b]))] ++ (frW (vG X) b c (f96_9) (p96_9)) ++ (liW (vG X) ad2 F2 K2) ++ (liW (vG X) wad (lrL (itL 1 K2 F2 n0)) K2)) C [] [] (c_X3_time _ _ ad (itL 1 K2 (woT K2 F2 n0) (enK 1 K2 (woT K2 F2 n0) (600 - (n0 : Int)))) K2) rfl (gwV mw_423 mw_587 mw_421 mw_422 mw_20) rfl (by decide +kernel) 0 rfl rfl rfl rfl (Sb.pl [1, 2, 3, 4, 5, 6, 7, 8, 9, 0, 10, 11, 12, 13, 14, 15, 16, 17, 18, 19, 20, 21, 22, 23, 24, 25, 26, 27, 28, 29] rfl rfl) rfl rfl dX0_worstOf_107 (fun r w1 hp107_12 => ?_)
              obtain ⟨rfl, rfl⟩ := hp107_12
              refine V.sb (ws' := [(a, .inr (0, [.ref (ad 0), .ref (wad 0), .ref b]))] ++ (liW (vG X) ad (itL 1 K2 (woT K2 F2 n0) (enK 1 K2 (woT K2 F2 n0) (600 - (n0 : Int)))) K2) ++ (frW (vG X) b c (f96_9) (p96_9)) ++ (liW (vG X) ad2 F2 K2) ++ (liW (vG X) wad (lrL (itL 1 K2 F2 n0)) K2)) (Sb.pl [9, 0, 1, 2, 3, 4, 5, 6, 7, 8, 10, 11, 12, 13, 14, 15, 16, 17, 18, 19, 20, 21, 22, 23, 24, 25, 26, 27, 28, 29] rfl rfl) ?_
              show V X 0 0 110 [(7, vI ((lrL (itL 1 K2 F2 n0)) 5 0)), (0, .ref a), (1, .ref (ad2 0)), (2, vI (enV 1 K2 F2 600)), (3, vI (tmL (itL 1 K2 F2 (enK 1 K2 F2 600)))), (4, vI (woL K2 F2 n0).1), (5, vI (woL K2 F2 n0).2), (6, vI (n0 : Int))] [vI (tmL (itL 1 K2 (woT K2 F2 n0) (enK 1 K2 (woT K2 F2 n0) (600 - (n0 : Int)))))] ([(a, .inr (0, [.ref (ad 0), .ref (wad 0), .ref b]))] ++ (liW (vG X) ad (itL 1 K2 (woT K2 F2 n0) (enK 1 K2 (woT K2 F2 n0) (600 - (n0 : Int)))) K2) ++ (frW (vG X) b c (f96_9) (p96_9)) ++ (liW (vG X) ad2 F2 K2) ++ (liW (vG X) wad (lrL (itL 1 K2 F2 n0)) K2))
              show V X 0 0 110 [(7, vI ((lrL (itL 1 K2 F2 n0)) 5 0)), (0, .ref a), (1, .ref (ad2 0)), (2, vI (enV 1 K2 F2 600)), (3, vI (tmL (itL 1 K2 F2 (enK 1 K2 F2 600)))), (4, vI (woL K2 F2 n0).1), (5, vI (woL K2 F2 n0).2), (6, vI (n0 : Int))] [vI (tmL (itL 1 K2 (woT K2 F2 n0) (enK 1 K2 (woT K2 F2 n0) (600 - (n0 : Int)))))] ([(a, .inr (0, [.ref (ad 0), .ref (wad 0), .ref b]))] ++ (liW (vG X) ad (itL 1 K2 (woT K2 F2 n0) (enK 1 K2 (woT K2 F2 n0) (600 - (n0 : Int)))) K2) ++ (frW (vG X) b c (f96_9) (p96_9)) ++ (liW (vG X) ad2 F2 K2) ++ (liW (vG X) wad (lrL (itL 1 K2 F2 n0)) K2))
              refine v_iload_n C dX0_worstOf_110 rfl 4 rfl ?_
              refine v_isub C dX0_worstOf_111 ?_
              show V X 0 0 112 [(7, vI ((lrL (itL 1 K2 F2 n0)) 5 0)), (0, .ref a), (1, .ref (ad2 0)), (2, vI (enV 1 K2 F2 600)), (3, vI (tmL (itL 1 K2 F2 (enK 1 K2 F2 600)))), (4, vI (woL K2 F2 n0).1), (5, vI (woL K2 F2 n0).2), (6, vI (n0 : Int))] [vI (woD K2 F2 n0)] ([(a, .inr (0, [.ref (ad 0), .ref (wad 0), .ref b]))] ++ (liW (vG X) ad (itL 1 K2 (woT K2 F2 n0) (enK 1 K2 (woT K2 F2 n0) (600 - (n0 : Int)))) K2) ++ (frW (vG X) b c (f96_9) (p96_9)) ++ (liW (vG X) ad2 F2 K2) ++ (liW (vG X) wad (lrL (itL 1 K2 F2 n0)) K2))
              refine v_istore C M dX0_worstOf_112 (by decide) (L' := [(8, vI (woD K2 F2 n0)), (7, vI ((lrL (itL 1 K2 F2 n0)) 5 0)), (0, .ref a), (1, .ref (ad2 0)), (2, vI (enV 1 K2 F2 600)), (3, vI (tmL (itL 1 K2 F2 (enK 1 K2 F2 600)))), (4, vI (woL K2 F2 n0).1), (5, vI (woL K2 F2 n0).2), (6, vI (n0 : Int))]) rfl ?_
              refine v_iload C dX0_worstOf_114 6 rfl ?_
              refine v_iconst C dX0_worstOf_116 ?_
              refine v_icmp_eq (tgt := 127) C dX0_worstOf_117 (by decide) hb1 (by decide) (fun c117 => ?_) (fun c117 => ?_)
              · skip
                refine v_iload C dX0_worstOf_127 1 rfl ?_
                refine v_istore C M dX0_worstOf_129 (by decide) (L' := [(4, vI ((lrL (itL 1 K2 F2 n0)) 5 0)), (8, vI (woD K2 F2 n0)), (7, vI ((lrL (itL 1 K2 F2 n0)) 5 0)), (0, .ref a), (1, .ref (ad2 0)), (2, vI (enV 1 K2 F2 600)), (3, vI (tmL (itL 1 K2 F2 (enK 1 K2 F2 600)))), (5, vI (woL K2 F2 n0).2), (6, vI (n0 : Int))]) rfl ?_
                refine v_iload C dX0_worstOf_131 1 rfl ?_
                refine v_istore C M dX0_worstOf_133 (by decide) (L' := [(5, vI (woD K2 F2 n0)), (4, vI ((lrL (itL 1 K2 F2 n0)) 5 0)), (8, vI (woD K2 F2 n0)), (7, vI ((lrL (itL 1 K2 F2 n0)) 5 0)), (0, .ref a), (1, .ref (ad2 0)), (2, vI (enV 1 K2 F2 600)), (3, vI (tmL (itL 1 K2 F2 (enK 1 K2 F2 600)))), (6, vI (n0 : Int))]) rfl ?_
                refine v_aload_n C dX0_worstOf_135 rfl 4 rfl ?_
                refine v_get (v := .ref (wad 0)) C inw_0 0 1 rfl (by decide) (List.mem_cons_of_mem _ mw_81) rfl rfl dX0_worstOf_136 ?_
                refine v_aload_n C dX0_worstOf_139 rfl 4 rfl ?_
                refine v_get (v := .ref b) C inw_0 0 2 rfl (by decide) (List.mem_cons_of_mem _ mw_83) rfl rfl dX0_worstOf_140 ?_
                refine v_callV (na := 1) (wy := (Cond.code yX3_step cX3_step 3 none :: wsL_law)) (wc := (liW (vG X) wad (lrL (itL 1 K2 F2 n0)) K2) ++ (frW (vG X) b c (f96_9) (p96_9))) (wr := [(a, .inr (0, [.ref (ad 0), .ref (wad 0), .ref b]))] ++ (liW (vG X) ad (itL 1 K2 (woT K2 F2 n0) (enK 1 K2 (woT K2 F2 n0) (600 - (n0 : Int)))) K2) ++ (liW (vG X) ad2 F2 K2)) C [.ref b] [] (c_X3_step _ _ wad (lrL (itL 1 K2 F2 n0)) K2 b c (f96_9) (p96_9) q1 q2 q3 q4) rfl (gwV mw_603 mw_600 mw_601 mw_602 mw_20) rfl (by decide +kernel) 0 rfl rfl rfl rfl (Sb.pl [21, 22, 23, 24, 25, 26, 27, 28, 29, 10, 11, 0, 1, 2, 3, 4, 5, 6, 7, 8, 9, 12, 13, 14, 15, 16, 17, 18, 19, 20] rfl rfl) rfl rfl dX0_worstOf_143 (fun r w1 hp143_13 => ?_)
                obtain ⟨rfl, f143_14, p143_14, rfl⟩ := hp143_13
                refine V.sb (ws' := [(a, .inr (0, [.ref (ad 0), .ref (wad 0), .ref b]))] ++ (liW (vG X) ad (itL 1 K2 (woT K2 F2 n0) (enK 1 K2 (woT K2 F2 n0) (600 - (n0 : Int)))) K2) ++ (frW (vG X) b c (f143_14) (p143_14)) ++ (liW (vG X) ad2 F2 K2) ++ (liW (vG X) wad (spL K2 (lrL (itL 1 K2 F2 n0))) K2)) (Sb.pl [11, 12, 13, 14, 15, 16, 17, 18, 19, 20, 9, 10, 21, 22, 23, 24, 25, 26, 27, 28, 29, 0, 1, 2, 3, 4, 5, 6, 7, 8] rfl rfl) ?_
                show V X 0 0 146 [(5, vI (woD K2 F2 n0)), (4, vI ((lrL (itL 1 K2 F2 n0)) 5 0)), (8, vI (woD K2 F2 n0)), (7, vI ((lrL (itL 1 K2 F2 n0)) 5 0)), (0, .ref a), (1, .ref (ad2 0)), (2, vI (enV 1 K2 F2 600)), (3, vI (tmL (itL 1 K2 F2 (enK 1 K2 F2 600)))), (6, vI (n0 : Int))] [] ([(a, .inr (0, [.ref (ad 0), .ref (wad 0), .ref b]))] ++ (liW (vG X) ad (itL 1 K2 (woT K2 F2 n0) (enK 1 K2 (woT K2 F2 n0) (600 - (n0 : Int)))) K2) ++ (frW (vG X) b c (f143_14) (p143_14)) ++ (liW (vG X) ad2 F2 K2) ++ (liW (vG X) wad (spL K2 (lrL (itL 1 K2 F2 n0))) K2))
                refine v_iinc C M dX0_worstOf_146 8 rfl (by decide) (z' := ((n0 : Int) + 1)) rfl (L' := [(6, vI ((n0 : Int) + 1)), (5, vI (woD K2 F2 n0)), (4, vI ((lrL (itL 1 K2 F2 n0)) 5 0)), (8, vI (woD K2 F2 n0)), (7, vI ((lrL (itL 1 K2 F2 n0)) 5 0)), (0, .ref a), (1, .ref (ad2 0)), (2, vI (enV 1 K2 F2 600)), (3, vI (tmL (itL 1 K2 F2 (enK 1 K2 F2 600))))]) rfl ?_
                refine v_goto (tgt := 38) C dX0_worstOf_149 (by decide) ?_
                refine V.loc (L' := [(0, .ref a), (1, .ref (ad2 0)), (2, vI (enV 1 K2 F2 600)), (3, vI (tmL (itL 1 K2 F2 (enK 1 K2 F2 600)))), (4, vI ((lrL (itL 1 K2 F2 n0)) 5 0)), (5, vI (woD K2 F2 n0)), (6, vI ((n0 : Int) + 1))]) [5, 6, 7, 8, 2, 1, 0] rfl ?_
                have key := ih (n0 + 1) (itL 1 K2 (woT K2 F2 n0) (enK 1 K2 (woT K2 F2 n0) (600 - (n0 : Int)))) K2 (f143_14) (p143_14) (by omega) (by omega)
                rw [show itL 1 K2 F2 (n0 + 1) = spL K2 (lrL (itL 1 K2 F2 n0)) from congrArg (spL K2) (if_neg (show ¬ (1 : Int) = 0 by decide))] at key
                have e : woL K2 F2 (n0 + 1) = (lrL (itL 1 K2 F2 n0) 5 0, woD K2 F2 n0) := if_pos ⟨c100, Or.inl c117⟩
                have e1 : (woL K2 F2 (n0 + 1)).1 = lrL (itL 1 K2 F2 n0) 5 0 := by rw [e]
                have e2 : (woL K2 F2 (n0 + 1)).2 = woD K2 F2 n0 := by rw [e]
                rw [e1, e2, show ((n0 + 1 : Nat) : Int) = (n0 : Int) + 1 by omega] at key
                exact key
              · skip
                refine v_iload C dX0_worstOf_120 0 rfl ?_
                refine v_iload C dX0_worstOf_122 7 rfl ?_
                refine v_icmp_le (tgt := 135) C dX0_worstOf_124 (by decide) hdd hb2 (fun c124 => ?_) (fun c124 => ?_)
                · skip
                  refine v_aload_n C dX0_worstOf_135 rfl 2 rfl ?_
                  refine v_get (v := .ref (wad 0)) C inw_0 0 1 rfl (by decide) (List.mem_cons_of_mem _ mw_81) rfl rfl dX0_worstOf_136 ?_
                  refine v_aload_n C dX0_worstOf_139 rfl 2 rfl ?_
                  refine v_get (v := .ref b) C inw_0 0 2 rfl (by decide) (List.mem_cons_of_mem _ mw_83) rfl rfl dX0_worstOf_140 ?_
                  refine v_callV (na := 1) (wy := (Cond.code yX3_step cX3_step 3 none :: wsL_law)) (wc := (liW (vG X) wad (lrL (itL 1 K2 F2 n0)) K2) ++ (frW (vG X) b c (f96_9) (p96_9))) (wr := [(a, .inr (0, [.ref (ad 0), .ref (wad 0), .ref b]))] ++ (liW (vG X) ad (itL 1 K2 (woT K2 F2 n0) (enK 1 K2 (woT K2 F2 n0) (600 - (n0 : Int)))) K2) ++ (liW (vG X) ad2 F2 K2)) C [.ref b] [] (c_X3_step _ _ wad (lrL (itL 1 K2 F2 n0)) K2 b c (f96_9) (p96_9) q1 q2 q3 q4) rfl (gwV mw_603 mw_600 mw_601 mw_602 mw_20) rfl (by decide +kernel) 0 rfl rfl rfl rfl (Sb.pl [21, 22, 23, 24, 25, 26, 27, 28, 29, 10, 11, 0, 1, 2, 3, 4, 5, 6, 7, 8, 9, 12, 13, 14, 15, 16, 17, 18, 19, 20] rfl rfl) rfl rfl dX0_worstOf_143 (fun r w1 hp143_15 => ?_)
                  obtain ⟨rfl, f143_16, p143_16, rfl⟩ := hp143_15
                  refine V.sb (ws' := [(a, .inr (0, [.ref (ad 0), .ref (wad 0), .ref b]))] ++ (liW (vG X) ad (itL 1 K2 (woT K2 F2 n0) (enK 1 K2 (woT K2 F2 n0) (600 - (n0 : Int)))) K2) ++ (frW (vG X) b c (f143_16) (p143_16)) ++ (liW (vG X) ad2 F2 K2) ++ (liW (vG X) wad (spL K2 (lrL (itL 1 K2 F2 n0))) K2)) (Sb.pl [11, 12, 13, 14, 15, 16, 17, 18, 19, 20, 9, 10, 21, 22, 23, 24, 25, 26, 27, 28, 29, 0, 1, 2, 3, 4, 5, 6, 7, 8] rfl rfl) ?_
                  show V X 0 0 146 [(8, vI (woD K2 F2 n0)), (7, vI ((lrL (itL 1 K2 F2 n0)) 5 0)), (0, .ref a), (1, .ref (ad2 0)), (2, vI (enV 1 K2 F2 600)), (3, vI (tmL (itL 1 K2 F2 (enK 1 K2 F2 600)))), (4, vI (woL K2 F2 n0).1), (5, vI (woL K2 F2 n0).2), (6, vI (n0 : Int))] [] ([(a, .inr (0, [.ref (ad 0), .ref (wad 0), .ref b]))] ++ (liW (vG X) ad (itL 1 K2 (woT K2 F2 n0) (enK 1 K2 (woT K2 F2 n0) (600 - (n0 : Int)))) K2) ++ (frW (vG X) b c (f143_16) (p143_16)) ++ (liW (vG X) ad2 F2 K2) ++ (liW (vG X) wad (spL K2 (lrL (itL 1 K2 F2 n0))) K2))
                  refine v_iinc C M dX0_worstOf_146 8 rfl (by decide) (z' := ((n0 : Int) + 1)) rfl (L' := [(6, vI ((n0 : Int) + 1)), (8, vI (woD K2 F2 n0)), (7, vI ((lrL (itL 1 K2 F2 n0)) 5 0)), (0, .ref a), (1, .ref (ad2 0)), (2, vI (enV 1 K2 F2 600)), (3, vI (tmL (itL 1 K2 F2 (enK 1 K2 F2 600)))), (4, vI (woL K2 F2 n0).1), (5, vI (woL K2 F2 n0).2)]) rfl ?_
                  refine v_goto (tgt := 38) C dX0_worstOf_149 (by decide) ?_
                  refine V.loc (L' := [(0, .ref a), (1, .ref (ad2 0)), (2, vI (enV 1 K2 F2 600)), (3, vI (tmL (itL 1 K2 F2 (enK 1 K2 F2 600)))), (4, vI (woL K2 F2 n0).1), (5, vI (woL K2 F2 n0).2), (6, vI ((n0 : Int) + 1))]) [3, 4, 5, 6, 7, 8, 0] rfl ?_
                  have key := ih (n0 + 1) (itL 1 K2 (woT K2 F2 n0) (enK 1 K2 (woT K2 F2 n0) (600 - (n0 : Int)))) K2 (f143_16) (p143_16) (by omega) (by omega)
                  rw [show itL 1 K2 F2 (n0 + 1) = spL K2 (lrL (itL 1 K2 F2 n0)) from congrArg (spL K2) (if_neg (show ¬ (1 : Int) = 0 by decide))] at key
                  have e : woL K2 F2 (n0 + 1) = woL K2 F2 n0 := if_neg (fun h => h.2.elim c117 (fun h => absurd h (by omega)))
                  have e1 : (woL K2 F2 (n0 + 1)).1 = (woL K2 F2 n0).1 := by rw [e]
                  have e2 : (woL K2 F2 (n0 + 1)).2 = (woL K2 F2 n0).2 := by rw [e]
                  rw [e1, e2, show ((n0 + 1 : Nat) : Int) = (n0 : Int) + 1 by omega] at key
                  exact key
                · skip
                  refine v_iload C dX0_worstOf_127 1 rfl ?_
                  refine v_istore C M dX0_worstOf_129 (by decide) (L' := [(4, vI ((lrL (itL 1 K2 F2 n0)) 5 0)), (8, vI (woD K2 F2 n0)), (7, vI ((lrL (itL 1 K2 F2 n0)) 5 0)), (0, .ref a), (1, .ref (ad2 0)), (2, vI (enV 1 K2 F2 600)), (3, vI (tmL (itL 1 K2 F2 (enK 1 K2 F2 600)))), (5, vI (woL K2 F2 n0).2), (6, vI (n0 : Int))]) rfl ?_
                  refine v_iload C dX0_worstOf_131 1 rfl ?_
                  refine v_istore C M dX0_worstOf_133 (by decide) (L' := [(5, vI (woD K2 F2 n0)), (4, vI ((lrL (itL 1 K2 F2 n0)) 5 0)), (8, vI (woD K2 F2 n0)), (7, vI ((lrL (itL 1 K2 F2 n0)) 5 0)), (0, .ref a), (1, .ref (ad2 0)), (2, vI (enV 1 K2 F2 600)), (3, vI (tmL (itL 1 K2 F2 (enK 1 K2 F2 600)))), (6, vI (n0 : Int))]) rfl ?_
                  refine v_aload_n C dX0_worstOf_135 rfl 4 rfl ?_
                  refine v_get (v := .ref (wad 0)) C inw_0 0 1 rfl (by decide) (List.mem_cons_of_mem _ mw_81) rfl rfl dX0_worstOf_136 ?_
                  refine v_aload_n C dX0_worstOf_139 rfl 4 rfl ?_
                  refine v_get (v := .ref b) C inw_0 0 2 rfl (by decide) (List.mem_cons_of_mem _ mw_83) rfl rfl dX0_worstOf_140 ?_
                  refine v_callV (na := 1) (wy := (Cond.code yX3_step cX3_step 3 none :: wsL_law)) (wc := (liW (vG X) wad (lrL (itL 1 K2 F2 n0)) K2) ++ (frW (vG X) b c (f96_9) (p96_9))) (wr := [(a, .inr (0, [.ref (ad 0), .ref (wad 0), .ref b]))] ++ (liW (vG X) ad (itL 1 K2 (woT K2 F2 n0) (enK 1 K2 (woT K2 F2 n0) (600 - (n0 : Int)))) K2) ++ (liW (vG X) ad2 F2 K2)) C [.ref b] [] (c_X3_step _ _ wad (lrL (itL 1 K2 F2 n0)) K2 b c (f96_9) (p96_9) q1 q2 q3 q4) rfl (gwV mw_603 mw_600 mw_601 mw_602 mw_20) rfl (by decide +kernel) 0 rfl rfl rfl rfl (Sb.pl [21, 22, 23, 24, 25, 26, 27, 28, 29, 10, 11, 0, 1, 2, 3, 4, 5, 6, 7, 8, 9, 12, 13, 14, 15, 16, 17, 18, 19, 20] rfl rfl) rfl rfl dX0_worstOf_143 (fun r w1 hp143_17 => ?_)
                  obtain ⟨rfl, f143_18, p143_18, rfl⟩ := hp143_17
                  refine V.sb (ws' := [(a, .inr (0, [.ref (ad 0), .ref (wad 0), .ref b]))] ++ (liW (vG X) ad (itL 1 K2 (woT K2 F2 n0) (enK 1 K2 (woT K2 F2 n0) (600 - (n0 : Int)))) K2) ++ (frW (vG X) b c (f143_18) (p143_18)) ++ (liW (vG X) ad2 F2 K2) ++ (liW (vG X) wad (spL K2 (lrL (itL 1 K2 F2 n0))) K2)) (Sb.pl [11, 12, 13, 14, 15, 16, 17, 18, 19, 20, 9, 10, 21, 22, 23, 24, 25, 26, 27, 28, 29, 0, 1, 2, 3, 4, 5, 6, 7, 8] rfl rfl) ?_
                  show V X 0 0 146 [(5, vI (woD K2 F2 n0)), (4, vI ((lrL (itL 1 K2 F2 n0)) 5 0)), (8, vI (woD K2 F2 n0)), (7, vI ((lrL (itL 1 K2 F2 n0)) 5 0)), (0, .ref a), (1, .ref (ad2 0)), (2, vI (enV 1 K2 F2 600)), (3, vI (tmL (itL 1 K2 F2 (enK 1 K2 F2 600)))), (6, vI (n0 : Int))] [] ([(a, .inr (0, [.ref (ad 0), .ref (wad 0), .ref b]))] ++ (liW (vG X) ad (itL 1 K2 (woT K2 F2 n0) (enK 1 K2 (woT K2 F2 n0) (600 - (n0 : Int)))) K2) ++ (frW (vG X) b c (f143_18) (p143_18)) ++ (liW (vG X) ad2 F2 K2) ++ (liW (vG X) wad (spL K2 (lrL (itL 1 K2 F2 n0))) K2))
                  refine v_iinc C M dX0_worstOf_146 8 rfl (by decide) (z' := ((n0 : Int) + 1)) rfl (L' := [(6, vI ((n0 : Int) + 1)), (5, vI (woD K2 F2 n0)), (4, vI ((lrL (itL 1 K2 F2 n0)) 5 0)), (8, vI (woD K2 F2 n0)), (7, vI ((lrL (itL 1 K2 F2 n0)) 5 0)), (0, .ref a), (1, .ref (ad2 0)), (2, vI (enV 1 K2 F2 600)), (3, vI (tmL (itL 1 K2 F2 (enK 1 K2 F2 600))))]) rfl ?_
                  refine v_goto (tgt := 38) C dX0_worstOf_149 (by decide) ?_
                  refine V.loc (L' := [(0, .ref a), (1, .ref (ad2 0)), (2, vI (enV 1 K2 F2 600)), (3, vI (tmL (itL 1 K2 F2 (enK 1 K2 F2 600)))), (4, vI ((lrL (itL 1 K2 F2 n0)) 5 0)), (5, vI (woD K2 F2 n0)), (6, vI ((n0 : Int) + 1))]) [5, 6, 7, 8, 2, 1, 0] rfl ?_
                  have key := ih (n0 + 1) (itL 1 K2 (woT K2 F2 n0) (enK 1 K2 (woT K2 F2 n0) (600 - (n0 : Int)))) K2 (f143_18) (p143_18) (by omega) (by omega)
                  rw [show itL 1 K2 F2 (n0 + 1) = spL K2 (lrL (itL 1 K2 F2 n0)) from congrArg (spL K2) (if_neg (show ¬ (1 : Int) = 0 by decide))] at key
                  have e : woL K2 F2 (n0 + 1) = (lrL (itL 1 K2 F2 n0) 5 0, woD K2 F2 n0) := if_pos ⟨c100, Or.inr (by omega)⟩
                  have e1 : (woL K2 F2 (n0 + 1)).1 = lrL (itL 1 K2 F2 n0) 5 0 := by rw [e]
                  have e2 : (woL K2 F2 (n0 + 1)).2 = woD K2 F2 n0 := by rw [e]
                  rw [e1, e2, show ((n0 + 1 : Nat) : Int) = (n0 : Int) + 1 by omega] at key
                  exact key
    exact lp 601 0 (itL 1 K2 F2 (enK 1 K2 F2 600)) K2 (f3_2) (p3_2) (by omega) (by decide)
  · skip
    refine v_iconst C dX0_worstOf_11 ?_
    exact v_iret C E rfl dX0_worstOf_12 (by decide) (by decide) (⟨_, _, _, _, _, _, by rw [show wsL K2 F2 = _ from if_pos (by omega)], rfl⟩)
end C15
