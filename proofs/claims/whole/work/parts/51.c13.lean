section C13
set_option maxHeartbeats 4000000 in
set_option maxRecDepth 100000 in
theorem c_X0_framesToEnd (G : GG) (l : Launch) (a wd b c : Nat) (ad : Nat → Nat) (F : Int → Int → Int) (K : Int → Int → Int64) (f pl : Int → Int) (rd q : Int) (hrd : rd = 0 ∨ rd = 1) (hq : 0 ≤ q ∧ q ≤ 1000) (hov : ∀ j : Nat, (j : Int) ≤ q → ∀ i, sB 100000000 (itL rd K F j i)) (hok : ∀ j : Nat, (j : Int) ≤ q → OKL (rdL rd (itL rd K F j))) : Ct G l yX0_framesToEnd (Cond.code yX0_framesToEnd cX0_framesToEnd 4 (some .int) :: wsL_law) 4 128 0 0 [.ref a, vI rd, vI q] ([(a, .inr (0, [.ref (ad 0), .ref wd, .ref b]))] ++ (liW G ad F K) ++ (frW G b c (f) (pl))) (fun r w => ∃ (n : Nat) (f2 pl2 : Int → Int), w = [(a, .inr (0, [.ref (ad 0), .ref wd, .ref b]))] ++ liW G ad (itL rd K F n) K ++ frW G b c f2 pl2 ∧ (∀ j : Nat, j < n → ¬ ovL (itL rd K F j)) ∧ (((n : Int) ≤ q ∧ ovL (itL rd K F n) ∧ r = some (vI n)) ∨ ((n : Int) = q + 1 ∧ r = some (vI (-1))))) := by
  refine Ct.of (own := RX0) (cc := cX0_framesToEnd) (maxL := 4) (ret := (some .int)) (by decide) rfl rfl (Nat.le_of_ble_eq_true rfl) (fun X C E M hG hl => ?_)
  subst hG hl
  refine v_iconst C dX0_framesToEnd_0 ?_
  refine v_istore_n C M dX0_framesToEnd_1 rfl (by decide) (L' := [(3, vI 0), (0, .ref a), (1, vI rd), (2, vI q)]) rfl ?_
  refine V.loc (L' := [(0, .ref a), (1, vI rd), (2, vI q), (3, vI 0)]) [1, 2, 3, 0] rfl ?_
  have lp : ∀ (n : Nat) (n0 : Nat) (f2 : Int → Int) (p2 : Int → Int) (hn0 : (n0 : Int) ≤ q + 1) (hno : ∀ j : Nat, j < n0 → ¬ ovL (itL rd K F j)) (hm : q + 1 - (n0 : Int) < (n : Int)), V X 0 0 2 [(0, .ref a), (1, vI rd), (2, vI q), (3, vI (n0 : Int))] [] ([(a, .inr (0, [.ref (ad 0), .ref wd, .ref b]))] ++ (liW (vG X) ad (itL rd K F n0) K) ++ (frW (vG X) b c (f2) (p2))) := by
    intro n
    induction n with
    | zero => intro n0 f2 p2 hn0 hno hm; exact absurd hm (by omega)
    | succ n ih =>
      intro n0 f2 p2 hn0 hno hm
      refine v_iload_n C dX0_framesToEnd_2 rfl 3 rfl ?_
      refine v_iload_n C dX0_framesToEnd_3 rfl 2 rfl ?_
      refine v_icmp_gt (tgt := 47) C dX0_framesToEnd_4 (by decide) (by  first | assumption | exact ⟨by omega, by omega⟩) (by  first | assumption | exact ⟨by omega, by omega⟩) (fun c4 => ?_) (fun c4 => ?_)
      · refine v_iconst C dX0_framesToEnd_47 ?_
        exact v_iret C E rfl dX0_framesToEnd_48 (by decide) (by decide) (⟨n0, _, _, rfl, hno, Or.inr ⟨by omega, rfl⟩⟩)
      · refine v_aload_n C dX0_framesToEnd_7 rfl 0 rfl ?_
        refine v_get (v := .ref (ad 0)) C inw_0 0 0 rfl (by decide) (List.mem_cons_of_mem _ mw_80) rfl rfl dX0_framesToEnd_8 ?_
        refine v_callV (na := 0) (wy := (Cond.code yX3_isAllAccepted cX3_isAllAccepted 1 (some .boolean) :: wsL_law)) (wc := (liW (vG X) ad (itL rd K F n0) K)) (wr := [(a, .inr (0, [.ref (ad 0), .ref wd, .ref b]))] ++ (frW (vG X) b c (f2) (p2))) C [] [] (c_X3_isAllAccepted _ _ ad (itL rd K F n0) K (hov n0 (by omega))) rfl (gwV mw_595 mw_592 mw_593 mw_594 mw_20) rfl (by decide +kernel) 0 rfl rfl rfl rfl (Sb.pl [1, 2, 3, 4, 5, 6, 7, 8, 9, 0, 10, 11] rfl rfl) rfl rfl dX0_framesToEnd_11 (fun r w1 hp11_1 => ?_)
        obtain ⟨rfl, rfl⟩ := hp11_1
        refine V.sb (ws' := [(a, .inr (0, [.ref (ad 0), .ref wd, .ref b]))] ++ (liW (vG X) ad (itL rd K F n0) K) ++ (frW (vG X) b c (f2) (p2))) (Sb.pl [9, 0, 1, 2, 3, 4, 5, 6, 7, 8, 10, 11] rfl rfl) ?_
        show V X 0 0 14 [(0, .ref a), (1, vI rd), (2, vI q), (3, vI (n0 : Int))] [vI (bI (ovL (itL rd K F n0)))] ([(a, .inr (0, [.ref (ad 0), .ref wd, .ref b]))] ++ (liW (vG X) ad (itL rd K F n0) K) ++ (frW (vG X) b c (f2) (p2)))
        refine v_if_eq (tgt := 19) C dX0_framesToEnd_14 (by decide) sm_bI (fun c14 => ?_) (fun c14 => ?_)
        · have cO := bI_0.mp c14
          have hk := hok n0 (by omega)
          refine v_iload_n C dX0_framesToEnd_19 rfl 1 rfl ?_
          refine v_if_eq (tgt := 30) C dX0_framesToEnd_20 (by decide) (by  first | assumption | exact ⟨by omega, by omega⟩) (fun c20 => ?_) (fun c20 => ?_)
          · skip
            obtain ⟨q1, q2, q3, q4⟩ := hk
            rw [show rdL rd (itL rd K F n0) = (itL rd K F n0) from if_pos (show rd = 0 by omega)] at q1 q2 q3 q4
            refine v_aload_n C dX0_framesToEnd_30 rfl 0 rfl ?_
            refine v_get (v := .ref (ad 0)) C inw_0 0 0 rfl (by decide) (List.mem_cons_of_mem _ mw_80) rfl rfl dX0_framesToEnd_31 ?_
            refine v_aload_n C dX0_framesToEnd_34 rfl 0 rfl ?_
            refine v_get (v := .ref b) C inw_0 0 2 rfl (by decide) (List.mem_cons_of_mem _ mw_83) rfl rfl dX0_framesToEnd_35 ?_
            refine v_callV (na := 1) (wy := (Cond.code yX3_step cX3_step 3 none :: wsL_law)) (wc := (liW (vG X) ad (itL rd K F n0) K) ++ (frW (vG X) b c (f2) (p2))) (wr := [(a, .inr (0, [.ref (ad 0), .ref wd, .ref b]))]) C [.ref b] [] (c_X3_step _ _ ad (itL rd K F n0) K b c (f2) (p2) q1 q2 q3 q4) rfl (gwV mw_603 mw_600 mw_601 mw_602 mw_20) rfl (by decide +kernel) 0 rfl rfl rfl rfl (Sb.pl [1, 2, 3, 4, 5, 6, 7, 8, 9, 10, 11, 0] rfl rfl) rfl rfl dX0_framesToEnd_38 (fun r w1 hp38_2 => ?_)
            obtain ⟨rfl, f38_3, p38_3, rfl⟩ := hp38_2
            refine V.sb (ws' := [(a, .inr (0, [.ref (ad 0), .ref wd, .ref b]))] ++ (liW (vG X) ad (spL K (itL rd K F n0)) K) ++ (frW (vG X) b c (f38_3) (p38_3))) (Sb.pl [11, 0, 1, 2, 3, 4, 5, 6, 7, 8, 9, 10] rfl rfl) ?_
            show V X 0 0 41 [(0, .ref a), (1, vI rd), (2, vI q), (3, vI (n0 : Int))] [] ([(a, .inr (0, [.ref (ad 0), .ref wd, .ref b]))] ++ (liW (vG X) ad (spL K (itL rd K F n0)) K) ++ (frW (vG X) b c (f38_3) (p38_3)))
            refine v_iinc C M dX0_framesToEnd_41 3 rfl (by decide) (z' := ((n0 : Int) + 1)) rfl (L' := [(3, vI ((n0 : Int) + 1)), (0, .ref a), (1, vI rd), (2, vI q)]) rfl ?_
            refine v_goto (tgt := 2) C dX0_framesToEnd_44 (by decide) ?_
            refine V.loc (L' := [(0, .ref a), (1, vI rd), (2, vI q), (3, vI ((n0 : Int) + 1))]) [1, 2, 3, 0] rfl ?_
            have key := fun u v => ih (n0 + 1) u v (by omega) (fun j hj => by
              by_cases e : j = n0
              · rw [e]; exact cO
              · exact hno j (by omega)) (by omega)
            rw [show itL rd K F (n0 + 1) = spL K (itL rd K F n0) from congrArg (spL K) (if_pos (show rd = 0 by omega))] at key
            exact key _ _
          · skip
            obtain ⟨q1, q2, q3, q4⟩ := hk
            rw [show rdL rd (itL rd K F n0) = (lrL (itL rd K F n0)) from if_neg (show ¬ rd = 0 by omega)] at q1 q2 q3 q4
            refine v_aload_n C dX0_framesToEnd_23 rfl 0 rfl ?_
            refine v_get (v := .ref (ad 0)) C inw_0 0 0 rfl (by decide) (List.mem_cons_of_mem _ mw_80) rfl rfl dX0_framesToEnd_24 ?_
            refine v_callV (na := 0) (wy := (Cond.code yX3_letHostsRead cX3_letHostsRead 1 none :: wsL_law)) (wc := (liW (vG X) ad (itL rd K F n0) K)) (wr := [(a, .inr (0, [.ref (ad 0), .ref wd, .ref b]))] ++ (frW (vG X) b c (f2) (p2))) C [] [] (c_X3_letHostsRead _ _ ad (itL rd K F n0) K) rfl (gwV mw_599 mw_596 mw_597 mw_598 mw_20) rfl (by decide +kernel) 0 rfl rfl rfl rfl (Sb.pl [1, 2, 3, 4, 5, 6, 7, 8, 9, 0, 10, 11] rfl rfl) rfl rfl dX0_framesToEnd_27 (fun r w1 hp27_4 => ?_)
            obtain ⟨rfl, rfl⟩ := hp27_4
            refine V.sb (ws' := [(a, .inr (0, [.ref (ad 0), .ref wd, .ref b]))] ++ (liW (vG X) ad (lrL (itL rd K F n0)) K) ++ (frW (vG X) b c (f2) (p2))) (Sb.pl [9, 0, 1, 2, 3, 4, 5, 6, 7, 8, 10, 11] rfl rfl) ?_
            show V X 0 0 30 [(0, .ref a), (1, vI rd), (2, vI q), (3, vI (n0 : Int))] [] ([(a, .inr (0, [.ref (ad 0), .ref wd, .ref b]))] ++ (liW (vG X) ad (lrL (itL rd K F n0)) K) ++ (frW (vG X) b c (f2) (p2)))
            refine v_aload_n C dX0_framesToEnd_30 rfl 0 rfl ?_
            refine v_get (v := .ref (ad 0)) C inw_0 0 0 rfl (by decide) (List.mem_cons_of_mem _ mw_80) rfl rfl dX0_framesToEnd_31 ?_
            refine v_aload_n C dX0_framesToEnd_34 rfl 0 rfl ?_
            refine v_get (v := .ref b) C inw_0 0 2 rfl (by decide) (List.mem_cons_of_mem _ mw_83) rfl rfl dX0_framesToEnd_35 ?_
            refine v_callV (na := 1) (wy := (Cond.code yX3_step cX3_step 3 none :: wsL_law)) (wc := (liW (vG X) ad (lrL (itL rd K F n0)) K) ++ (frW (vG X) b c (f2) (p2))) (wr := [(a, .inr (0, [.ref (ad 0), .ref wd, .ref b]))]) C [.ref b] [] (c_X3_step _ _ ad (lrL (itL rd K F n0)) K b c (f2) (p2) q1 q2 q3 q4) rfl (gwV mw_603 mw_600 mw_601 mw_602 mw_20) rfl (by decide +kernel) 0 rfl rfl rfl rfl (Sb.pl [1, 2, 3, 4, 5, 6, 7, 8, 9, 10, 11, 0] rfl rfl) rfl rfl dX0_framesToEnd_38 (fun r w1 hp38_5 => ?_)
            obtain ⟨rfl, f38_6, p38_6, rfl⟩ := hp38_5
            refine V.sb (ws' := [(a, .inr (0, [.ref (ad 0), .ref wd, .ref b]))] ++ (liW (vG X) ad (spL K (lrL (itL rd K F n0))) K) ++ (frW (vG X) b c (f38_6) (p38_6))) (Sb.pl [11, 0, 1, 2, 3, 4, 5, 6, 7, 8, 9, 10] rfl rfl) ?_
            show V X 0 0 41 [(0, .ref a), (1, vI rd), (2, vI q), (3, vI (n0 : Int))] [] ([(a, .inr (0, [.ref (ad 0), .ref wd, .ref b]))] ++ (liW (vG X) ad (spL K (lrL (itL rd K F n0))) K) ++ (frW (vG X) b c (f38_6) (p38_6)))
            refine v_iinc C M dX0_framesToEnd_41 3 rfl (by decide) (z' := ((n0 : Int) + 1)) rfl (L' := [(3, vI ((n0 : Int) + 1)), (0, .ref a), (1, vI rd), (2, vI q)]) rfl ?_
            refine v_goto (tgt := 2) C dX0_framesToEnd_44 (by decide) ?_
            refine V.loc (L' := [(0, .ref a), (1, vI rd), (2, vI q), (3, vI ((n0 : Int) + 1))]) [1, 2, 3, 0] rfl ?_
            have key := fun u v => ih (n0 + 1) u v (by omega) (fun j hj => by
              by_cases e : j = n0
              · rw [e]; exact cO
              · exact hno j (by omega)) (by omega)
            rw [show itL rd K F (n0 + 1) = spL K (lrL (itL rd K F n0)) from congrArg (spL K) (if_neg (show ¬ rd = 0 by omega))] at key
            exact key _ _
        · have cO := bI_n0.mp c14
          refine v_iload_n C dX0_framesToEnd_17 rfl 3 rfl ?_
          exact v_iret C E rfl dX0_framesToEnd_18 (by decide) (by decide) (⟨n0, _, _, rfl, hno, Or.inl ⟨by omega, cO, rfl⟩⟩)
  exact lp (q.toNat + 2) 0 f pl (by omega) (fun j hj => absurd hj (by omega)) (by omega)
end C13
