section M16
set_option maxHeartbeats 4000000 in
set_option maxRecDepth 100000 in
theorem c_X8_efficiency (G : GG) (l : Launch) (ad : Nat → Nat) (F : Int → Int → Int) (hB : sB 1000000 (F 2)) (h30 : 0 ≤ F 2 30 ∧ F 2 30 ≤ 20) (h19 : 0 ≤ F 2 19 ∧ F 2 19 ≤ 20) : Ct G l yX8_efficiency (Cond.code yX8_efficiency cX8_efficiency 4 (some .double) :: wsL_law) 2 43 0 0 [.ref (ad 0)] ((mW G ad F)) (fun r w => r = some (.double (efM (F 2))) ∧ w = mW G ad (up F 0 (up (F 0) 0 0))) := by
  refine Ct.of (own := RX8) (cc := cX8_efficiency) (maxL := 4) (ret := (some .double)) (by decide) rfl rfl (Nat.le_of_ble_eq_true rfl) (fun X C E M hG hl => ?_)
  subst hG hl
  refine v_aload_n C dX8_efficiency_0 rfl 0 rfl ?_
  refine v_iconst C dX8_efficiency_1 ?_
  refine v_put C inw_8 tyX8 tyX8_ok nmX8 0 0 rfl (by decide) (List.mem_cons_of_mem _ mw_147) rfl rfl rfl rfl (Nat.le_of_ble_eq_true rfl) dX8_efficiency_2 (ws' := (mW (vG X) ad (up F 0 (up (F 0) 0 0)))) rfl ?_
  refine v_iconst C dX8_efficiency_5 ?_
  refine v_istore_n C M dX8_efficiency_6 rfl (by decide) (L' := [(1, vI 0), (0, .ref (ad 0))]) rfl ?_
  refine v_iconst C dX8_efficiency_7 ?_
  refine v_istore_n C M dX8_efficiency_8 rfl (by decide) (L' := [(2, vI 0), (1, vI 0), (0, .ref (ad 0))]) rfl ?_
  refine v_iload_n C dX8_efficiency_9 rfl 0 rfl ?_
  refine v_iconst C dX8_efficiency_10 ?_
  refine v_icmp_ge (tgt := 53) C dX8_efficiency_11 (by decide) (by decide) (by decide) (fun c => absurd c (by decide)) (fun _ => ?_)
  refine v_iconst C dX8_efficiency_14 ?_
  refine v_istore_n C M dX8_efficiency_15 rfl (by decide) (L' := [(3, vI 0), (2, vI 0), (1, vI 0), (0, .ref (ad 0))]) rfl ?_
  refine V.loc (L' := [(0, .ref (ad 0)), (1, vI 0), (2, vI 0), (3, vI 0)]) [3, 2, 1, 0] rfl ?_
  skip
  have lp1 : ∀ (n : Nat) (k0 : Int) (hk0 : 0 ≤ k0) (hk0b : k0 ≤ F 2 30) (hm : F 2 30 - k0 < (n : Int)), V X 0 0 16 [(0, .ref (ad 0)), (1, vI (0 + sumI (fun m => F 2 (40 + 20 * 0 + m)) k0)), (2, vI 0), (3, vI k0)] [] ((mW (vG X) ad (up F 0 (up (F 0) 0 0)))) := by
    intro n
    induction n with
    | zero => intro k0 hk0 hk0b hm; exact absurd hm (by omega)
    | succ n ih =>
      intro k0 hk0 hk0b hm
      refine v_iload_n C dX8_efficiency_16 rfl 3 rfl ?_
      refine v_aload_n C dX8_efficiency_17 rfl 0 rfl ?_
      refine v_iconst C dX8_efficiency_18 ?_
      refine v_iload_n C dX8_efficiency_19 rfl 2 rfl ?_
      refine v_isub C dX8_efficiency_20 ?_
      show V X 0 0 21 [(0, .ref (ad 0)), (1, vI (0 + sumI (fun m => F 2 (40 + 20 * 0 + m)) k0)), (2, vI 0), (3, vI k0)] [vI 1, .ref (ad 0), vI k0] ((mW (vG X) ad (up F 0 (up (F 0) 0 0))))
      refine v_iconst C dX8_efficiency_21 ?_
      refine v_callV (na := 2) (wy := (Cond.code yX8_of cX8_of 3 (some .int) :: wsL_law)) (wc := (mW (vG X) ad (up F 0 (up (F 0) 0 0)))) (wr := []) C [vI 1, vI 1] [vI k0] (c_X8_of _ _ ad (up F 0 (up (F 0) 0 0)) 1 1 (by decide) (by decide)) rfl (gwV mw_129 mw_126 mw_127 mw_128 mw_5) rfl (by decide +kernel) 0 rfl rfl rfl rfl Sb.w rfl rfl dX8_efficiency_22 (fun r w1 hp22_1 => ?_)
      obtain ⟨rfl, rfl⟩ := hp22_1
      show V X 0 0 25 [(0, .ref (ad 0)), (1, vI (0 + sumI (fun m => F 2 (40 + 20 * 0 + m)) k0)), (2, vI 0), (3, vI k0)] [vI (F 2 30), vI k0] ((mW (vG X) ad (up F 0 (up (F 0) 0 0))))
      refine v_icmp_ge (tgt := 47) C dX8_efficiency_25 (by decide) (by  first | assumption | exact ⟨by omega, by omega⟩) (by have := hB 30; first | assumption | exact ⟨by omega, by omega⟩) (fun c25 => ?_) (fun c25 => ?_)
      · skip
        obtain rfl : k0 = F 2 30 := by omega
        refine v_iinc C M dX8_efficiency_47 2 rfl (by decide) (z' := 1) rfl (L' := [(2, vI 1), (0, .ref (ad 0)), (1, vI (0 + sumI (fun m => F 2 (40 + 20 * 0 + m)) (F 2 30))), (3, vI (F 2 30))]) rfl ?_
        refine v_goto (tgt := 9) C dX8_efficiency_50 (by decide) ?_
        refine v_iload_n C dX8_efficiency_9 rfl 0 rfl ?_
        refine v_iconst C dX8_efficiency_10 ?_
        refine v_icmp_ge (tgt := 53) C dX8_efficiency_11 (by decide) (by decide) (by decide) (fun c => absurd c (by decide)) (fun _ => ?_)
        refine v_iconst C dX8_efficiency_14 ?_
        refine v_istore_n C M dX8_efficiency_15 rfl (by decide) (L' := [(3, vI 0), (2, vI 1), (0, .ref (ad 0)), (1, vI (0 + sumI (fun m => F 2 (40 + 20 * 0 + m)) (F 2 30)))]) rfl ?_
        refine V.loc (L' := [(0, .ref (ad 0)), (1, vI (0 + sumI (fun m => F 2 (40 + 20 * 0 + m)) (F 2 30))), (2, vI 1), (3, vI 0)]) [2, 3, 1, 0] rfl ?_
        skip
        have lp2 : ∀ (n : Nat) (k1 : Int) (hk1 : 0 ≤ k1) (hk1b : k1 ≤ F 2 19) (hm : F 2 19 - k1 < (n : Int)), V X 0 0 16 [(0, .ref (ad 0)), (1, vI ((0 + sumI (fun m => F 2 (40 + 20 * 0 + m)) (F 2 30)) + sumI (fun m => F 2 (40 + 20 * 1 + m)) k1)), (2, vI 1), (3, vI k1)] [] ((mW (vG X) ad (up F 0 (up (F 0) 0 0)))) := by
          intro n
          induction n with
          | zero => intro k1 hk1 hk1b hm; exact absurd hm (by omega)
          | succ n ih =>
            intro k1 hk1 hk1b hm
            refine v_iload_n C dX8_efficiency_16 rfl 3 rfl ?_
            refine v_aload_n C dX8_efficiency_17 rfl 0 rfl ?_
            refine v_iconst C dX8_efficiency_18 ?_
            refine v_iload_n C dX8_efficiency_19 rfl 2 rfl ?_
            refine v_isub C dX8_efficiency_20 ?_
            show V X 0 0 21 [(0, .ref (ad 0)), (1, vI ((0 + sumI (fun m => F 2 (40 + 20 * 0 + m)) (F 2 30)) + sumI (fun m => F 2 (40 + 20 * 1 + m)) k1)), (2, vI 1), (3, vI k1)] [vI 0, .ref (ad 0), vI k1] ((mW (vG X) ad (up F 0 (up (F 0) 0 0))))
            refine v_iconst C dX8_efficiency_21 ?_
            refine v_callV (na := 2) (wy := (Cond.code yX8_of cX8_of 3 (some .int) :: wsL_law)) (wc := (mW (vG X) ad (up F 0 (up (F 0) 0 0)))) (wr := []) C [vI 0, vI 1] [vI k1] (c_X8_of _ _ ad (up F 0 (up (F 0) 0 0)) 0 1 (by decide) (by decide)) rfl (gwV mw_129 mw_126 mw_127 mw_128 mw_5) rfl (by decide +kernel) 0 rfl rfl rfl rfl Sb.w rfl rfl dX8_efficiency_22 (fun r w1 hp22_2 => ?_)
            obtain ⟨rfl, rfl⟩ := hp22_2
            show V X 0 0 25 [(0, .ref (ad 0)), (1, vI ((0 + sumI (fun m => F 2 (40 + 20 * 0 + m)) (F 2 30)) + sumI (fun m => F 2 (40 + 20 * 1 + m)) k1)), (2, vI 1), (3, vI k1)] [vI (F 2 19), vI k1] ((mW (vG X) ad (up F 0 (up (F 0) 0 0))))
            refine v_icmp_ge (tgt := 47) C dX8_efficiency_25 (by decide) (by  first | assumption | exact ⟨by omega, by omega⟩) (by have := hB 19; first | assumption | exact ⟨by omega, by omega⟩) (fun c25 => ?_) (fun c25 => ?_)
            · skip
              obtain rfl : k1 = F 2 19 := by omega
              refine v_iinc C M dX8_efficiency_47 2 rfl (by decide) (z' := 2) rfl (L' := [(2, vI 2), (0, .ref (ad 0)), (1, vI ((0 + sumI (fun m => F 2 (40 + 20 * 0 + m)) (F 2 30)) + sumI (fun m => F 2 (40 + 20 * 1 + m)) (F 2 19))), (3, vI (F 2 19))]) rfl ?_
              refine v_goto (tgt := 9) C dX8_efficiency_50 (by decide) ?_
              refine v_iload_n C dX8_efficiency_9 rfl 0 rfl ?_
              refine v_iconst C dX8_efficiency_10 ?_
              refine v_icmp_ge (tgt := 53) C dX8_efficiency_11 (by decide) (by decide) (by decide) (fun _ => ?_) (fun c => absurd (by decide) c)
              refine v_aload_n C dX8_efficiency_53 rfl 1 rfl ?_
              refine v_get (v := .ref (ad 2)) C inw_8 0 10 rfl (by decide) (List.mem_cons_of_mem _ mw_105) rfl rfl dX8_efficiency_54 ?_
              refine v_bipush C dX8_efficiency_57 (by decide +kernel) ?_
              refine v_iald C 2 rfl (by decide) (by decide) (by decide) dX8_efficiency_59 ?_
              show V X 0 0 60 [(2, vI 2), (0, .ref (ad 0)), (1, vI ((0 + sumI (fun m => F 2 (40 + 20 * 0 + m)) (F 2 30)) + sumI (fun m => F 2 (40 + 20 * 1 + m)) (F 2 19))), (3, vI (F 2 19))] [vI (F 2 14)] ((mW (vG X) ad (up F 0 (up (F 0) 0 0))))
              refine v_if_ne (tgt := 67) C dX8_efficiency_60 (by decide) (by have := hB 14; first | assumption | exact ⟨by omega, by omega⟩) (fun c60 => ?_) (fun c60 => ?_)
              · skip
                refine v_iload_n C dX8_efficiency_67 rfl 2 rfl ?_
                refine v_i2d C dX8_efficiency_68 ?_
                refine v_aload_n C dX8_efficiency_69 rfl 1 rfl ?_
                refine v_get (v := .ref (ad 2)) C inw_8 0 10 rfl (by decide) (List.mem_cons_of_mem _ mw_105) rfl rfl dX8_efficiency_70 ?_
                refine v_bipush C dX8_efficiency_73 (by decide +kernel) ?_
                refine v_iald C 2 rfl (by decide) (by decide) (by decide) dX8_efficiency_75 ?_
                show V X 0 0 76 [(2, vI 2), (0, .ref (ad 0)), (1, vI ((0 + sumI (fun m => F 2 (40 + 20 * 0 + m)) (F 2 30)) + sumI (fun m => F 2 (40 + 20 * 1 + m)) (F 2 19))), (3, vI (F 2 19))] [vI (F 2 14), .double (FP.i2d (iI ((0 + sumI (fun m => F 2 (40 + 20 * 0 + m)) (F 2 30)) + sumI (fun m => F 2 (40 + 20 * 1 + m)) (F 2 19))))] ((mW (vG X) ad (up F 0 (up (F 0) 0 0))))
                refine v_i2d C dX8_efficiency_76 ?_
                refine v_ddiv C dX8_efficiency_77 (dd_n64 (dd_nz (show sm (F 2 14) by have := hB 14; exact ⟨by omega, by omega⟩) c60)) ?_
                exact v_dret C E rfl dX8_efficiency_78 (by decide) (by decide) (⟨by rw [show efM (F 2) = _ from if_neg c60, gdM, Int.zero_add], rfl⟩)
              · skip
                refine v_dconst0 C dX8_efficiency_63 ?_
                refine v_goto (tgt := 78) C dX8_efficiency_64 (by decide) ?_
                exact v_dret C E rfl dX8_efficiency_78 (by decide) (by decide) (⟨by rw [show efM (F 2) = _ from if_pos c60], rfl⟩)
            · skip
              refine v_iload_n C dX8_efficiency_28 rfl 1 rfl ?_
              refine v_aload_n C dX8_efficiency_29 rfl 0 rfl ?_
              refine v_get (v := .ref (ad 2)) C inw_8 0 10 rfl (by decide) (List.mem_cons_of_mem _ mw_105) rfl rfl dX8_efficiency_30 ?_
              refine v_iload_n C dX8_efficiency_33 rfl 2 rfl ?_
              refine v_iload_n C dX8_efficiency_34 rfl 3 rfl ?_
              refine v_callS (na := 2) (wy := (Cond.code yX8_lengthAt cX8_lengthAt 2 (some .int) :: wsL_law)) (wc := []) (wr := (mW (vG X) ad (up F 0 (up (F 0) 0 0)))) C [vI 1, vI k1] [.ref (ad 2), vI ((0 + sumI (fun m => F 2 (40 + 20 * 0 + m)) (F 2 30)) + sumI (fun m => F 2 (40 + 20 * 1 + m)) k1)] (c_X8_lengthAt _ _ 1 k1 ) rfl (gwS mw_400 mw_398 mw_399 mw_5) (by decide +kernel) rfl rfl Sb.rf rfl rfl dX8_efficiency_35 (fun r w1 hp35_3 => ?_)
              obtain ⟨rfl, rfl⟩ := hp35_3
              show V X 0 0 38 [(0, .ref (ad 0)), (1, vI ((0 + sumI (fun m => F 2 (40 + 20 * 0 + m)) (F 2 30)) + sumI (fun m => F 2 (40 + 20 * 1 + m)) k1)), (2, vI 1), (3, vI k1)] [vI (60 + k1), .ref (ad 2), vI ((0 + sumI (fun m => F 2 (40 + 20 * 0 + m)) (F 2 30)) + sumI (fun m => F 2 (40 + 20 * 1 + m)) k1)] ((mW (vG X) ad (up F 0 (up (F 0) 0 0))))
              refine v_iald C 2 rfl (by  omega) (by  omega) (by decide) dX8_efficiency_38 ?_
              show V X 0 0 39 [(0, .ref (ad 0)), (1, vI ((0 + sumI (fun m => F 2 (40 + 20 * 0 + m)) (F 2 30)) + sumI (fun m => F 2 (40 + 20 * 1 + m)) k1)), (2, vI 1), (3, vI k1)] [vI (F 2 (60 + k1)), vI ((0 + sumI (fun m => F 2 (40 + 20 * 0 + m)) (F 2 30)) + sumI (fun m => F 2 (40 + 20 * 1 + m)) k1)] ((mW (vG X) ad (up F 0 (up (F 0) 0 0))))
              refine v_iadd C dX8_efficiency_39 ?_
              rw [show ((0 + sumI (fun m => F 2 (40 + 20 * 0 + m)) (F 2 30)) + sumI (fun m => F 2 (40 + 20 * 1 + m)) k1) + F 2 (60 + k1) = ((0 + sumI (fun m => F 2 (40 + 20 * 0 + m)) (F 2 30)) + sumI (fun m => F 2 (40 + 20 * 1 + m)) (k1 + 1)) by rw [sumI_s hk1, ← Int.add_assoc]; rfl]
              refine v_istore_n C M dX8_efficiency_40 rfl (by decide) (L' := [(1, vI ((0 + sumI (fun m => F 2 (40 + 20 * 0 + m)) (F 2 30)) + sumI (fun m => F 2 (40 + 20 * 1 + m)) (k1 + 1))), (0, .ref (ad 0)), (2, vI 1), (3, vI k1)]) rfl ?_
              refine v_iinc C M dX8_efficiency_41 3 rfl (by decide) (z' := (k1 + 1)) rfl (L' := [(3, vI (k1 + 1)), (1, vI ((0 + sumI (fun m => F 2 (40 + 20 * 0 + m)) (F 2 30)) + sumI (fun m => F 2 (40 + 20 * 1 + m)) (k1 + 1))), (0, .ref (ad 0)), (2, vI 1)]) rfl ?_
              refine v_goto (tgt := 16) C dX8_efficiency_44 (by decide) ?_
              refine V.loc (L' := [(0, .ref (ad 0)), (1, vI ((0 + sumI (fun m => F 2 (40 + 20 * 0 + m)) (F 2 30)) + sumI (fun m => F 2 (40 + 20 * 1 + m)) (k1 + 1))), (2, vI 1), (3, vI (k1 + 1))]) [2, 1, 3, 0] rfl ?_
              exact ih (k1 + 1) (by omega) (by omega) (by omega)
        have key := lp2 21 0 (by omega) (by omega) (by omega)
        rw [show ((0 + sumI (fun m => F 2 (40 + 20 * 0 + m)) (F 2 30)) + sumI (fun m => F 2 (40 + 20 * 1 + m)) 0) = (0 + sumI (fun m => F 2 (40 + 20 * 0 + m)) (F 2 30)) from Int.add_zero _] at key
        exact key
      · skip
        refine v_iload_n C dX8_efficiency_28 rfl 1 rfl ?_
        refine v_aload_n C dX8_efficiency_29 rfl 0 rfl ?_
        refine v_get (v := .ref (ad 2)) C inw_8 0 10 rfl (by decide) (List.mem_cons_of_mem _ mw_105) rfl rfl dX8_efficiency_30 ?_
        refine v_iload_n C dX8_efficiency_33 rfl 2 rfl ?_
        refine v_iload_n C dX8_efficiency_34 rfl 3 rfl ?_
        refine v_callS (na := 2) (wy := (Cond.code yX8_lengthAt cX8_lengthAt 2 (some .int) :: wsL_law)) (wc := []) (wr := (mW (vG X) ad (up F 0 (up (F 0) 0 0)))) C [vI 0, vI k0] [.ref (ad 2), vI (0 + sumI (fun m => F 2 (40 + 20 * 0 + m)) k0)] (c_X8_lengthAt _ _ 0 k0 ) rfl (gwS mw_400 mw_398 mw_399 mw_5) (by decide +kernel) rfl rfl Sb.rf rfl rfl dX8_efficiency_35 (fun r w1 hp35_4 => ?_)
        obtain ⟨rfl, rfl⟩ := hp35_4
        show V X 0 0 38 [(0, .ref (ad 0)), (1, vI (0 + sumI (fun m => F 2 (40 + 20 * 0 + m)) k0)), (2, vI 0), (3, vI k0)] [vI (40 + k0), .ref (ad 2), vI (0 + sumI (fun m => F 2 (40 + 20 * 0 + m)) k0)] ((mW (vG X) ad (up F 0 (up (F 0) 0 0))))
        refine v_iald C 2 rfl (by  omega) (by  omega) (by decide) dX8_efficiency_38 ?_
        show V X 0 0 39 [(0, .ref (ad 0)), (1, vI (0 + sumI (fun m => F 2 (40 + 20 * 0 + m)) k0)), (2, vI 0), (3, vI k0)] [vI (F 2 (40 + k0)), vI (0 + sumI (fun m => F 2 (40 + 20 * 0 + m)) k0)] ((mW (vG X) ad (up F 0 (up (F 0) 0 0))))
        refine v_iadd C dX8_efficiency_39 ?_
        rw [show (0 + sumI (fun m => F 2 (40 + 20 * 0 + m)) k0) + F 2 (40 + k0) = (0 + sumI (fun m => F 2 (40 + 20 * 0 + m)) (k0 + 1)) by rw [sumI_s hk0, ← Int.add_assoc]; rfl]
        refine v_istore_n C M dX8_efficiency_40 rfl (by decide) (L' := [(1, vI (0 + sumI (fun m => F 2 (40 + 20 * 0 + m)) (k0 + 1))), (0, .ref (ad 0)), (2, vI 0), (3, vI k0)]) rfl ?_
        refine v_iinc C M dX8_efficiency_41 3 rfl (by decide) (z' := (k0 + 1)) rfl (L' := [(3, vI (k0 + 1)), (1, vI (0 + sumI (fun m => F 2 (40 + 20 * 0 + m)) (k0 + 1))), (0, .ref (ad 0)), (2, vI 0)]) rfl ?_
        refine v_goto (tgt := 16) C dX8_efficiency_44 (by decide) ?_
        refine V.loc (L' := [(0, .ref (ad 0)), (1, vI (0 + sumI (fun m => F 2 (40 + 20 * 0 + m)) (k0 + 1))), (2, vI 0), (3, vI (k0 + 1))]) [2, 1, 3, 0] rfl ?_
        exact ih (k0 + 1) (by omega) (by omega) (by omega)
  exact lp1 21 0 (by omega) (by omega) (by omega)
end M16
