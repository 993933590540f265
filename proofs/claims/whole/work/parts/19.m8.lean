section M8
set_option maxHeartbeats 4000000 in
set_option maxRecDepth 100000 in
theorem c_X8_put (G : GG) (l : Launch) (ad : Nat → Nat) (F : Int → Int → Int) (s q : Int) (by0 : Int64) (hs : sm s) (hq : sm q) (hB : sB 1000000 (F 2)) (d0 : 0 ≤ F 0 14) (d1 : F 0 14 ≤ 10) (hM : ∀ s, (s = 0 ∨ s = 1) → 0 ≤ F 2 (18 + 11 * s + 0) ∧ F 2 (18 + 11 * s + 0) ≤ 20) : Ct G l yX8_put (Cond.code yX8_put cX8_put 7 (some .int) :: wsL_law) 2 45 0 0 [.ref (ad 0), vI s, vI q, .long by0] ((mW G ad F)) (fun r w => ∃ v : Int, r = some (vI v) ∧ ((¬ (0 ≤ s ∧ s ≤ 1) ∧ w = mW G ad (up F 0 (up (F 0) 0 1))) ∨ (((0 ≤ s ∧ s ≤ 1) ∧ ¬ (1 ≤ q ∧ q ≤ 8)) ∧ w = mW G ad (up F 0 (up (F 0) 0 2))) ∨ ((((0 ≤ s ∧ s ≤ 1) ∧ (1 ≤ q ∧ q ≤ 8)) ∧ F 2 (18 + 11 * s + 0) = 20) ∧ w = mW G ad (up F 0 (up (F 0) 0 3))) ∨ ((((0 ≤ s ∧ s ≤ 1) ∧ (1 ≤ q ∧ q ≤ 8)) ∧ ¬ F 2 (18 + 11 * s + 0) = 20) ∧ v = F 2 (18 + 11 * s + 0) ∧ w = mW G ad (up (up (up F 0 (up (up (F 0) 0 0) 14 (kpD (F 0 14) + 1))) 2 (ptF by0 s q (F 2))) 5 (cpF (F 2) (kpH (F 0 14) (F 5)) 0 (kpD (F 0 14)) 441))))) := by
  refine Ct.of (own := RX8) (cc := cX8_put) (maxL := 7) (ret := (some .int)) (by decide) rfl rfl (Nat.le_of_ble_eq_true rfl) (fun X C E M hG hl => ?_)
  subst hG hl
  have hMs := hM s
  refine v_aload_n C dX8_put_0 rfl 0 rfl ?_
  refine v_iload_n C dX8_put_1 rfl 1 rfl ?_
  refine v_callS (na := 1) (wy := (Cond.code yX8_isStation cX8_isStation 1 (some .boolean) :: wsL_law)) (wc := []) (wr := (mW (vG X) ad F)) C [vI s] [.ref (ad 0)] (c_X8_isStation _ _ s (by first | assumption | exact ⟨by omega, by omega⟩)) rfl (gwS mw_452 mw_450 mw_451 mw_5) (by decide +kernel) rfl rfl Sb.rf rfl rfl dX8_put_2 (fun r w1 hp2_1 => ?_)
  obtain ⟨rfl, rfl⟩ := hp2_1
  show V X 0 0 5 [(0, .ref (ad 0)), (1, vI s), (2, vI q), (3, .long by0)] [vI (bI (0 ≤ s ∧ s ≤ 1)), .ref (ad 0)] ((mW (vG X) ad F))
  refine v_if_ne (tgt := 12) C dX8_put_5 (by decide) sm_bI (fun c5 => ?_) (fun c5 => ?_)
  · have c5 := bI_n0.mp c5
    refine v_iload_n C dX8_put_12 rfl 2 rfl ?_
    refine v_iconst C dX8_put_13 ?_
    refine v_bipush C dX8_put_14 (by decide +kernel) ?_
    refine v_callS (na := 3) (wy := (Cond.code yX8_within cX8_within 3 (some .boolean) :: wsL_law)) (wc := []) (wr := (mW (vG X) ad F)) C [vI q, vI 1, vI 8] [.ref (ad 0)] (c_X8_within _ _ q 1 8 (by first | assumption | exact ⟨by omega, by omega⟩) (by decide) (by decide)) rfl (gwS mw_343 mw_341 mw_342 mw_5) (by decide +kernel) rfl rfl Sb.rf rfl rfl dX8_put_16 (fun r w1 hp16_2 => ?_)
    obtain ⟨rfl, rfl⟩ := hp16_2
    show V X 0 0 19 [(0, .ref (ad 0)), (1, vI s), (2, vI q), (3, .long by0)] [vI (bI (1 ≤ q ∧ q ≤ 8)), .ref (ad 0)] ((mW (vG X) ad F))
    refine v_if_ne (tgt := 26) C dX8_put_19 (by decide) sm_bI (fun c19 => ?_) (fun c19 => ?_)
    · have c19 := bI_n0.mp c19
      refine v_aload_n C dX8_put_26 rfl 0 rfl ?_
      refine v_iload_n C dX8_put_27 rfl 1 rfl ?_
      refine v_iconst C dX8_put_28 ?_
      refine v_callV (na := 2) (wy := (Cond.code yX8_of cX8_of 3 (some .int) :: wsL_law)) (wc := (mW (vG X) ad F)) (wr := []) C [vI s, vI 0] [.ref (ad 0)] (c_X8_of _ _ ad F s 0 (by omega) (by omega)) rfl (gwV mw_129 mw_126 mw_127 mw_128 mw_5) rfl (by decide +kernel) 0 rfl rfl rfl rfl Sb.w rfl rfl dX8_put_29 (fun r w1 hp29_3 => ?_)
      obtain ⟨rfl, rfl⟩ := hp29_3
      show V X 0 0 32 [(0, .ref (ad 0)), (1, vI s), (2, vI q), (3, .long by0)] [vI (F 2 ((18 + (11 * s)) + 0)), .ref (ad 0)] ((mW (vG X) ad F))
      refine v_bipush C dX8_put_32 (by decide +kernel) ?_
      refine v_icmp_ne (tgt := 41) C dX8_put_34 (by decide) (by have := hB ((18 + (11 * s)) + 0); first | assumption | exact ⟨by omega, by omega⟩) (by decide) (fun c34 => ?_) (fun c34 => ?_)
      · skip
        refine v_iconst C dX8_put_41 ?_
        refine v_put C inw_8 tyX8 tyX8_ok nmX8 0 0 rfl (by decide) (List.mem_cons_of_mem _ mw_147) rfl rfl rfl rfl (Nat.le_of_ble_eq_true rfl) dX8_put_42 (ws' := (mW (vG X) ad (up F 0 (up (F 0) 0 0)))) rfl ?_
        refine v_aload_n C dX8_put_45 rfl 0 rfl ?_
        refine v_get (v := vI 0) C inw_8 0 0 rfl (by decide) (List.mem_cons_of_mem _ mw_147) rfl rfl dX8_put_46 ?_
        refine v_if_le (tgt := 54) C dX8_put_49 (by decide) (by decide) (fun _ => ?_) (fun c => absurd (by decide) c)
        refine v_aload_n C dX8_put_54 rfl 0 rfl ?_
        refine v_callV (na := 0) (wy := (Cond.code yX8_keep cX8_keep 2 none :: wsL_law)) (wc := (mW (vG X) ad (up F 0 (up (F 0) 0 0)))) (wr := []) C [] [] (c_X8_keep _ _ ad (up F 0 (up (F 0) 0 0)) d0 d1) rfl (gwV mw_776 mw_773 mw_774 mw_775 mw_5) rfl (by decide +kernel) 0 rfl rfl rfl rfl Sb.w rfl rfl dX8_put_55 (fun r w1 hp55_4 => ?_)
        obtain ⟨rfl, rfl⟩ := hp55_4
        show V X 0 0 58 [(0, .ref (ad 0)), (1, vI s), (2, vI q), (3, .long by0)] [] ((mW (vG X) ad (up (up F 0 (up (up (F 0) 0 0) 14 (kpD (F 0 14) + 1))) 5 (cpF (F 2) (kpH (F 0 14) (F 5)) 0 (kpD (F 0 14)) 441))))
        refine v_aload_n C dX8_put_58 rfl 0 rfl ?_
        refine v_iload_n C dX8_put_59 rfl 1 rfl ?_
        refine v_iconst C dX8_put_60 ?_
        refine v_callV (na := 2) (wy := (Cond.code yX8_of cX8_of 3 (some .int) :: wsL_law)) (wc := (mW (vG X) ad (up (up F 0 (up (up (F 0) 0 0) 14 (kpD (F 0 14) + 1))) 5 (cpF (F 2) (kpH (F 0 14) (F 5)) 0 (kpD (F 0 14)) 441)))) (wr := []) C [vI s, vI 0] [] (c_X8_of _ _ ad (up (up F 0 (up (up (F 0) 0 0) 14 (kpD (F 0 14) + 1))) 5 (cpF (F 2) (kpH (F 0 14) (F 5)) 0 (kpD (F 0 14)) 441)) s 0 (by omega) (by omega)) rfl (gwV mw_129 mw_126 mw_127 mw_128 mw_5) rfl (by decide +kernel) 0 rfl rfl rfl rfl Sb.w rfl rfl dX8_put_61 (fun r w1 hp61_5 => ?_)
        obtain ⟨rfl, rfl⟩ := hp61_5
        show V X 0 0 64 [(0, .ref (ad 0)), (1, vI s), (2, vI q), (3, .long by0)] [vI (F 2 ((18 + (11 * s)) + 0))] ((mW (vG X) ad (up (up F 0 (up (up (F 0) 0 0) 14 (kpD (F 0 14) + 1))) 5 (cpF (F 2) (kpH (F 0 14) (F 5)) 0 (kpD (F 0 14)) 441))))
        refine v_istore C M dX8_put_64 (by decide) (L' := [(5, vI (F 2 ((18 + (11 * s)) + 0))), (0, .ref (ad 0)), (1, vI s), (2, vI q), (3, .long by0)]) rfl ?_
        refine v_aload_n C dX8_put_66 rfl 1 rfl ?_
        refine v_get (v := .ref (ad 2)) C inw_8 0 10 rfl (by decide) (List.mem_cons_of_mem _ mw_105) rfl rfl dX8_put_67 ?_
        refine v_iload_n C dX8_put_70 rfl 2 rfl ?_
        refine v_iload C dX8_put_71 0 rfl ?_
        refine v_callS (na := 2) (wy := (Cond.code yX8_lengthAt cX8_lengthAt 2 (some .int) :: wsL_law)) (wc := []) (wr := (mW (vG X) ad (up (up F 0 (up (up (F 0) 0 0) 14 (kpD (F 0 14) + 1))) 5 (cpF (F 2) (kpH (F 0 14) (F 5)) 0 (kpD (F 0 14)) 441)))) C [vI s, vI (F 2 ((18 + (11 * s)) + 0))] [.ref (ad 2)] (c_X8_lengthAt _ _ s (F 2 ((18 + (11 * s)) + 0)) ) rfl (gwS mw_400 mw_398 mw_399 mw_5) (by decide +kernel) rfl rfl Sb.rf rfl rfl dX8_put_73 (fun r w1 hp73_6 => ?_)
        obtain ⟨rfl, rfl⟩ := hp73_6
        show V X 0 0 76 [(5, vI (F 2 ((18 + (11 * s)) + 0))), (0, .ref (ad 0)), (1, vI s), (2, vI q), (3, .long by0)] [vI ((40 + (20 * s)) + (F 2 ((18 + (11 * s)) + 0))), .ref (ad 2)] ((mW (vG X) ad (up (up F 0 (up (up (F 0) 0 0) 14 (kpD (F 0 14) + 1))) 5 (cpF (F 2) (kpH (F 0 14) (F 5)) 0 (kpD (F 0 14)) 441))))
        refine v_iload_n C dX8_put_76 rfl 3 rfl ?_
        refine v_iast C 2 rfl (by have := hB ((18 + (11 * s)) + 0); omega) (by have := hB ((18 + (11 * s)) + 0); omega) (by decide) dX8_put_77 (ws' := (mW (vG X) ad (up (up (up F 0 (up (up (F 0) 0 0) 14 (kpD (F 0 14) + 1))) 2 (up (F 2) ((40 + (20 * s)) + (F 2 ((18 + (11 * s)) + 0))) q)) 5 (cpF (F 2) (kpH (F 0 14) (F 5)) 0 (kpD (F 0 14)) 441)))) rfl ?_
        refine v_iconst C dX8_put_78 ?_
        refine v_istore C M dX8_put_79 (by decide) (L' := [(6, vI 0), (5, vI (F 2 ((18 + (11 * s)) + 0))), (0, .ref (ad 0)), (1, vI s), (2, vI q), (3, .long by0)]) rfl ?_
        refine V.loc (L' := [(0, .ref (ad 0)), (1, vI s), (2, vI q), (3, .long by0), (5, vI (F 2 ((18 + (11 * s)) + 0))), (6, vI 0)]) [2, 3, 4, 5, 1, 0] rfl ?_
        have lp : ∀ (n : Nat) (k : Nat) (hk : (k : Int) ≤ q) (hm : q - (k : Int) < (n : Int)), V X 0 0 81 [(0, .ref (ad 0)), (1, vI s), (2, vI q), (3, .long by0), (5, vI (F 2 ((18 + (11 * s)) + 0))), (6, vI (k : Int))] [] ((mW (vG X) ad (up (up (up F 0 (up (up (F 0) 0 0) 14 (kpD (F 0 14) + 1))) 2 (putB by0 s (F 2 ((18 + (11 * s)) + 0)) (up (F 2) ((40 + (20 * s)) + (F 2 ((18 + (11 * s)) + 0))) q) k)) 5 (cpF (F 2) (kpH (F 0 14) (F 5)) 0 (kpD (F 0 14)) 441)))) := by
          intro n
          induction n with
          | zero => intro k hk hm; exact absurd hm (by omega)
          | succ n ih =>
            intro k hk hm
            refine v_iload C dX8_put_81 5 rfl ?_
            refine v_iload_n C dX8_put_83 rfl 2 rfl ?_
            refine v_icmp_ge (tgt := 118) C dX8_put_84 (by decide) (by  first | assumption | exact ⟨by omega, by omega⟩) (by  first | assumption | exact ⟨by omega, by omega⟩) (fun c84 => ?_) (fun c84 => ?_)
            · have e : k = q.toNat := by omega
              subst e
              refine v_aload_n C dX8_put_118 rfl 0 rfl ?_
              refine v_get (v := .ref (ad 2)) C inw_8 0 10 rfl (by decide) (List.mem_cons_of_mem _ mw_105) rfl rfl dX8_put_119 ?_
              refine v_iload_n C dX8_put_122 rfl 1 rfl ?_
              refine v_iconst C dX8_put_123 ?_
              refine v_callS (na := 2) (wy := (Cond.code yX8_at cX8_at 2 (some .int) :: wsL_law)) (wc := []) (wr := (mW (vG X) ad (up (up (up F 0 (up (up (F 0) 0 0) 14 (kpD (F 0 14) + 1))) 2 (putB by0 s (F 2 ((18 + (11 * s)) + 0)) (up (F 2) ((40 + (20 * s)) + (F 2 ((18 + (11 * s)) + 0))) q) q.toNat)) 5 (cpF (F 2) (kpH (F 0 14) (F 5)) 0 (kpD (F 0 14)) 441)))) C [vI s, vI 0] [.ref (ad 2)] (c_X8_at _ _ s 0 ) rfl (gwS mw_120 mw_118 mw_119 mw_5) (by decide +kernel) rfl rfl Sb.rf rfl rfl dX8_put_124 (fun r w1 hp124_7 => ?_)
              obtain ⟨rfl, rfl⟩ := hp124_7
              show V X 0 0 127 [(0, .ref (ad 0)), (1, vI s), (2, vI q), (3, .long by0), (5, vI (F 2 ((18 + (11 * s)) + 0))), (6, vI (q.toNat : Int))] [vI ((18 + (11 * s)) + 0), .ref (ad 2)] ((mW (vG X) ad (up (up (up F 0 (up (up (F 0) 0 0) 14 (kpD (F 0 14) + 1))) 2 (putB by0 s (F 2 ((18 + (11 * s)) + 0)) (up (F 2) ((40 + (20 * s)) + (F 2 ((18 + (11 * s)) + 0))) q) q.toNat)) 5 (cpF (F 2) (kpH (F 0 14) (F 5)) 0 (kpD (F 0 14)) 441))))
              refine v_dup2 C dX8_put_127 rfl rfl ?_
              refine v_iald C 2 rfl (by  omega) (by  omega) (by decide) dX8_put_128 ?_
              show V X 0 0 129 [(0, .ref (ad 0)), (1, vI s), (2, vI q), (3, .long by0), (5, vI (F 2 ((18 + (11 * s)) + 0))), (6, vI (q.toNat : Int))] [vI ((putB by0 s (F 2 ((18 + (11 * s)) + 0)) (up (F 2) ((40 + (20 * s)) + (F 2 ((18 + (11 * s)) + 0))) q) q.toNat) ((18 + (11 * s)) + 0)), vI ((18 + (11 * s)) + 0), .ref (ad 2)] ((mW (vG X) ad (up (up (up F 0 (up (up (F 0) 0 0) 14 (kpD (F 0 14) + 1))) 2 (putB by0 s (F 2 ((18 + (11 * s)) + 0)) (up (F 2) ((40 + (20 * s)) + (F 2 ((18 + (11 * s)) + 0))) q) q.toNat)) 5 (cpF (F 2) (kpH (F 0 14) (F 5)) 0 (kpD (F 0 14)) 441))))
              refine v_iconst C dX8_put_129 ?_
              refine v_iadd C dX8_put_130 ?_
              refine v_iast C 2 rfl (by  omega) (by  omega) (by decide) dX8_put_131 (ws' := (mW (vG X) ad (up (up (up F 0 (up (up (F 0) 0 0) 14 (kpD (F 0 14) + 1))) 2 (up (putB by0 s (F 2 ((18 + (11 * s)) + 0)) (up (F 2) ((40 + (20 * s)) + (F 2 ((18 + (11 * s)) + 0))) q) q.toNat) ((18 + (11 * s)) + 0) (((putB by0 s (F 2 ((18 + (11 * s)) + 0)) (up (F 2) ((40 + (20 * s)) + (F 2 ((18 + (11 * s)) + 0))) q) q.toNat) ((18 + (11 * s)) + 0)) + 1))) 5 (cpF (F 2) (kpH (F 0 14) (F 5)) 0 (kpD (F 0 14)) 441)))) rfl ?_
              refine v_iload C dX8_put_132 4 rfl ?_
              exact v_iret C E rfl dX8_put_134 (by decide) (by decide) (⟨_, rfl, Or.inr (Or.inr (Or.inr ⟨by omega, rfl, rfl⟩))⟩)
            · refine v_aload_n C dX8_put_87 rfl 0 rfl ?_
              refine v_get (v := .ref (ad 2)) C inw_8 0 10 rfl (by decide) (List.mem_cons_of_mem _ mw_105) rfl rfl dX8_put_88 ?_
              refine v_iload_n C dX8_put_91 rfl 1 rfl ?_
              refine v_iload C dX8_put_92 4 rfl ?_
              refine v_iload C dX8_put_94 5 rfl ?_
              refine v_callS (na := 3) (wy := (Cond.code yX8_byteOf cX8_byteOf 3 (some .int) :: wsL_law)) (wc := []) (wr := (mW (vG X) ad (up (up (up F 0 (up (up (F 0) 0 0) 14 (kpD (F 0 14) + 1))) 2 (putB by0 s (F 2 ((18 + (11 * s)) + 0)) (up (F 2) ((40 + (20 * s)) + (F 2 ((18 + (11 * s)) + 0))) q) k)) 5 (cpF (F 2) (kpH (F 0 14) (F 5)) 0 (kpD (F 0 14)) 441)))) C [vI s, vI (F 2 ((18 + (11 * s)) + 0)), vI (k : Int)] [.ref (ad 2)] (c_X8_byteOf _ _ s (F 2 ((18 + (11 * s)) + 0)) (k : Int) ) rfl (gwS mw_397 mw_395 mw_396 mw_5) (by decide +kernel) rfl rfl Sb.rf rfl rfl dX8_put_96 (fun r w1 hp96_8 => ?_)
              obtain ⟨rfl, rfl⟩ := hp96_8
              show V X 0 0 99 [(0, .ref (ad 0)), (1, vI s), (2, vI q), (3, .long by0), (5, vI (F 2 ((18 + (11 * s)) + 0))), (6, vI (k : Int))] [vI ((80 + (8 * ((20 * s) + (F 2 ((18 + (11 * s)) + 0))))) + (k : Int)), .ref (ad 2)] ((mW (vG X) ad (up (up (up F 0 (up (up (F 0) 0 0) 14 (kpD (F 0 14) + 1))) 2 (putB by0 s (F 2 ((18 + (11 * s)) + 0)) (up (F 2) ((40 + (20 * s)) + (F 2 ((18 + (11 * s)) + 0))) q) k)) 5 (cpF (F 2) (kpH (F 0 14) (F 5)) 0 (kpD (F 0 14)) 441))))
              refine v_lload_n C dX8_put_99 rfl 3 rfl ?_
              refine v_bipush C dX8_put_100 (by decide +kernel) ?_
              refine v_iload C dX8_put_102 5 rfl ?_
              refine v_imul C dX8_put_104 ?_
              refine v_lushr C dX8_put_105 rfl ?_
              refine v_ldc2 C (List.mem_cons_of_mem _ mw_772) dX8_put_106 ?_
              refine v_land C dX8_put_109 ?_
              refine v_l2i (z := byB by0 (k : Int)) C dX8_put_110 (iI_of _).symm ?_
              refine v_iast C 2 rfl (by have := hB ((18 + (11 * s)) + 0); omega) (by have := hB ((18 + (11 * s)) + 0); omega) (by decide) dX8_put_111 (ws' := (mW (vG X) ad (up (up (up F 0 (up (up (F 0) 0 0) 14 (kpD (F 0 14) + 1))) 2 (up (putB by0 s (F 2 ((18 + (11 * s)) + 0)) (up (F 2) ((40 + (20 * s)) + (F 2 ((18 + (11 * s)) + 0))) q) k) ((80 + (8 * ((20 * s) + (F 2 ((18 + (11 * s)) + 0))))) + (k : Int)) (byB by0 (k : Int)))) 5 (cpF (F 2) (kpH (F 0 14) (F 5)) 0 (kpD (F 0 14)) 441)))) rfl ?_
              refine v_iinc C M dX8_put_112 5 rfl (by decide) (z' := ((k : Int) + 1)) rfl (L' := [(6, vI ((k : Int) + 1)), (0, .ref (ad 0)), (1, vI s), (2, vI q), (3, .long by0), (5, vI (F 2 ((18 + (11 * s)) + 0)))]) rfl ?_
              refine v_goto (tgt := 81) C dX8_put_115 (by decide) ?_
              refine V.loc (L' := [(0, .ref (ad 0)), (1, vI s), (2, vI q), (3, .long by0), (5, vI (F 2 ((18 + (11 * s)) + 0))), (6, vI ((k : Int) + 1))]) [1, 2, 3, 4, 5, 0] rfl ?_
              exact ih (k + 1) (by omega) (by omega)
        exact lp (q.toNat + 1) 0 (by omega) (by omega)
      · skip
        refine v_iconst C dX8_put_37 ?_
        refine v_goto (tgt := 42) C dX8_put_38 (by decide) ?_
        refine v_put C inw_8 tyX8 tyX8_ok nmX8 0 0 rfl (by decide) (List.mem_cons_of_mem _ mw_147) rfl rfl rfl rfl (Nat.le_of_ble_eq_true rfl) dX8_put_42 (ws' := (mW (vG X) ad (up F 0 (up (F 0) 0 3)))) rfl ?_
        refine v_aload_n C dX8_put_45 rfl 0 rfl ?_
        refine v_get (v := vI 3) C inw_8 0 0 rfl (by decide) (List.mem_cons_of_mem _ mw_147) rfl rfl dX8_put_46 ?_
        refine v_if_le (tgt := 54) C dX8_put_49 (by decide) (by decide) (fun c => absurd c (by decide)) (fun _ => ?_)
        refine v_iconst C dX8_put_52 ?_
        exact v_iret C E rfl dX8_put_53 (by decide) (by decide) (⟨_, rfl, Or.inr (Or.inr (Or.inl ⟨by omega, rfl⟩))⟩)
    · have c19 := bI_0.mp c19
      refine v_iconst C dX8_put_22 ?_
      refine v_goto (tgt := 42) C dX8_put_23 (by decide) ?_
      refine v_put C inw_8 tyX8 tyX8_ok nmX8 0 0 rfl (by decide) (List.mem_cons_of_mem _ mw_147) rfl rfl rfl rfl (Nat.le_of_ble_eq_true rfl) dX8_put_42 (ws' := (mW (vG X) ad (up F 0 (up (F 0) 0 2)))) rfl ?_
      refine v_aload_n C dX8_put_45 rfl 0 rfl ?_
      refine v_get (v := vI 2) C inw_8 0 0 rfl (by decide) (List.mem_cons_of_mem _ mw_147) rfl rfl dX8_put_46 ?_
      refine v_if_le (tgt := 54) C dX8_put_49 (by decide) (by decide) (fun c => absurd c (by decide)) (fun _ => ?_)
      refine v_iconst C dX8_put_52 ?_
      exact v_iret C E rfl dX8_put_53 (by decide) (by decide) (⟨_, rfl, Or.inr (Or.inl ⟨by omega, rfl⟩)⟩)
  · have c5 := bI_0.mp c5
    refine v_iconst C dX8_put_8 ?_
    refine v_goto (tgt := 42) C dX8_put_9 (by decide) ?_
    refine v_put C inw_8 tyX8 tyX8_ok nmX8 0 0 rfl (by decide) (List.mem_cons_of_mem _ mw_147) rfl rfl rfl rfl (Nat.le_of_ble_eq_true rfl) dX8_put_42 (ws' := (mW (vG X) ad (up F 0 (up (F 0) 0 1)))) rfl ?_
    refine v_aload_n C dX8_put_45 rfl 0 rfl ?_
    refine v_get (v := vI 1) C inw_8 0 0 rfl (by decide) (List.mem_cons_of_mem _ mw_147) rfl rfl dX8_put_46 ?_
    refine v_if_le (tgt := 54) C dX8_put_49 (by decide) (by decide) (fun c => absurd c (by decide)) (fun _ => ?_)
    refine v_iconst C dX8_put_52 ?_
    exact v_iret C E rfl dX8_put_53 (by decide) (by decide) (⟨_, rfl, Or.inl ⟨by omega, rfl⟩⟩)
set_option maxHeartbeats 4000000 in
set_option maxRecDepth 100000 in
theorem c_X8_empties (G : GG) (l : Launch) (ad : Nat → Nat) (F : Int → Int → Int)  : Ct G l yX8_empties (Cond.code yX8_empties cX8_empties 2 none :: wsL_law) 1 21 0 0 [.ref (ad 0)] ((mW G ad F)) (fun r w => r = none ∧ w = mW G ad (up F 2 (emF (F 2)))) := by
  refine Ct.of (own := RX8) (cc := cX8_empties) (maxL := 2) (ret := none) (by decide) rfl rfl (Nat.le_of_ble_eq_true rfl) (fun X C E M hG hl => ?_)
  subst hG hl
  refine v_iconst C dX8_empties_0 ?_
  refine v_istore_n C M dX8_empties_1 rfl (by decide) (L' := [(1, vI 0), (0, .ref (ad 0))]) rfl ?_
  refine V.loc (L' := [(0, .ref (ad 0)), (1, vI 0)]) [1, 0] rfl ?_
  have lp : ∀ (n : Nat) (k : Int) (hk : 0 ≤ k) (hk2 : k ≤ 441) (hm : 441 - k < (n : Int)), V X 0 0 2 [(0, .ref (ad 0)), (1, vI k)] [] ((mW (vG X) ad (up F 2 (zrF (F 2) k)))) := by
    intro n
    induction n with
    | zero => intro k hk hk2 hm; exact absurd hm (by omega)
    | succ n ih =>
      intro k hk hk2 hm
      refine v_iload_n C dX8_empties_2 rfl 1 rfl ?_
      refine v_sipush C dX8_empties_3 (by decide +kernel) ?_
      refine v_icmp_ge (tgt := 22) C dX8_empties_6 (by decide) (by  first | assumption | exact ⟨by omega, by omega⟩) (by decide) (fun c6 => ?_) (fun c6 => ?_)
      · obtain rfl : k = 441 := by omega
        refine v_aload_n C dX8_empties_22 rfl 0 rfl ?_
        refine v_get (v := .ref (ad 2)) C inw_8 0 10 rfl (by decide) (List.mem_cons_of_mem _ mw_105) rfl rfl dX8_empties_23 ?_
        refine v_iconst C dX8_empties_26 ?_
        refine v_iconst C dX8_empties_27 ?_
        refine v_callS (na := 2) (wy := (Cond.code yX8_at cX8_at 2 (some .int) :: wsL_law)) (wc := []) (wr := (mW (vG X) ad (up F 2 (zrF (F 2) 441)))) C [vI 0, vI 3] [.ref (ad 2)] (c_X8_at _ _ 0 3 ) rfl (gwS mw_120 mw_118 mw_119 mw_5) (by decide +kernel) rfl rfl Sb.rf rfl rfl dX8_empties_28 (fun r w1 hp28_1 => ?_)
        obtain ⟨rfl, rfl⟩ := hp28_1
        show V X 0 0 31 [(0, .ref (ad 0)), (1, vI 441)] [vI 21, .ref (ad 2)] ((mW (vG X) ad (up F 2 (zrF (F 2) 441))))
        refine v_iconst C dX8_empties_31 ?_
        refine v_iast C 2 rfl (by decide) (by decide) (by decide) dX8_empties_32 (ws' := (mW (vG X) ad (up F 2 (up (zrF (F 2) 441) 21 4)))) rfl ?_
        refine v_aload_n C dX8_empties_33 rfl 0 rfl ?_
        refine v_get (v := .ref (ad 2)) C inw_8 0 10 rfl (by decide) (List.mem_cons_of_mem _ mw_105) rfl rfl dX8_empties_34 ?_
        refine v_iconst C dX8_empties_37 ?_
        refine v_iconst C dX8_empties_38 ?_
        refine v_callS (na := 2) (wy := (Cond.code yX8_at cX8_at 2 (some .int) :: wsL_law)) (wc := []) (wr := (mW (vG X) ad (up F 2 (up (zrF (F 2) 441) 21 4)))) C [vI 1, vI 3] [.ref (ad 2)] (c_X8_at _ _ 1 3 ) rfl (gwS mw_120 mw_118 mw_119 mw_5) (by decide +kernel) rfl rfl Sb.rf rfl rfl dX8_empties_39 (fun r w1 hp39_2 => ?_)
        obtain ⟨rfl, rfl⟩ := hp39_2
        show V X 0 0 42 [(0, .ref (ad 0)), (1, vI 441)] [vI 32, .ref (ad 2)] ((mW (vG X) ad (up F 2 (up (zrF (F 2) 441) 21 4))))
        refine v_iconst C dX8_empties_42 ?_
        refine v_iast C 2 rfl (by decide) (by decide) (by decide) dX8_empties_43 (ws' := (mW (vG X) ad (up F 2 (up (up (zrF (F 2) 441) 21 4) 32 4)))) rfl ?_
        exact v_vret C E rfl dX8_empties_44 (by decide) (by decide) (⟨rfl, rfl⟩)
      · refine v_aload_n C dX8_empties_9 rfl 0 rfl ?_
        refine v_get (v := .ref (ad 2)) C inw_8 0 10 rfl (by decide) (List.mem_cons_of_mem _ mw_105) rfl rfl dX8_empties_10 ?_
        refine v_iload_n C dX8_empties_13 rfl 1 rfl ?_
        refine v_iconst C dX8_empties_14 ?_
        refine v_iast C 2 rfl (by  omega) (by  omega) (by decide) dX8_empties_15 (ws' := (mW (vG X) ad (up F 2 (up (zrF (F 2) k) k 0)))) rfl ?_
        refine v_iinc C M dX8_empties_16 1 rfl (by decide) (z' := (k + 1)) rfl (L' := [(1, vI (k + 1)), (0, .ref (ad 0))]) rfl ?_
        refine v_goto (tgt := 2) C dX8_empties_19 (by decide) ?_
        refine V.loc (L' := [(0, .ref (ad 0)), (1, vI (k + 1))]) [1, 0] rfl ?_
        have key := ih (k + 1) (by omega) (by omega) (by omega)
        rw [zrF_s hk] at key
        exact key
  have key := lp 442 0 (by omega) (by omega) (by omega)
  rw [zrF_0] at key
  exact key
set_option maxHeartbeats 4000000 in
set_option maxRecDepth 100000 in
theorem c_X8_begins (G : GG) (l : Launch) (ad : Nat → Nat) (F : Int → Int → Int)  : Ct G l yX8_begins (Cond.code yX8_begins cX8_begins 1 none :: wsL_law) 2 43 0 0 [.ref (ad 0)] ((mW G ad F)) (fun r w => r = none ∧ w = (mW G ad (up (up (up F 0 (up (F 0) 14 0)) 2 (up (up (F 2) 25 (F 2 32)) 36 (F 2 21))) 7 (up (up (F 7) 0 0) 1 0)))) := by
  refine Ct.of (own := RX8) (cc := cX8_begins) (maxL := 1) (ret := none) (by decide) rfl rfl (Nat.le_of_ble_eq_true rfl) (fun X C E M hG hl => ?_)
  subst hG hl
  refine v_aload_n C dX8_begins_0 rfl 0 rfl ?_
  refine v_get (v := .ref (ad 2)) C inw_8 0 10 rfl (by decide) (List.mem_cons_of_mem _ mw_105) rfl rfl dX8_begins_1 ?_
  refine v_iconst C dX8_begins_4 ?_
  refine v_bipush C dX8_begins_5 (by decide +kernel) ?_
  refine v_callS (na := 2) (wy := (Cond.code yX8_at cX8_at 2 (some .int) :: wsL_law)) (wc := []) (wr := (mW (vG X) ad F)) C [vI 0, vI 7] [.ref (ad 2)] (c_X8_at _ _ 0 7 ) rfl (gwS mw_120 mw_118 mw_119 mw_5) (by decide +kernel) rfl rfl Sb.rf rfl rfl dX8_begins_7 (fun r w1 hp7_1 => ?_)
  obtain ⟨rfl, rfl⟩ := hp7_1
  show V X 0 0 10 [(0, .ref (ad 0))] [vI 25, .ref (ad 2)] ((mW (vG X) ad F))
  refine v_aload_n C dX8_begins_10 rfl 0 rfl ?_
  refine v_iconst C dX8_begins_11 ?_
  refine v_iconst C dX8_begins_12 ?_
  refine v_callV (na := 2) (wy := (Cond.code yX8_of cX8_of 3 (some .int) :: wsL_law)) (wc := (mW (vG X) ad F)) (wr := []) C [vI 1, vI 3] [vI 25, .ref (ad 2)] (c_X8_of _ _ ad F 1 3 (by decide) (by decide)) rfl (gwV mw_129 mw_126 mw_127 mw_128 mw_5) rfl (by decide +kernel) 0 rfl rfl rfl rfl Sb.w rfl rfl dX8_begins_13 (fun r w1 hp13_2 => ?_)
  obtain ⟨rfl, rfl⟩ := hp13_2
  show V X 0 0 16 [(0, .ref (ad 0))] [vI (F 2 32), vI 25, .ref (ad 2)] ((mW (vG X) ad F))
  refine v_iast C 2 rfl (by decide) (by decide) (by decide) dX8_begins_16 (ws' := (mW (vG X) ad (up F 2 (up (F 2) 25 (F 2 32))))) rfl ?_
  refine v_aload_n C dX8_begins_17 rfl 0 rfl ?_
  refine v_get (v := .ref (ad 2)) C inw_8 0 10 rfl (by decide) (List.mem_cons_of_mem _ mw_105) rfl rfl dX8_begins_18 ?_
  refine v_iconst C dX8_begins_21 ?_
  refine v_bipush C dX8_begins_22 (by decide +kernel) ?_
  refine v_callS (na := 2) (wy := (Cond.code yX8_at cX8_at 2 (some .int) :: wsL_law)) (wc := []) (wr := (mW (vG X) ad (up F 2 (up (F 2) 25 (F 2 32))))) C [vI 1, vI 7] [.ref (ad 2)] (c_X8_at _ _ 1 7 ) rfl (gwS mw_120 mw_118 mw_119 mw_5) (by decide +kernel) rfl rfl Sb.rf rfl rfl dX8_begins_24 (fun r w1 hp24_3 => ?_)
  obtain ⟨rfl, rfl⟩ := hp24_3
  show V X 0 0 27 [(0, .ref (ad 0))] [vI 36, .ref (ad 2)] ((mW (vG X) ad (up F 2 (up (F 2) 25 (F 2 32)))))
  refine v_aload_n C dX8_begins_27 rfl 0 rfl ?_
  refine v_iconst C dX8_begins_28 ?_
  refine v_iconst C dX8_begins_29 ?_
  refine v_callV (na := 2) (wy := (Cond.code yX8_of cX8_of 3 (some .int) :: wsL_law)) (wc := (mW (vG X) ad (up F 2 (up (F 2) 25 (F 2 32))))) (wr := []) C [vI 0, vI 3] [vI 36, .ref (ad 2)] (c_X8_of _ _ ad (up F 2 (up (F 2) 25 (F 2 32))) 0 3 (by decide) (by decide)) rfl (gwV mw_129 mw_126 mw_127 mw_128 mw_5) rfl (by decide +kernel) 0 rfl rfl rfl rfl Sb.w rfl rfl dX8_begins_30 (fun r w1 hp30_4 => ?_)
  obtain ⟨rfl, rfl⟩ := hp30_4
  show V X 0 0 33 [(0, .ref (ad 0))] [vI ((up (F 2) 25 (F 2 32)) 21), vI 36, .ref (ad 2)] ((mW (vG X) ad (up F 2 (up (F 2) 25 (F 2 32)))))
  rw [up_n (show (21 : Int) ≠ 25 by decide)]
  refine v_iast C 2 rfl (by decide) (by decide) (by decide) dX8_begins_33 (ws' := (mW (vG X) ad (up F 2 (up (up (F 2) 25 (F 2 32)) 36 (F 2 21))))) rfl ?_
  refine v_aload_n C dX8_begins_34 rfl 0 rfl ?_
  refine v_iconst C dX8_begins_35 ?_
  refine v_put C inw_8 tyX8 tyX8_ok nmX8 0 14 rfl (by decide) (List.mem_cons_of_mem _ mw_125) rfl rfl rfl rfl (Nat.le_of_ble_eq_true rfl) dX8_begins_36 (ws' := (mW (vG X) ad (up (up F 0 (up (F 0) 14 0)) 2 (up (up (F 2) 25 (F 2 32)) 36 (F 2 21))))) rfl ?_
  refine v_aload_n C dX8_begins_39 rfl 0 rfl ?_
  refine v_get (v := .ref (ad 7)) C inw_8 0 16 rfl (by decide) (List.mem_cons_of_mem _ mw_111) rfl rfl dX8_begins_40 ?_
  refine v_iconst C dX8_begins_43 ?_
  refine v_iconst C dX8_begins_44 ?_
  refine v_zast C 7 rfl (by decide) (by decide) (by decide) (by decide +kernel) dX8_begins_45 (ws' := (mW (vG X) ad (up (up (up F 0 (up (F 0) 14 0)) 2 (up (up (F 2) 25 (F 2 32)) 36 (F 2 21))) 7 (up (F 7) 0 0)))) rfl ?_
  refine v_aload_n C dX8_begins_46 rfl 0 rfl ?_
  refine v_get (v := .ref (ad 7)) C inw_8 0 16 rfl (by decide) (List.mem_cons_of_mem _ mw_111) rfl rfl dX8_begins_47 ?_
  refine v_iconst C dX8_begins_50 ?_
  refine v_iconst C dX8_begins_51 ?_
  refine v_zast C 7 rfl (by decide) (by decide) (by decide) (by decide +kernel) dX8_begins_52 (ws' := (mW (vG X) ad (up (up (up F 0 (up (F 0) 14 0)) 2 (up (up (F 2) 25 (F 2 32)) 36 (F 2 21))) 7 (up (up (F 7) 0 0) 1 0)))) rfl ?_
  exact v_vret C E rfl dX8_begins_53 (by decide) (by decide) (⟨rfl, rfl⟩)
end M8
