section M10
set_option maxHeartbeats 4000000 in
set_option maxRecDepth 100000 in
theorem c_X8_byteAt (G : GG) (l : Launch) (ad : Nat → Nat) (F : Int → Int → Int) (k : Int) (h0 : 0 ≤ k ∧ k ≤ 700) (h3 : 0 ≤ F 0 3 ∧ F 0 3 ≤ 700) : Ct G l yX8_byteAt (Cond.code yX8_byteAt cX8_byteAt 2 (some .int) :: wsL_law) 0 0 0 0 [.ref (ad 0), vI k] ((mW G ad F)) (fun r w => r = some (vI (bM (F 0) (F 1) k)) ∧ w = mW G ad F) := by
  refine Ct.of (own := RX8) (cc := cX8_byteAt) (maxL := 2) (ret := (some .int)) (by decide) rfl rfl (Nat.le_of_ble_eq_true rfl) (fun X C E M hG hl => ?_)
  subst hG hl
  refine v_iload_n C dX8_byteAt_0 rfl 1 rfl ?_
  refine v_aload_n C dX8_byteAt_1 rfl 0 rfl ?_
  refine v_get (v := vI (F 0 3)) C inw_8 0 3 rfl (by decide) (List.mem_cons_of_mem _ mw_334) rfl rfl dX8_byteAt_2 ?_
  refine v_icmp_ge (tgt := 21) C dX8_byteAt_5 (by decide) ⟨by omega, by omega⟩ (by  first | assumption | exact ⟨by omega, by omega⟩) (fun c5 => ?_) (fun c5 => ?_)
  · skip
    refine v_iconst C dX8_byteAt_21 ?_
    exact v_iret C E rfl dX8_byteAt_22 (by decide) (by decide) (⟨by rw [show bM (F 0) (F 1) k = -1 from if_neg (show ¬ k < F 0 3 by omega)], rfl⟩)
  · skip
    refine v_aload_n C dX8_byteAt_8 rfl 0 rfl ?_
    refine v_get (v := .ref (ad 1)) C inw_8 0 1 rfl (by decide) (List.mem_cons_of_mem _ mw_104) rfl rfl dX8_byteAt_9 ?_
    refine v_iload_n C dX8_byteAt_12 rfl 1 rfl ?_
    refine v_bald C 1 rfl (by  omega) (by  omega) (by decide) dX8_byteAt_13 ?_
    refine v_sipush C dX8_byteAt_14 (by decide +kernel) ?_
    refine v_iand C dX8_byteAt_17 (iI_and255 (F 1 k)) ?_
    refine v_goto (tgt := 22) C dX8_byteAt_18 (by decide) ?_
    exact v_iret C E rfl dX8_byteAt_22 (by decide) (by decide) (⟨by rw [show bM (F 0) (F 1) k = F 1 k % 256 from if_pos (show k < F 0 3 by omega)], rfl⟩)
set_option maxHeartbeats 4000000 in
set_option maxRecDepth 100000 in
theorem c_X8_nextToken (G : GG) (l : Launch) (ad : Nat → Nat) (F : Int → Int → Int) (ho : RM1 (F 0)) (hB1 : sB 1000 (F 1))  : Ct G l yX8_nextToken (Cond.code yX8_nextToken cX8_nextToken 2 none :: wsL_law) 1 22 0 0 [.ref (ad 0)] ((mW G ad F)) (fun r w => r = none ∧ w = mW G ad (up F 0 (ntM (F 0) (F 1)))) := by
  refine Ct.of (own := RX8) (cc := cX8_nextToken) (maxL := 2) (ret := none) (by decide) rfl rfl (Nat.le_of_ble_eq_true rfl) (fun X C E M hG hl => ?_)
  subst hG hl
  have ho0 := ho
  obtain ⟨⟨h5a, h53, h3b⟩, ⟨h6a, h6b⟩, ⟨h7a, h7b⟩, ⟨h8a, h8b⟩, ⟨h9a, h9b⟩, hw0, hw1⟩ := ho0
  refine v_aload_n C dX8_nextToken_0 rfl 0 rfl ?_
  refine v_aload_n C dX8_nextToken_1 rfl 0 rfl ?_
  refine v_get (v := vI (F 0 5)) C inw_8 0 5 rfl (by decide) (List.mem_cons_of_mem _ mw_335) rfl rfl dX8_nextToken_2 ?_
  refine v_put C inw_8 tyX8 tyX8_ok nmX8 0 4 rfl (by decide) (List.mem_cons_of_mem _ mw_355) rfl rfl rfl rfl (Nat.le_of_ble_eq_true rfl) dX8_nextToken_5 (ws' := (mW (vG X) ad (up F 0 (up (F 0) 4 (F 0 5))))) rfl ?_
  have lp : ∀ (n : Nat) (n0 : Nat) (hn0 : (F 0) 5 + (n0 : Int) ≤ (F 0) 3) (hno : ∀ j : Nat, j < n0 → ¬ (fun j : Nat => ¬ ((F 0) 5 + (j : Int) < (F 0) 3 ∧ spP (uM (F 1) ((F 0) 5 + (j : Int))))) j) (hm : (F 0) 3 - (F 0) 5 - (n0 : Int) < (n : Int)), V X 0 0 8 [(0, .ref (ad 0))] [] ((mW (vG X) ad (up F 0 (up (F 0) 4 ((F 0 5) + (n0 : Int)))))) := by
    intro n
    induction n with
    | zero => intro n0 hn0 hno hm; exact absurd hm (by omega)
    | succ n ih =>
      intro n0 hn0 hno hm
      refine v_aload_n C dX8_nextToken_8 rfl 0 rfl ?_
      refine v_aload_n C dX8_nextToken_9 rfl 0 rfl ?_
      refine v_get (v := vI ((F 0 5) + (n0 : Int))) C inw_8 0 4 rfl (by decide) (List.mem_cons_of_mem _ mw_355) rfl rfl dX8_nextToken_10 ?_
      refine v_callV (na := 1) (wy := (Cond.code yX8_byteAt cX8_byteAt 2 (some .int) :: wsL_law)) (wc := (mW (vG X) ad (up F 0 (up (F 0) 4 ((F 0 5) + (n0 : Int)))))) (wr := []) C [vI ((F 0 5) + (n0 : Int))] [] (c_X8_byteAt _ _ ad (up F 0 (up (F 0) 4 ((F 0 5) + (n0 : Int)))) ((F 0 5) + (n0 : Int)) (by omega) (show 0 ≤ (F 0) 3 ∧ (F 0) 3 ≤ 700 by omega)) rfl (gwV mw_360 mw_357 mw_358 mw_359 mw_5) rfl (by decide +kernel) 0 rfl rfl rfl rfl Sb.w rfl rfl dX8_nextToken_13 (fun r w1 hp13_1 => ?_)
      obtain ⟨rfl, rfl⟩ := hp13_1
      show V X 0 0 16 [(0, .ref (ad 0))] [vI (bM (F 0) (F 1) ((F 0 5) + (n0 : Int)))] ((mW (vG X) ad (up F 0 (up (F 0) 4 ((F 0 5) + (n0 : Int))))))
      have bm2 := bM_in (s := (F 0)) (B := F 1) (k := ((F 0 5) + (n0 : Int)))
      refine v_bipush C dX8_nextToken_16 (by decide +kernel) ?_
      refine v_icmp_eq (tgt := 34) C dX8_nextToken_18 (by decide) (by  first | assumption | exact ⟨by omega, by omega⟩) (by decide) (fun c18 => ?_) (fun c18 => ?_)
      · skip
        refine v_aload_n C dX8_nextToken_34 rfl 0 rfl ?_
        refine v_dup C dX8_nextToken_35 rfl ?_
        refine v_get (v := vI ((F 0 5) + (n0 : Int))) C inw_8 0 4 rfl (by decide) (List.mem_cons_of_mem _ mw_355) rfl rfl dX8_nextToken_36 ?_
        refine v_iconst C dX8_nextToken_39 ?_
        refine v_iadd C dX8_nextToken_40 ?_
        refine v_put C inw_8 tyX8 tyX8_ok nmX8 0 4 rfl (by decide) (List.mem_cons_of_mem _ mw_355) rfl rfl rfl rfl (Nat.le_of_ble_eq_true rfl) dX8_nextToken_41 (ws' := (mW (vG X) ad (up F 0 (up (F 0) 4 (((F 0 5) + (n0 : Int)) + 1))))) rfl ?_
        refine v_goto (tgt := 8) C dX8_nextToken_44 (by decide) ?_
        have csp : spP (bM (F 0) (F 1) ((F 0) 5 + (n0 : Int))) := Or.inl c18
        obtain ⟨cs1, cs2⟩ := bM_sp.mp csp
        have key := ih (n0 + 1) (by omega) (fun j hj => by
          by_cases e : j = n0
          · rw [e]; exact fun h => h ⟨cs1, cs2⟩
          · exact hno j (by omega)) (by omega)
        rw [show (F 0) 5 + ((n0 + 1 : Nat) : Int) = (F 0) 5 + (n0 : Int) + 1 by omega] at key
        exact key
      · skip
        refine v_aload_n C dX8_nextToken_21 rfl 0 rfl ?_
        refine v_aload_n C dX8_nextToken_22 rfl 0 rfl ?_
        refine v_get (v := vI ((F 0 5) + (n0 : Int))) C inw_8 0 4 rfl (by decide) (List.mem_cons_of_mem _ mw_355) rfl rfl dX8_nextToken_23 ?_
        refine v_callV (na := 1) (wy := (Cond.code yX8_byteAt cX8_byteAt 2 (some .int) :: wsL_law)) (wc := (mW (vG X) ad (up F 0 (up (F 0) 4 ((F 0 5) + (n0 : Int)))))) (wr := []) C [vI ((F 0 5) + (n0 : Int))] [] (c_X8_byteAt _ _ ad (up F 0 (up (F 0) 4 ((F 0 5) + (n0 : Int)))) ((F 0 5) + (n0 : Int)) (by omega) (show 0 ≤ (F 0) 3 ∧ (F 0) 3 ≤ 700 by omega)) rfl (gwV mw_360 mw_357 mw_358 mw_359 mw_5) rfl (by decide +kernel) 0 rfl rfl rfl rfl Sb.w rfl rfl dX8_nextToken_26 (fun r w1 hp26_3 => ?_)
        obtain ⟨rfl, rfl⟩ := hp26_3
        show V X 0 0 29 [(0, .ref (ad 0))] [vI (bM (F 0) (F 1) ((F 0 5) + (n0 : Int)))] ((mW (vG X) ad (up F 0 (up (F 0) 4 ((F 0 5) + (n0 : Int))))))
        have bm4 := bM_in (s := (F 0)) (B := F 1) (k := ((F 0 5) + (n0 : Int)))
        refine v_bipush C dX8_nextToken_29 (by decide +kernel) ?_
        refine v_icmp_ne (tgt := 47) C dX8_nextToken_31 (by decide) (by  first | assumption | exact ⟨by omega, by omega⟩) (by decide) (fun c31 => ?_) (fun c31 => ?_)
        · skip
          have en : n0 = skN (fun j : Nat => ¬ ((F 0) 5 + (j : Int) < (F 0) 3 ∧ spP (uM (F 1) ((F 0) 5 + (j : Int))))) ((F 0) 3 - (F 0) 5).toNat := skN_u _ _ hno (by omega) (Or.inl (fun h => (bM_sp.mpr h).elim c18 c31))
          have et : (F 0) 5 + (n0 : Int) = (stM (F 0) (F 1)) := by unfold stM runE; rw [← en]
          rw [et]
          have hst : (F 0) 5 ≤ (stM (F 0) (F 1)) ∧ (stM (F 0) (F 1)) ≤ (F 0) 3 := runE_in (by omega)
          refine v_aload_n C dX8_nextToken_47 rfl 0 rfl ?_
          refine v_aload_n C dX8_nextToken_48 rfl 0 rfl ?_
          refine v_get (v := vI (stM (F 0) (F 1))) C inw_8 0 4 rfl (by decide) (List.mem_cons_of_mem _ mw_355) rfl rfl dX8_nextToken_49 ?_
          refine v_callV (na := 1) (wy := (Cond.code yX8_byteAt cX8_byteAt 2 (some .int) :: wsL_law)) (wc := (mW (vG X) ad (up F 0 (up (F 0) 4 (stM (F 0) (F 1)))))) (wr := []) C [vI (stM (F 0) (F 1))] [] (c_X8_byteAt _ _ ad (up F 0 (up (F 0) 4 (stM (F 0) (F 1)))) (stM (F 0) (F 1)) (by omega) (show 0 ≤ (F 0) 3 ∧ (F 0) 3 ≤ 700 by omega)) rfl (gwV mw_360 mw_357 mw_358 mw_359 mw_5) rfl (by decide +kernel) 0 rfl rfl rfl rfl Sb.w rfl rfl dX8_nextToken_52 (fun r w1 hp52_5 => ?_)
          obtain ⟨rfl, rfl⟩ := hp52_5
          show V X 0 0 55 [(0, .ref (ad 0))] [vI (bM (F 0) (F 1) (stM (F 0) (F 1)))] ((mW (vG X) ad (up F 0 (up (F 0) 4 (stM (F 0) (F 1))))))
          have bm6 := bM_in (s := (F 0)) (B := F 1) (k := (stM (F 0) (F 1)))
          refine v_istore_n C M dX8_nextToken_55 rfl (by decide) (L' := [(1, vI (bM (F 0) (F 1) (stM (F 0) (F 1)))), (0, .ref (ad 0))]) rfl ?_
          refine v_aload_n C dX8_nextToken_56 rfl 1 rfl ?_
          refine v_aload_n C dX8_nextToken_57 rfl 1 rfl ?_
          refine v_get (v := vI (stM (F 0) (F 1))) C inw_8 0 4 rfl (by decide) (List.mem_cons_of_mem _ mw_355) rfl rfl dX8_nextToken_58 ?_
          refine v_put C inw_8 tyX8 tyX8_ok nmX8 0 5 rfl (by decide) (List.mem_cons_of_mem _ mw_335) rfl rfl rfl rfl (Nat.le_of_ble_eq_true rfl) dX8_nextToken_61 (ws' := (mW (vG X) ad (up F 0 (up (up (F 0) 4 (stM (F 0) (F 1))) 5 (stM (F 0) (F 1)))))) rfl ?_
          refine v_aload_n C dX8_nextToken_64 rfl 1 rfl ?_
          refine v_iconst C dX8_nextToken_65 ?_
          refine v_put C inw_8 tyX8 tyX8_ok nmX8 0 6 rfl (by decide) (List.mem_cons_of_mem _ mw_339) rfl rfl rfl rfl (Nat.le_of_ble_eq_true rfl) dX8_nextToken_66 (ws' := (mW (vG X) ad (up F 0 (up (up (up (F 0) 4 (stM (F 0) (F 1))) 5 (stM (F 0) (F 1))) 6 4)))) rfl ?_
          show V X 0 0 69 [(1, vI (bM (F 0) (F 1) (stM (F 0) (F 1)))), (0, .ref (ad 0))] [] ((mW (vG X) ad (up F 0 (up (up (up (F 0) 4 (stM (F 0) (F 1))) 5 (stM (F 0) (F 1))) 6 4))))
          have e1 : sM1 (F 0) (F 1) = (up (up (up (F 0) 4 (stM (F 0) (F 1))) 5 (stM (F 0) (F 1))) 6 4) := rfl
          rw [← e1]
          show V X 0 0 69 [(1, vI (bM (F 0) (F 1) (stM (F 0) (F 1)))), (0, .ref (ad 0))] [] ((mW (vG X) ad (up F 0 (sM1 (F 0) (F 1)))))
          have hs5 : sM1 (F 0) (F 1) 5 = (stM (F 0) (F 1)) := rfl
          have hs4 : sM1 (F 0) (F 1) 4 = (stM (F 0) (F 1)) := rfl
          refine v_iload_n C dX8_nextToken_69 rfl 0 rfl ?_
          refine v_iconst C dX8_nextToken_70 ?_
          refine v_icmp_ne (tgt := 82) C dX8_nextToken_71 (by decide) (by  first | assumption | exact ⟨by omega, by omega⟩) (by decide) (fun c71 => ?_) (fun c71 => ?_)
          · skip
            have hlt : (stM (F 0) (F 1)) < (F 0) 3 := bM_lt c71
            refine v_iload_n C dX8_nextToken_82 rfl 0 rfl ?_
            refine v_bipush C dX8_nextToken_83 (by decide +kernel) ?_
            refine v_bipush C dX8_nextToken_85 (by decide +kernel) ?_
            refine v_callS (na := 3) (wy := (Cond.code yX8_within cX8_within 3 (some .boolean) :: wsL_law)) (wc := []) (wr := (mW (vG X) ad (up F 0 (sM1 (F 0) (F 1))))) C [vI (bM (F 0) (F 1) (stM (F 0) (F 1))), vI 97, vI 122] [] (c_X8_within _ _ (bM (F 0) (F 1) (stM (F 0) (F 1))) 97 122 (by first | assumption | exact ⟨by omega, by omega⟩) (by decide) (by decide)) rfl (gwS mw_343 mw_341 mw_342 mw_5) (by decide +kernel) rfl rfl Sb.rf rfl rfl dX8_nextToken_87 (fun r w1 hp87_7 => ?_)
            obtain ⟨rfl, rfl⟩ := hp87_7
            show V X 0 0 90 [(1, vI (bM (F 0) (F 1) (stM (F 0) (F 1)))), (0, .ref (ad 0))] [vI (bI (97 ≤ (bM (F 0) (F 1) (stM (F 0) (F 1))) ∧ (bM (F 0) (F 1) (stM (F 0) (F 1))) ≤ 122))] ((mW (vG X) ad (up F 0 (sM1 (F 0) (F 1)))))
            refine v_if_eq (tgt := 150) C dX8_nextToken_90 (by decide) sm_bI (fun c90 => ?_) (fun c90 => ?_)
            · skip
              have c90 := bI_0.mp c90
              refine v_iload_n C dX8_nextToken_150 rfl 0 rfl ?_
              refine v_bipush C dX8_nextToken_151 (by decide +kernel) ?_
              refine v_bipush C dX8_nextToken_153 (by decide +kernel) ?_
              refine v_callS (na := 3) (wy := (Cond.code yX8_within cX8_within 3 (some .boolean) :: wsL_law)) (wc := []) (wr := (mW (vG X) ad (up F 0 (sM1 (F 0) (F 1))))) C [vI (bM (F 0) (F 1) (stM (F 0) (F 1))), vI 48, vI 57] [] (c_X8_within _ _ (bM (F 0) (F 1) (stM (F 0) (F 1))) 48 57 (by first | assumption | exact ⟨by omega, by omega⟩) (by decide) (by decide)) rfl (gwS mw_343 mw_341 mw_342 mw_5) (by decide +kernel) rfl rfl Sb.rf rfl rfl dX8_nextToken_155 (fun r w1 hp155_8 => ?_)
              obtain ⟨rfl, rfl⟩ := hp155_8
              show V X 0 0 158 [(1, vI (bM (F 0) (F 1) (stM (F 0) (F 1)))), (0, .ref (ad 0))] [vI (bI (48 ≤ (bM (F 0) (F 1) (stM (F 0) (F 1))) ∧ (bM (F 0) (F 1) (stM (F 0) (F 1))) ≤ 57))] ((mW (vG X) ad (up F 0 (sM1 (F 0) (F 1)))))
              refine v_if_eq (tgt := 265) C dX8_nextToken_158 (by decide) sm_bI (fun c158 => ?_) (fun c158 => ?_)
              · skip
                have c158 := bI_0.mp c158
                refine v_aload_n C dX8_nextToken_265 rfl 1 rfl ?_
                refine v_dup C dX8_nextToken_266 rfl ?_
                refine v_get (v := vI ((sM1 (F 0) (F 1)) 5)) C inw_8 0 5 rfl (by decide) (List.mem_cons_of_mem _ mw_335) rfl rfl dX8_nextToken_267 ?_
                refine v_iconst C dX8_nextToken_270 ?_
                refine v_iadd C dX8_nextToken_271 ?_
                refine v_put C inw_8 tyX8 tyX8_ok nmX8 0 5 rfl (by decide) (List.mem_cons_of_mem _ mw_335) rfl rfl rfl rfl (Nat.le_of_ble_eq_true rfl) dX8_nextToken_272 (ws' := (mW (vG X) ad (up F 0 (up (sM1 (F 0) (F 1)) 5 (((sM1 (F 0) (F 1)) 5) + 1))))) rfl ?_
                refine v_aload_n C dX8_nextToken_275 rfl 1 rfl ?_
                refine v_iload_n C dX8_nextToken_276 rfl 0 rfl ?_
                refine v_bipush C dX8_nextToken_277 (by decide +kernel) ?_
                suffices mrg : V X 0 0 287 [(1, vI (bM (F 0) (F 1) (stM (F 0) (F 1)))), (0, .ref (ad 0))] [vI (if (bM (F 0) (F 1) (stM (F 0) (F 1))) = 59 then 3 else 4), .ref (ad 0)] ((mW (vG X) ad (up F 0 (up (sM1 (F 0) (F 1)) 5 (((sM1 (F 0) (F 1)) 5) + 1))))) by
                  refine v_icmp_ne (tgt := 286) C dX8_nextToken_279 (by decide) (by  first | assumption | exact ⟨by omega, by omega⟩) (by decide) (fun c279 => ?_) (fun c279 => ?_)
                  · skip
                    refine v_iconst C dX8_nextToken_286 ?_
                    exact V.top (if_neg c279).symm mrg
                  · skip
                    refine v_iconst C dX8_nextToken_282 ?_
                    refine v_goto (tgt := 287) C dX8_nextToken_283 (by decide) ?_
                    exact V.top (if_pos c279).symm mrg
                refine v_put C inw_8 tyX8 tyX8_ok nmX8 0 6 rfl (by decide) (List.mem_cons_of_mem _ mw_339) rfl rfl rfl rfl (Nat.le_of_ble_eq_true rfl) dX8_nextToken_287 (ws' := (mW (vG X) ad (up F 0 (up (up (sM1 (F 0) (F 1)) 5 (((sM1 (F 0) (F 1)) 5) + 1)) 6 (if (bM (F 0) (F 1) (stM (F 0) (F 1))) = 59 then 3 else 4))))) rfl ?_
                exact v_vret C E rfl dX8_nextToken_290 (by decide) (by decide) (⟨rfl, by rw [show ntM (F 0) (F 1) = _ from (if_neg c71).trans ((if_neg c90).trans (if_neg c158))]; rfl⟩)
              · skip
                have c158 := bI_n0.mp c158
                refine v_aload_n C dX8_nextToken_161 rfl 1 rfl ?_
                refine v_iconst C dX8_nextToken_162 ?_
                refine v_put C inw_8 tyX8 tyX8_ok nmX8 0 7 rfl (by decide) (List.mem_cons_of_mem _ mw_356) rfl rfl rfl rfl (Nat.le_of_ble_eq_true rfl) dX8_nextToken_163 (ws' := (mW (vG X) ad (up F 0 (up (sM1 (F 0) (F 1)) 7 0)))) rfl ?_
                have lp1 : ∀ (m : Nat) (n1 : Nat) (hn1 : (stM (F 0) (F 1)) + (n1 : Int) ≤ (F 0) 3) (hno1 : ∀ j : Nat, j < n1 → ¬ (fun j : Nat => ¬ ((stM (F 0) (F 1)) + (j : Int) < (F 0) 3 ∧ dgP (uM (F 1) ((stM (F 0) (F 1)) + (j : Int))))) j) (hm1 : (F 0) 3 - (stM (F 0) (F 1)) - (n1 : Int) < (m : Int)), V X 0 0 166 [(1, vI (bM (F 0) (F 1) (stM (F 0) (F 1)))), (0, .ref (ad 0))] [] ((mW (vG X) ad (up F 0 (up (up (sM1 (F 0) (F 1)) 7 (dgM (F 0) (F 1) (stM (F 0) (F 1)) n1)) 5 ((stM (F 0) (F 1)) + (n1 : Int)))))) := by
                  intro m
                  induction m with
                  | zero => intro n1 hn1 hno1 hm1; exact absurd hm1 (by omega)
                  | succ m ih1 =>
                    intro n1 hn1 hno1 hm1
                    refine v_aload_n C dX8_nextToken_166 rfl 1 rfl ?_
                    refine v_aload_n C dX8_nextToken_167 rfl 1 rfl ?_
                    refine v_get (v := vI ((stM (F 0) (F 1)) + (n1 : Int))) C inw_8 0 5 rfl (by decide) (List.mem_cons_of_mem _ mw_335) rfl rfl dX8_nextToken_168 ?_
                    refine v_callV (na := 1) (wy := (Cond.code yX8_byteAt cX8_byteAt 2 (some .int) :: wsL_law)) (wc := (mW (vG X) ad (up F 0 (up (up (sM1 (F 0) (F 1)) 7 (dgM (F 0) (F 1) (stM (F 0) (F 1)) n1)) 5 ((stM (F 0) (F 1)) + (n1 : Int)))))) (wr := []) C [vI ((stM (F 0) (F 1)) + (n1 : Int))] [] (c_X8_byteAt _ _ ad (up F 0 (up (up (sM1 (F 0) (F 1)) 7 (dgM (F 0) (F 1) (stM (F 0) (F 1)) n1)) 5 ((stM (F 0) (F 1)) + (n1 : Int)))) ((stM (F 0) (F 1)) + (n1 : Int)) (by omega) (show 0 ≤ (F 0) 3 ∧ (F 0) 3 ≤ 700 by omega)) rfl (gwV mw_360 mw_357 mw_358 mw_359 mw_5) rfl (by decide +kernel) 0 rfl rfl rfl rfl Sb.w rfl rfl dX8_nextToken_171 (fun r w1 hp171_9 => ?_)
                    obtain ⟨rfl, rfl⟩ := hp171_9
                    show V X 0 0 174 [(1, vI (bM (F 0) (F 1) (stM (F 0) (F 1)))), (0, .ref (ad 0))] [vI (bM (F 0) (F 1) ((stM (F 0) (F 1)) + (n1 : Int)))] ((mW (vG X) ad (up F 0 (up (up (sM1 (F 0) (F 1)) 7 (dgM (F 0) (F 1) (stM (F 0) (F 1)) n1)) 5 ((stM (F 0) (F 1)) + (n1 : Int))))))
                    have bm10 := bM_in (s := (F 0)) (B := F 1) (k := ((stM (F 0) (F 1)) + (n1 : Int)))
                    refine v_bipush C dX8_nextToken_174 (by decide +kernel) ?_
                    refine v_bipush C dX8_nextToken_176 (by decide +kernel) ?_
                    refine v_callS (na := 3) (wy := (Cond.code yX8_within cX8_within 3 (some .boolean) :: wsL_law)) (wc := []) (wr := (mW (vG X) ad (up F 0 (up (up (sM1 (F 0) (F 1)) 7 (dgM (F 0) (F 1) (stM (F 0) (F 1)) n1)) 5 ((stM (F 0) (F 1)) + (n1 : Int)))))) C [vI (bM (F 0) (F 1) ((stM (F 0) (F 1)) + (n1 : Int))), vI 48, vI 57] [] (c_X8_within _ _ (bM (F 0) (F 1) ((stM (F 0) (F 1)) + (n1 : Int))) 48 57 (by first | assumption | exact ⟨by omega, by omega⟩) (by decide) (by decide)) rfl (gwS mw_343 mw_341 mw_342 mw_5) (by decide +kernel) rfl rfl Sb.rf rfl rfl dX8_nextToken_178 (fun r w1 hp178_11 => ?_)
                    obtain ⟨rfl, rfl⟩ := hp178_11
                    show V X 0 0 181 [(1, vI (bM (F 0) (F 1) (stM (F 0) (F 1)))), (0, .ref (ad 0))] [vI (bI (48 ≤ (bM (F 0) (F 1) ((stM (F 0) (F 1)) + (n1 : Int))) ∧ (bM (F 0) (F 1) ((stM (F 0) (F 1)) + (n1 : Int))) ≤ 57))] ((mW (vG X) ad (up F 0 (up (up (sM1 (F 0) (F 1)) 7 (dgM (F 0) (F 1) (stM (F 0) (F 1)) n1)) 5 ((stM (F 0) (F 1)) + (n1 : Int))))))
                    refine v_if_eq (tgt := 240) C dX8_nextToken_181 (by decide) sm_bI (fun c181 => ?_) (fun c181 => ?_)
                    · skip
                      have c181 := bI_0.mp c181
                      have en2 : n1 = skN (fun j : Nat => ¬ ((stM (F 0) (F 1)) + (j : Int) < (F 0) 3 ∧ dgP (uM (F 1) ((stM (F 0) (F 1)) + (j : Int))))) ((F 0) 3 - (stM (F 0) (F 1))).toNat := skN_u _ _ hno1 (by omega) (Or.inl (fun h => c181 (bM_dgP.mpr h)))
                      have et2 : (stM (F 0) (F 1)) + (n1 : Int) = (runE dgP (uM (F 1)) ((F 0) 3) (stM (F 0) (F 1))) := by unfold runE; rw [← en2]
                      have ev2 : n1 = ((runE dgP (uM (F 1)) ((F 0) 3) (stM (F 0) (F 1))) - (stM (F 0) (F 1))).toNat := by omega
                      rw [et2]
                      have hre : (stM (F 0) (F 1)) ≤ (runE dgP (uM (F 1)) ((F 0) 3) (stM (F 0) (F 1))) ∧ (runE dgP (uM (F 1)) ((F 0) 3) (stM (F 0) (F 1))) ≤ (F 0) 3 := runE_in (by omega)
                      refine v_aload_n C dX8_nextToken_240 rfl 1 rfl ?_
                      refine v_aload_n C dX8_nextToken_241 rfl 1 rfl ?_
                      refine v_get (v := vI (runE dgP (uM (F 1)) ((F 0) 3) (stM (F 0) (F 1)))) C inw_8 0 5 rfl (by decide) (List.mem_cons_of_mem _ mw_335) rfl rfl dX8_nextToken_242 ?_
                      refine v_aload_n C dX8_nextToken_245 rfl 1 rfl ?_
                      refine v_get (v := vI ((sM1 (F 0) (F 1)) 4)) C inw_8 0 4 rfl (by decide) (List.mem_cons_of_mem _ mw_355) rfl rfl dX8_nextToken_246 ?_
                      refine v_isub C dX8_nextToken_249 ?_
                      refine v_iconst C dX8_nextToken_250 ?_
                      suffices mrg : V X 0 0 259 [(1, vI (bM (F 0) (F 1) (stM (F 0) (F 1)))), (0, .ref (ad 0))] [vI (if ((runE dgP (uM (F 1)) ((F 0) 3) (stM (F 0) (F 1))) - ((sM1 (F 0) (F 1)) 4)) ≤ 3 then 2 else 4), .ref (ad 0)] ((mW (vG X) ad (up F 0 (up (up (sM1 (F 0) (F 1)) 7 (dgM (F 0) (F 1) (stM (F 0) (F 1)) n1)) 5 (runE dgP (uM (F 1)) ((F 0) 3) (stM (F 0) (F 1))))))) by
                        refine v_icmp_le (tgt := 258) C dX8_nextToken_251 (by decide) (by  first | assumption | exact ⟨by omega, by omega⟩) (by decide) (fun c251 => ?_) (fun c251 => ?_)
                        · skip
                          refine v_iconst C dX8_nextToken_258 ?_
                          exact V.top (if_pos c251).symm mrg
                        · skip
                          refine v_iconst C dX8_nextToken_254 ?_
                          refine v_goto (tgt := 259) C dX8_nextToken_255 (by decide) ?_
                          exact V.top (if_neg c251).symm mrg
                      refine v_put C inw_8 tyX8 tyX8_ok nmX8 0 6 rfl (by decide) (List.mem_cons_of_mem _ mw_339) rfl rfl rfl rfl (Nat.le_of_ble_eq_true rfl) dX8_nextToken_259 (ws' := (mW (vG X) ad (up F 0 (up (up (up (sM1 (F 0) (F 1)) 7 (dgM (F 0) (F 1) (stM (F 0) (F 1)) n1)) 5 (runE dgP (uM (F 1)) ((F 0) 3) (stM (F 0) (F 1)))) 6 (if ((runE dgP (uM (F 1)) ((F 0) 3) (stM (F 0) (F 1))) - ((sM1 (F 0) (F 1)) 4)) ≤ 3 then 2 else 4))))) rfl ?_
                      refine v_goto (tgt := 290) C dX8_nextToken_262 (by decide) ?_
                      exact v_vret C E rfl dX8_nextToken_290 (by decide) (by decide) (⟨rfl, by rw [show ntM (F 0) (F 1) = _ from (if_neg c71).trans ((if_neg c90).trans (if_pos c158)), ← ev2]; rfl⟩)
                    · skip
                      have c181 := bI_n0.mp c181
                      obtain ⟨cs1, cs2⟩ := bM_dgP.mp c181
                      refine v_aload_n C dX8_nextToken_184 rfl 1 rfl ?_
                      refine v_aload_n C dX8_nextToken_185 rfl 1 rfl ?_
                      refine v_get (v := vI ((stM (F 0) (F 1)) + (n1 : Int))) C inw_8 0 5 rfl (by decide) (List.mem_cons_of_mem _ mw_335) rfl rfl dX8_nextToken_186 ?_
                      refine v_aload_n C dX8_nextToken_189 rfl 1 rfl ?_
                      refine v_get (v := vI ((sM1 (F 0) (F 1)) 4)) C inw_8 0 4 rfl (by decide) (List.mem_cons_of_mem _ mw_355) rfl rfl dX8_nextToken_190 ?_
                      refine v_isub C dX8_nextToken_193 ?_
                      refine v_iconst C dX8_nextToken_194 ?_
                      refine v_icmp_ge (tgt := 220) C dX8_nextToken_195 (by decide) (by  first | assumption | exact ⟨by omega, by omega⟩) (by decide) (fun c195 => ?_) (fun c195 => ?_)
                      · skip
                        refine v_aload_n C dX8_nextToken_220 rfl 1 rfl ?_
                        refine v_get (v := vI (dgM (F 0) (F 1) (stM (F 0) (F 1)) n1)) C inw_8 0 7 rfl (by decide) (List.mem_cons_of_mem _ mw_356) rfl rfl dX8_nextToken_221 ?_
                        refine v_put C inw_8 tyX8 tyX8_ok nmX8 0 7 rfl (by decide) (List.mem_cons_of_mem _ mw_356) rfl rfl rfl rfl (Nat.le_of_ble_eq_true rfl) dX8_nextToken_224 (ws' := (mW (vG X) ad (up F 0 (up (up (sM1 (F 0) (F 1)) 5 ((stM (F 0) (F 1)) + (n1 : Int))) 7 (dgM (F 0) (F 1) (stM (F 0) (F 1)) n1))))) rfl ?_
                        refine v_aload_n C dX8_nextToken_227 rfl 1 rfl ?_
                        refine v_dup C dX8_nextToken_228 rfl ?_
                        refine v_get (v := vI ((stM (F 0) (F 1)) + (n1 : Int))) C inw_8 0 5 rfl (by decide) (List.mem_cons_of_mem _ mw_335) rfl rfl dX8_nextToken_229 ?_
                        refine v_iconst C dX8_nextToken_232 ?_
                        refine v_iadd C dX8_nextToken_233 ?_
                        refine v_put C inw_8 tyX8 tyX8_ok nmX8 0 5 rfl (by decide) (List.mem_cons_of_mem _ mw_335) rfl rfl rfl rfl (Nat.le_of_ble_eq_true rfl) dX8_nextToken_234 (ws' := (mW (vG X) ad (up F 0 (up (up (sM1 (F 0) (F 1)) 7 (dgM (F 0) (F 1) (stM (F 0) (F 1)) n1)) 5 (((stM (F 0) (F 1)) + (n1 : Int)) + 1))))) rfl ?_
                        refine v_goto (tgt := 166) C dX8_nextToken_237 (by decide) ?_
                        have key := ih1 (n1 + 1) (by omega) (fun j hj => by
                          by_cases e : j = n1
                          · rw [e]; exact fun h => h ⟨cs1, cs2⟩
                          · exact hno1 j (by omega)) (by omega)
                        rw [show (stM (F 0) (F 1)) + ((n1 + 1 : Nat) : Int) = (stM (F 0) (F 1)) + (n1 : Int) + 1 by omega, show dgM (F 0) (F 1) (stM (F 0) (F 1)) (n1 + 1) = _ from if_neg (show ¬ n1 < 3 by omega)] at key
                        exact key
                      · skip
                        refine v_bipush C dX8_nextToken_198 (by decide +kernel) ?_
                        refine v_aload_n C dX8_nextToken_200 rfl 1 rfl ?_
                        refine v_get (v := vI (dgM (F 0) (F 1) (stM (F 0) (F 1)) n1)) C inw_8 0 7 rfl (by decide) (List.mem_cons_of_mem _ mw_356) rfl rfl dX8_nextToken_201 ?_
                        refine v_imul C dX8_nextToken_204 ?_
                        refine v_aload_n C dX8_nextToken_205 rfl 1 rfl ?_
                        refine v_aload_n C dX8_nextToken_206 rfl 1 rfl ?_
                        refine v_get (v := vI ((stM (F 0) (F 1)) + (n1 : Int))) C inw_8 0 5 rfl (by decide) (List.mem_cons_of_mem _ mw_335) rfl rfl dX8_nextToken_207 ?_
                        refine v_callV (na := 1) (wy := (Cond.code yX8_byteAt cX8_byteAt 2 (some .int) :: wsL_law)) (wc := (mW (vG X) ad (up F 0 (up (up (sM1 (F 0) (F 1)) 7 (dgM (F 0) (F 1) (stM (F 0) (F 1)) n1)) 5 ((stM (F 0) (F 1)) + (n1 : Int)))))) (wr := []) C [vI ((stM (F 0) (F 1)) + (n1 : Int))] [vI (10 * (dgM (F 0) (F 1) (stM (F 0) (F 1)) n1)), .ref (ad 0)] (c_X8_byteAt _ _ ad (up F 0 (up (up (sM1 (F 0) (F 1)) 7 (dgM (F 0) (F 1) (stM (F 0) (F 1)) n1)) 5 ((stM (F 0) (F 1)) + (n1 : Int)))) ((stM (F 0) (F 1)) + (n1 : Int)) (by omega) (show 0 ≤ (F 0) 3 ∧ (F 0) 3 ≤ 700 by omega)) rfl (gwV mw_360 mw_357 mw_358 mw_359 mw_5) rfl (by decide +kernel) 0 rfl rfl rfl rfl Sb.w rfl rfl dX8_nextToken_210 (fun r w1 hp210_12 => ?_)
                        obtain ⟨rfl, rfl⟩ := hp210_12
                        show V X 0 0 213 [(1, vI (bM (F 0) (F 1) (stM (F 0) (F 1)))), (0, .ref (ad 0))] [vI (bM (F 0) (F 1) ((stM (F 0) (F 1)) + (n1 : Int))), vI (10 * (dgM (F 0) (F 1) (stM (F 0) (F 1)) n1)), .ref (ad 0)] ((mW (vG X) ad (up F 0 (up (up (sM1 (F 0) (F 1)) 7 (dgM (F 0) (F 1) (stM (F 0) (F 1)) n1)) 5 ((stM (F 0) (F 1)) + (n1 : Int))))))
                        have bm13 := bM_in (s := (F 0)) (B := F 1) (k := ((stM (F 0) (F 1)) + (n1 : Int)))
                        refine v_iadd C dX8_nextToken_213 ?_
                        refine v_bipush C dX8_nextToken_214 (by decide +kernel) ?_
                        refine v_isub C dX8_nextToken_216 ?_
                        refine v_goto (tgt := 224) C dX8_nextToken_217 (by decide) ?_
                        refine v_put C inw_8 tyX8 tyX8_ok nmX8 0 7 rfl (by decide) (List.mem_cons_of_mem _ mw_356) rfl rfl rfl rfl (Nat.le_of_ble_eq_true rfl) dX8_nextToken_224 (ws' := (mW (vG X) ad (up F 0 (up (up (sM1 (F 0) (F 1)) 5 ((stM (F 0) (F 1)) + (n1 : Int))) 7 (((10 * (dgM (F 0) (F 1) (stM (F 0) (F 1)) n1)) + (bM (F 0) (F 1) ((stM (F 0) (F 1)) + (n1 : Int)))) - 48))))) rfl ?_
                        refine v_aload_n C dX8_nextToken_227 rfl 1 rfl ?_
                        refine v_dup C dX8_nextToken_228 rfl ?_
                        refine v_get (v := vI ((stM (F 0) (F 1)) + (n1 : Int))) C inw_8 0 5 rfl (by decide) (List.mem_cons_of_mem _ mw_335) rfl rfl dX8_nextToken_229 ?_
                        refine v_iconst C dX8_nextToken_232 ?_
                        refine v_iadd C dX8_nextToken_233 ?_
                        refine v_put C inw_8 tyX8 tyX8_ok nmX8 0 5 rfl (by decide) (List.mem_cons_of_mem _ mw_335) rfl rfl rfl rfl (Nat.le_of_ble_eq_true rfl) dX8_nextToken_234 (ws' := (mW (vG X) ad (up F 0 (up (up (sM1 (F 0) (F 1)) 7 (((10 * (dgM (F 0) (F 1) (stM (F 0) (F 1)) n1)) + (bM (F 0) (F 1) ((stM (F 0) (F 1)) + (n1 : Int)))) - 48)) 5 (((stM (F 0) (F 1)) + (n1 : Int)) + 1))))) rfl ?_
                        refine v_goto (tgt := 166) C dX8_nextToken_237 (by decide) ?_
                        have key := ih1 (n1 + 1) (by omega) (fun j hj => by
                          by_cases e : j = n1
                          · rw [e]; exact fun h => h ⟨cs1, cs2⟩
                          · exact hno1 j (by omega)) (by omega)
                        rw [show (stM (F 0) (F 1)) + ((n1 + 1 : Nat) : Int) = (stM (F 0) (F 1)) + (n1 : Int) + 1 by omega, show dgM (F 0) (F 1) (stM (F 0) (F 1)) (n1 + 1) = _ from if_pos (show n1 < 3 by omega)] at key
                        exact key
                have key := lp1 (((F 0) 3 - (stM (F 0) (F 1))).toNat + 1) 0 (by omega) (fun j hj => absurd hj (by omega)) (by omega)
                rw [show up (up (sM1 (F 0) (F 1)) 7 (dgM (F 0) (F 1) (stM (F 0) (F 1)) 0)) 5 ((stM (F 0) (F 1)) + ((0 : Nat) : Int)) = up (sM1 (F 0) (F 1)) 7 0 from up_id (show (stM (F 0) (F 1)) = (stM (F 0) (F 1)) + ((0 : Nat) : Int) by omega)] at key
                exact key
            · skip
              have c90 := bI_n0.mp c90
              have lp1 : ∀ (m : Nat) (n1 : Nat) (hn1 : (stM (F 0) (F 1)) + (n1 : Int) ≤ (F 0) 3) (hno1 : ∀ j : Nat, j < n1 → ¬ (fun j : Nat => ¬ ((stM (F 0) (F 1)) + (j : Int) < (F 0) 3 ∧ ltP (uM (F 1) ((stM (F 0) (F 1)) + (j : Int))))) j) (hm1 : (F 0) 3 - (stM (F 0) (F 1)) - (n1 : Int) < (m : Int)), V X 0 0 93 [(1, vI (bM (F 0) (F 1) (stM (F 0) (F 1)))), (0, .ref (ad 0))] [] ((mW (vG X) ad (up F 0 (up (sM1 (F 0) (F 1)) 5 ((stM (F 0) (F 1)) + (n1 : Int)))))) := by
                intro m
                induction m with
                | zero => intro n1 hn1 hno1 hm1; exact absurd hm1 (by omega)
                | succ m ih1 =>
                  intro n1 hn1 hno1 hm1
                  refine v_aload_n C dX8_nextToken_93 rfl 1 rfl ?_
                  refine v_aload_n C dX8_nextToken_94 rfl 1 rfl ?_
                  refine v_get (v := vI ((stM (F 0) (F 1)) + (n1 : Int))) C inw_8 0 5 rfl (by decide) (List.mem_cons_of_mem _ mw_335) rfl rfl dX8_nextToken_95 ?_
                  refine v_callV (na := 1) (wy := (Cond.code yX8_byteAt cX8_byteAt 2 (some .int) :: wsL_law)) (wc := (mW (vG X) ad (up F 0 (up (sM1 (F 0) (F 1)) 5 ((stM (F 0) (F 1)) + (n1 : Int)))))) (wr := []) C [vI ((stM (F 0) (F 1)) + (n1 : Int))] [] (c_X8_byteAt _ _ ad (up F 0 (up (sM1 (F 0) (F 1)) 5 ((stM (F 0) (F 1)) + (n1 : Int)))) ((stM (F 0) (F 1)) + (n1 : Int)) (by omega) (show 0 ≤ (F 0) 3 ∧ (F 0) 3 ≤ 700 by omega)) rfl (gwV mw_360 mw_357 mw_358 mw_359 mw_5) rfl (by decide +kernel) 0 rfl rfl rfl rfl Sb.w rfl rfl dX8_nextToken_98 (fun r w1 hp98_14 => ?_)
                  obtain ⟨rfl, rfl⟩ := hp98_14
                  show V X 0 0 101 [(1, vI (bM (F 0) (F 1) (stM (F 0) (F 1)))), (0, .ref (ad 0))] [vI (bM (F 0) (F 1) ((stM (F 0) (F 1)) + (n1 : Int)))] ((mW (vG X) ad (up F 0 (up (sM1 (F 0) (F 1)) 5 ((stM (F 0) (F 1)) + (n1 : Int))))))
                  have bm15 := bM_in (s := (F 0)) (B := F 1) (k := ((stM (F 0) (F 1)) + (n1 : Int)))
                  refine v_bipush C dX8_nextToken_101 (by decide +kernel) ?_
                  refine v_bipush C dX8_nextToken_103 (by decide +kernel) ?_
                  refine v_callS (na := 3) (wy := (Cond.code yX8_within cX8_within 3 (some .boolean) :: wsL_law)) (wc := []) (wr := (mW (vG X) ad (up F 0 (up (sM1 (F 0) (F 1)) 5 ((stM (F 0) (F 1)) + (n1 : Int)))))) C [vI (bM (F 0) (F 1) ((stM (F 0) (F 1)) + (n1 : Int))), vI 97, vI 122] [] (c_X8_within _ _ (bM (F 0) (F 1) ((stM (F 0) (F 1)) + (n1 : Int))) 97 122 (by first | assumption | exact ⟨by omega, by omega⟩) (by decide) (by decide)) rfl (gwS mw_343 mw_341 mw_342 mw_5) (by decide +kernel) rfl rfl Sb.rf rfl rfl dX8_nextToken_105 (fun r w1 hp105_16 => ?_)
                  obtain ⟨rfl, rfl⟩ := hp105_16
                  show V X 0 0 108 [(1, vI (bM (F 0) (F 1) (stM (F 0) (F 1)))), (0, .ref (ad 0))] [vI (bI (97 ≤ (bM (F 0) (F 1) ((stM (F 0) (F 1)) + (n1 : Int))) ∧ (bM (F 0) (F 1) ((stM (F 0) (F 1)) + (n1 : Int))) ≤ 122))] ((mW (vG X) ad (up F 0 (up (sM1 (F 0) (F 1)) 5 ((stM (F 0) (F 1)) + (n1 : Int))))))
                  refine v_if_eq (tgt := 124) C dX8_nextToken_108 (by decide) sm_bI (fun c108 => ?_) (fun c108 => ?_)
                  · skip
                    have c108 := bI_0.mp c108
                    have en2 : n1 = skN (fun j : Nat => ¬ ((stM (F 0) (F 1)) + (j : Int) < (F 0) 3 ∧ ltP (uM (F 1) ((stM (F 0) (F 1)) + (j : Int))))) ((F 0) 3 - (stM (F 0) (F 1))).toNat := skN_u _ _ hno1 (by omega) (Or.inl (fun h => c108 (bM_ltP.mpr h)))
                    have et2 : (stM (F 0) (F 1)) + (n1 : Int) = (runE ltP (uM (F 1)) ((F 0) 3) (stM (F 0) (F 1))) := by unfold runE; rw [← en2]
                    rw [et2]
                    have hre : (stM (F 0) (F 1)) ≤ (runE ltP (uM (F 1)) ((F 0) 3) (stM (F 0) (F 1))) ∧ (runE ltP (uM (F 1)) ((F 0) 3) (stM (F 0) (F 1))) ≤ (F 0) 3 := runE_in (by omega)
                    refine v_aload_n C dX8_nextToken_124 rfl 1 rfl ?_
                    refine v_aload_n C dX8_nextToken_125 rfl 1 rfl ?_
                    refine v_get (v := vI (runE ltP (uM (F 1)) ((F 0) 3) (stM (F 0) (F 1)))) C inw_8 0 5 rfl (by decide) (List.mem_cons_of_mem _ mw_335) rfl rfl dX8_nextToken_126 ?_
                    refine v_aload_n C dX8_nextToken_129 rfl 1 rfl ?_
                    refine v_get (v := vI ((sM1 (F 0) (F 1)) 4)) C inw_8 0 4 rfl (by decide) (List.mem_cons_of_mem _ mw_355) rfl rfl dX8_nextToken_130 ?_
                    refine v_isub C dX8_nextToken_133 ?_
                    refine v_bipush C dX8_nextToken_134 (by decide +kernel) ?_
                    suffices mrg : V X 0 0 144 [(1, vI (bM (F 0) (F 1) (stM (F 0) (F 1)))), (0, .ref (ad 0))] [vI (if ((runE ltP (uM (F 1)) ((F 0) 3) (stM (F 0) (F 1))) - ((sM1 (F 0) (F 1)) 4)) ≤ 8 then 1 else 4), .ref (ad 0)] ((mW (vG X) ad (up F 0 (up (sM1 (F 0) (F 1)) 5 (runE ltP (uM (F 1)) ((F 0) 3) (stM (F 0) (F 1))))))) by
                      refine v_icmp_le (tgt := 143) C dX8_nextToken_136 (by decide) (by  first | assumption | exact ⟨by omega, by omega⟩) (by decide) (fun c136 => ?_) (fun c136 => ?_)
                      · skip
                        refine v_iconst C dX8_nextToken_143 ?_
                        exact V.top (if_pos c136).symm mrg
                      · skip
                        refine v_iconst C dX8_nextToken_139 ?_
                        refine v_goto (tgt := 144) C dX8_nextToken_140 (by decide) ?_
                        exact V.top (if_neg c136).symm mrg
                    refine v_put C inw_8 tyX8 tyX8_ok nmX8 0 6 rfl (by decide) (List.mem_cons_of_mem _ mw_339) rfl rfl rfl rfl (Nat.le_of_ble_eq_true rfl) dX8_nextToken_144 (ws' := (mW (vG X) ad (up F 0 (up (up (sM1 (F 0) (F 1)) 5 (runE ltP (uM (F 1)) ((F 0) 3) (stM (F 0) (F 1)))) 6 (if ((runE ltP (uM (F 1)) ((F 0) 3) (stM (F 0) (F 1))) - ((sM1 (F 0) (F 1)) 4)) ≤ 8 then 1 else 4))))) rfl ?_
                    refine v_goto (tgt := 290) C dX8_nextToken_147 (by decide) ?_
                    exact v_vret C E rfl dX8_nextToken_290 (by decide) (by decide) (⟨rfl, by rw [show ntM (F 0) (F 1) = _ from (if_neg c71).trans (if_pos c90)]; rfl⟩)
                  · skip
                    have c108 := bI_n0.mp c108
                    obtain ⟨cs1, cs2⟩ := bM_ltP.mp c108
                    refine v_aload_n C dX8_nextToken_111 rfl 1 rfl ?_
                    refine v_dup C dX8_nextToken_112 rfl ?_
                    refine v_get (v := vI ((stM (F 0) (F 1)) + (n1 : Int))) C inw_8 0 5 rfl (by decide) (List.mem_cons_of_mem _ mw_335) rfl rfl dX8_nextToken_113 ?_
                    refine v_iconst C dX8_nextToken_116 ?_
                    refine v_iadd C dX8_nextToken_117 ?_
                    refine v_put C inw_8 tyX8 tyX8_ok nmX8 0 5 rfl (by decide) (List.mem_cons_of_mem _ mw_335) rfl rfl rfl rfl (Nat.le_of_ble_eq_true rfl) dX8_nextToken_118 (ws' := (mW (vG X) ad (up F 0 (up (sM1 (F 0) (F 1)) 5 (((stM (F 0) (F 1)) + (n1 : Int)) + 1))))) rfl ?_
                    refine v_goto (tgt := 93) C dX8_nextToken_121 (by decide) ?_
                    have key := ih1 (n1 + 1) (by omega) (fun j hj => by
                      by_cases e : j = n1
                      · rw [e]; exact fun h => h ⟨cs1, cs2⟩
                      · exact hno1 j (by omega)) (by omega)
                    rw [show (stM (F 0) (F 1)) + ((n1 + 1 : Nat) : Int) = (stM (F 0) (F 1)) + (n1 : Int) + 1 by omega] at key
                    exact key
              have key := lp1 (((F 0) 3 - (stM (F 0) (F 1))).toNat + 1) 0 (by omega) (fun j hj => absurd hj (by omega)) (by omega)
              rw [show up (sM1 (F 0) (F 1)) 5 ((stM (F 0) (F 1)) + ((0 : Nat) : Int)) = (sM1 (F 0) (F 1)) from up_id (by omega)] at key
              exact key
          · skip
            refine v_aload_n C dX8_nextToken_74 rfl 1 rfl ?_
            refine v_iconst C dX8_nextToken_75 ?_
            refine v_put C inw_8 tyX8 tyX8_ok nmX8 0 6 rfl (by decide) (List.mem_cons_of_mem _ mw_339) rfl rfl rfl rfl (Nat.le_of_ble_eq_true rfl) dX8_nextToken_76 (ws' := (mW (vG X) ad (up F 0 (up (sM1 (F 0) (F 1)) 6 0)))) rfl ?_
            refine v_goto (tgt := 290) C dX8_nextToken_79 (by decide) ?_
            exact v_vret C E rfl dX8_nextToken_290 (by decide) (by decide) (⟨rfl, by rw [show ntM (F 0) (F 1) = _ from if_pos c71]⟩)
        · skip
          refine v_aload_n C dX8_nextToken_34 rfl 0 rfl ?_
          refine v_dup C dX8_nextToken_35 rfl ?_
          refine v_get (v := vI ((F 0 5) + (n0 : Int))) C inw_8 0 4 rfl (by decide) (List.mem_cons_of_mem _ mw_355) rfl rfl dX8_nextToken_36 ?_
          refine v_iconst C dX8_nextToken_39 ?_
          refine v_iadd C dX8_nextToken_40 ?_
          refine v_put C inw_8 tyX8 tyX8_ok nmX8 0 4 rfl (by decide) (List.mem_cons_of_mem _ mw_355) rfl rfl rfl rfl (Nat.le_of_ble_eq_true rfl) dX8_nextToken_41 (ws' := (mW (vG X) ad (up F 0 (up (F 0) 4 (((F 0 5) + (n0 : Int)) + 1))))) rfl ?_
          refine v_goto (tgt := 8) C dX8_nextToken_44 (by decide) ?_
          have csp : spP (bM (F 0) (F 1) ((F 0) 5 + (n0 : Int))) := Or.inr c31
          obtain ⟨cs1, cs2⟩ := bM_sp.mp csp
          have key := ih (n0 + 1) (by omega) (fun j hj => by
            by_cases e : j = n0
            · rw [e]; exact fun h => h ⟨cs1, cs2⟩
            · exact hno j (by omega)) (by omega)
          rw [show (F 0) 5 + ((n0 + 1 : Nat) : Int) = (F 0) 5 + (n0 : Int) + 1 by omega] at key
          exact key
  have key := lp (((F 0) 3 - (F 0) 5).toNat + 1) 0 (by omega) (fun j hj => absurd hj (by omega)) (by omega)
  rw [show (F 0) 5 + ((0 : Nat) : Int) = (F 0) 5 by omega] at key
  exact key
end M10
