section C10
set_option maxHeartbeats 4000000 in
set_option maxRecDepth 100000 in
theorem c_X5_bytesOfFirst (G : GG) (l : Launch) (a b c : Nat) (f le : Int → Int) (co : Int → Int64) (q : Int) (hq : sm q) (hf : sB 1073741824 f) : Ct G l yX5_bytesOfFirst (Cond.code yX5_bytesOfFirst cX5_bytesOfFirst 4 (some .int) :: wsL_law) 2 42 0 0 [.ref a, vI q] ((stW G a b c (f) (le) (co))) (fun r w => r = some (vI (sumI (lnF f le) (if q ≤ 20 then (if 0 ≤ q then q else 0) else 20))) ∧ w = (stW G a b c (f) (le) (co))) := by
  refine Ct.of (own := RX5) (cc := cX5_bytesOfFirst) (maxL := 4) (ret := (some .int)) (by decide) rfl rfl (Nat.le_of_ble_eq_true rfl) (fun X C E M hG hl => ?_)
  subst hG hl
  refine v_iconst C dX5_bytesOfFirst_0 ?_
  refine v_istore_n C M dX5_bytesOfFirst_1 rfl (by decide) (L' := [(2, vI 0), (0, .ref a), (1, vI q)]) rfl ?_
  refine v_iconst C dX5_bytesOfFirst_2 ?_
  refine v_istore_n C M dX5_bytesOfFirst_3 rfl (by decide) (L' := [(3, vI 0), (2, vI 0), (0, .ref a), (1, vI q)]) rfl ?_
  refine V.loc (L' := [(0, .ref a), (1, vI q), (2, vI 0), (3, vI 0)]) [2, 3, 1, 0] rfl ?_
  have lp : ∀ (n : Nat) (k : Int) (hk : 0 ≤ k) (hk2 : k ≤ 20) (hk3 : k = 0 ∨ k ≤ q) (hm : 20 - k < (n : Int)), V X 0 0 4 [(0, .ref a), (1, vI q), (2, vI (sumI (lnF f le) k)), (3, vI k)] [] ((stW (vG X) a b c (f) (le) (co))) := by
    intro n
    induction n with
    | zero => intro k hk hk2 hk3 hm; exact absurd hm (by omega)
    | succ n ih =>
      intro k hk hk2 hk3 hm
      refine v_iload_n C dX5_bytesOfFirst_4 rfl 3 rfl ?_
      refine v_iload_n C dX5_bytesOfFirst_5 rfl 1 rfl ?_
      refine v_icmp_ge (tgt := 29) C dX5_bytesOfFirst_6 (by decide) (by  first | assumption | exact ⟨by omega, by omega⟩) (by  first | assumption | exact ⟨by omega, by omega⟩) (fun c6 => ?_) (fun c6 => ?_)
      · refine v_iload_n C dX5_bytesOfFirst_29 rfl 2 rfl ?_
        exact v_iret C E rfl dX5_bytesOfFirst_30 (by decide) (by decide) (⟨by rw [show (if q ≤ 20 then (if 0 ≤ q then q else 0) else 20) = k by (repeat' split) <;> omega], rfl⟩)
      · refine v_iload_n C dX5_bytesOfFirst_9 rfl 3 rfl ?_
        refine v_bipush C dX5_bytesOfFirst_10 (by decide +kernel) ?_
        refine v_icmp_ge (tgt := 29) C dX5_bytesOfFirst_12 (by decide) (by  first | assumption | exact ⟨by omega, by omega⟩) (by decide) (fun c12 => ?_) (fun c12 => ?_)
        · refine v_iload_n C dX5_bytesOfFirst_29 rfl 2 rfl ?_
          exact v_iret C E rfl dX5_bytesOfFirst_30 (by decide) (by decide) (⟨by rw [show (if q ≤ 20 then (if 0 ≤ q then q else 0) else 20) = k by (repeat' split) <;> omega], rfl⟩)
        · refine v_iload_n C dX5_bytesOfFirst_15 rfl 2 rfl ?_
          refine v_aload_n C dX5_bytesOfFirst_16 rfl 0 rfl ?_
          refine v_iload_n C dX5_bytesOfFirst_17 rfl 3 rfl ?_
          refine v_callV (na := 1) (wy := (Cond.code yX5_lengthOf cX5_lengthOf 2 (some .int) :: wsL_law)) (wc := (stW (vG X) a b c (f) (le) (co))) (wr := []) C [vI k] [vI (sumI (lnF f le) k)] (c_X5_lengthOf _ _ a b c (f) (le) (co) k (by first | assumption | exact ⟨by omega, by omega⟩) hf) rfl (gwV mw_149 mw_210 mw_147 mw_148 mw_48) rfl (by decide +kernel) 0 rfl rfl rfl rfl Sb.w rfl rfl dX5_bytesOfFirst_18 (fun r w1 hp18_1 => ?_)
          obtain ⟨rfl, rfl⟩ := hp18_1
          show V X 0 0 21 [(0, .ref a), (1, vI q), (2, vI (sumI (lnF f le) k)), (3, vI k)] [vI (if (0 ≤ k ∧ k < (f) 0) ∧ k < 20 then ((le) k) else 0), vI (sumI (lnF f le) k)] ((stW (vG X) a b c (f) (le) (co)))
          refine v_iadd C dX5_bytesOfFirst_21 ?_
          rw [show sumI (lnF f le) k + (if (0 ≤ k ∧ k < (f) 0) ∧ k < 20 then (le k) else 0) = sumI (lnF f le) (k + 1) from (sumI_s hk).symm]
          refine v_istore_n C M dX5_bytesOfFirst_22 rfl (by decide) (L' := [(2, vI (sumI (lnF f le) (k + 1))), (0, .ref a), (1, vI q), (3, vI k)]) rfl ?_
          refine v_iinc C M dX5_bytesOfFirst_23 3 rfl (by decide) (z' := (k + 1)) rfl (L' := [(3, vI (k + 1)), (2, vI (sumI (lnF f le) (k + 1))), (0, .ref a), (1, vI q)]) rfl ?_
          refine v_goto (tgt := 4) C dX5_bytesOfFirst_26 (by decide) ?_
          refine V.loc (L' := [(0, .ref a), (1, vI q), (2, vI (sumI (lnF f le) (k + 1))), (3, vI (k + 1))]) [2, 3, 1, 0] rfl ?_
          exact ih (k + 1) (by omega) (by omega) (by omega) (by omega)
  exact lp 21 0 (by omega) (by omega) (Or.inl rfl) (by omega)
set_option maxHeartbeats 4000000 in
set_option maxRecDepth 100000 in
theorem c_X1_byteOnLine (G : GG) (l : Launch) (a b : Nat) (f pl : Int → Int) (q : Int) (hq : sm q) (h0 : 0 ≤ f 0) (h1 : f 0 ≤ 15) (hp : ∀ j, 0 ≤ j → j < f 0 → 0 ≤ pl j ∧ pl j < 256) : Ct G l yX1_byteOnLine (Cond.code yX1_byteOnLine cX1_byteOnLine 5 (some .int) :: wsL_law) 1 20 0 0 [.ref a, vI q] ((frW G a b (f) (pl))) (fun r w => ∃ v : Int, r = some (vI v) ∧ (∀ li : Int → Int, LSp li pl (f 0) → li (1 + f 0 + escI pl (f 0)) = 126 → v = if 0 ≤ q ∧ q ≤ (1 + f 0 + escI pl (f 0)) then li q else -1) ∧ w = frW G a b f pl) := by
  refine Ct.of (own := RX1) (cc := cX1_byteOnLine) (maxL := 5) (ret := (some .int)) (by decide) rfl rfl (Nat.le_of_ble_eq_true rfl) (fun X C E M hG hl => ?_)
  subst hG hl
  have hE := escI_in (f := pl) (k := f 0) h0
  refine v_iload_n C dX1_byteOnLine_0 rfl 1 rfl ?_
  refine v_if_ne (tgt := 7) C dX1_byteOnLine_1 (by decide) (by  first | assumption | exact ⟨by omega, by omega⟩) (fun c1 => ?_) (fun c1 => ?_)
  · skip
    refine v_iconst C dX1_byteOnLine_7 ?_
    refine v_istore_n C M dX1_byteOnLine_8 rfl (by decide) (L' := [(2, vI 1), (0, .ref a), (1, vI q)]) rfl ?_
    refine v_iconst C dX1_byteOnLine_9 ?_
    refine v_istore_n C M dX1_byteOnLine_10 rfl (by decide) (L' := [(3, vI 0), (2, vI 1), (0, .ref a), (1, vI q)]) rfl ?_
    refine V.loc (L' := [(0, .ref a), (1, vI q), (2, vI 1), (3, vI 0)]) [2, 3, 1, 0] rfl ?_
    have lp : ∀ (n : Nat) (i : Int) (hi : 0 ≤ i) (hi2 : i ≤ f 0) (hq2 : q < 0 ∨ 1 + i + escI pl i ≤ q) (hm : f 0 - i < (n : Int)), V X 0 0 11 [(0, .ref a), (1, vI q), (2, vI ((1 + i) + (escI pl i))), (3, vI i)] [] ((frW (vG X) a b (f) (pl))) := by
      intro n
      induction n with
      | zero => intro i hi hi2 hq2 hm; exact absurd hm (by omega)
      | succ n ih =>
        intro i hi hi2 hq2 hm
        have hEi := escI_in (f := pl) (k := i) hi
        refine v_iload_n C dX1_byteOnLine_11 rfl 3 rfl ?_
        refine v_aload_n C dX1_byteOnLine_12 rfl 0 rfl ?_
        refine v_get (v := vI (f 0)) C inw_1 0 1 rfl (by decide) (List.mem_cons_of_mem _ mw_116) rfl rfl dX1_byteOnLine_13 ?_
        refine v_icmp_ge (tgt := 79) C dX1_byteOnLine_16 (by decide) (by  first | assumption | exact ⟨by omega, by omega⟩) (by  first | assumption | exact ⟨by omega, by omega⟩) (fun c16 => ?_) (fun c16 => ?_)
        · obtain rfl : i = f 0 := by omega
          refine v_iload_n C dX1_byteOnLine_79 rfl 1 rfl ?_
          refine v_iload_n C dX1_byteOnLine_80 rfl 2 rfl ?_
          refine v_icmp_ne (tgt := 89) C dX1_byteOnLine_81 (by decide) (by  first | assumption | exact ⟨by omega, by omega⟩) (by  first | assumption | exact ⟨by omega, by omega⟩) (fun c81 => ?_) (fun c81 => ?_)
          · skip
            refine v_iconst C dX1_byteOnLine_89 ?_
            exact v_iret C E rfl dX1_byteOnLine_90 (by decide) (by decide) (⟨_, rfl, fun li _ _ => by rw [if_neg (fun h => by omega)], rfl⟩)
          · skip
            refine v_bipush C dX1_byteOnLine_84 (by decide +kernel) ?_
            refine v_goto (tgt := 90) C dX1_byteOnLine_86 (by decide) ?_
            exact v_iret C E rfl dX1_byteOnLine_90 (by decide) (by decide) (⟨_, rfl, fun li _ he => by rw [if_pos ⟨by omega, by omega⟩, show q = 1 + f 0 + escI pl (f 0) by omega]; exact he.symm, rfl⟩)
        · refine v_iload_n C dX1_byteOnLine_19 rfl 3 rfl ?_
          refine v_aload_n C dX1_byteOnLine_20 rfl 0 rfl ?_
          refine v_get (v := .ref b) C inw_1 0 0 rfl (by decide) (List.mem_cons_of_mem _ mw_70) rfl rfl dX1_byteOnLine_21 ?_
          refine v_alen (z := 15) C 1 1 rfl rfl (show Int32.ofNat 15 = iI 15 by decide +kernel) dX1_byteOnLine_24 ?_
          refine v_icmp_ge (tgt := 79) C dX1_byteOnLine_25 (by decide) (by  first | assumption | exact ⟨by omega, by omega⟩) (by decide) (fun c25 => ?_) (fun c25 => ?_)
          · exact absurd h1 (by omega)
          · have hpi := hp i (by omega) (by omega)
            have hes := escI_s (f := pl) (k := i) hi
            have hmo := escI_mono (f := pl) (j := i + 1) (k := f 0) (by omega) (by omega)
            refine v_aload_n C dX1_byteOnLine_28 rfl 0 rfl ?_
            refine v_get (v := .ref b) C inw_1 0 0 rfl (by decide) (List.mem_cons_of_mem _ mw_70) rfl rfl dX1_byteOnLine_29 ?_
            refine v_iload_n C dX1_byteOnLine_32 rfl 3 rfl ?_
            refine v_iald C 1 rfl (by  omega) (by  omega) (by decide) dX1_byteOnLine_33 ?_
            refine v_istore C M dX1_byteOnLine_34 (by decide) (L' := [(4, vI (pl i)), (0, .ref a), (1, vI q), (2, vI ((1 + i) + (escI pl i))), (3, vI i)]) rfl ?_
            refine v_iload C dX1_byteOnLine_36 0 rfl ?_
            refine v_callS (na := 1) (wy := (Cond.code yX1_isEscaped cX1_isEscaped 1 (some .boolean) :: wsL_law)) (wc := []) (wr := (frW (vG X) a b (f) (pl))) C [vI (pl i)] [] (c_X1_isEscaped _ _ (pl i) (by have := hp i (by omega) (by omega); first | assumption | exact ⟨by omega, by omega⟩)) rfl (gwS mw_140 mw_138 mw_139 mw_21) (by decide +kernel) rfl rfl Sb.rf rfl rfl dX1_byteOnLine_38 (fun r w1 hp38_1 => ?_)
            obtain ⟨rfl, rfl⟩ := hp38_1
            show V X 0 0 41 [(4, vI (pl i)), (0, .ref a), (1, vI q), (2, vI ((1 + i) + (escI pl i))), (3, vI i)] [vI (bI (isMk (pl i)))] ((frW (vG X) a b (f) (pl)))
            refine v_if_eq (tgt := 62) C dX1_byteOnLine_41 (by decide) sm_bI (fun c41 => ?_) (fun c41 => ?_)
            · have c41 := bI_0.mp c41
              rw [bI_f c41] at hes
              refine v_iload_n C dX1_byteOnLine_62 rfl 2 rfl ?_
              refine v_iload_n C dX1_byteOnLine_63 rfl 3 rfl ?_
              refine v_icmp_ne (tgt := 70) C dX1_byteOnLine_64 (by decide) (by  first | assumption | exact ⟨by omega, by omega⟩) (by  first | assumption | exact ⟨by omega, by omega⟩) (fun c64 => ?_) (fun c64 => ?_)
              · skip
                refine v_iinc C M dX1_byteOnLine_70 3 rfl (by decide) (z' := (((1 + i) + (escI pl i)) + 1)) rfl (L' := [(2, vI (((1 + i) + (escI pl i)) + 1)), (4, vI (pl i)), (0, .ref a), (1, vI q), (3, vI i)]) rfl ?_
                refine v_iinc C M dX1_byteOnLine_73 4 rfl (by decide) (z' := (i + 1)) rfl (L' := [(3, vI (i + 1)), (2, vI (((1 + i) + (escI pl i)) + 1)), (4, vI (pl i)), (0, .ref a), (1, vI q)]) rfl ?_
                refine v_goto (tgt := 11) C dX1_byteOnLine_76 (by decide) ?_
                refine V.loc (L' := [(0, .ref a), (1, vI q), (2, vI (((1 + i) + (escI pl i)) + 1)), (3, vI (i + 1))]) [3, 4, 1, 0] rfl ?_
                have key := ih (i + 1) (by omega) (by omega) (by omega) (by omega)
                rw [hes, show 1 + (i + 1) + (escI pl i + 0) = 1 + i + escI pl i + 1 by omega] at key
                exact key
              · skip
                refine v_iload C dX1_byteOnLine_67 0 rfl ?_
                exact v_iret C E rfl dX1_byteOnLine_69 (by decide) (by decide) (⟨_, rfl, fun li hL _ => by rw [if_pos ⟨by omega, by omega⟩, show q = 1 + i + escI pl i by omega]; exact ((hL.2 i hi (by omega)).2 c41).symm, rfl⟩)
            · have c41 := bI_n0.mp c41
              rw [bI_t c41] at hes
              refine v_iload_n C dX1_byteOnLine_44 rfl 2 rfl ?_
              refine v_iload_n C dX1_byteOnLine_45 rfl 3 rfl ?_
              refine v_icmp_ne (tgt := 52) C dX1_byteOnLine_46 (by decide) (by  first | assumption | exact ⟨by omega, by omega⟩) (by  first | assumption | exact ⟨by omega, by omega⟩) (fun c46 => ?_) (fun c46 => ?_)
              · skip
                refine v_iinc C M dX1_byteOnLine_52 3 rfl (by decide) (z' := (((1 + i) + (escI pl i)) + 1)) rfl (L' := [(2, vI (((1 + i) + (escI pl i)) + 1)), (4, vI (pl i)), (0, .ref a), (1, vI q), (3, vI i)]) rfl ?_
                refine v_iload C dX1_byteOnLine_55 1 rfl ?_
                refine v_bipush C dX1_byteOnLine_57 (by decide +kernel) ?_
                refine v_ixor (z := xr (pl i)) C dX1_byteOnLine_59 (ixor32 (by omega)) ?_
                refine v_istore C M dX1_byteOnLine_60 (by decide) (L' := [(4, vI (xr (pl i))), (2, vI (((1 + i) + (escI pl i)) + 1)), (0, .ref a), (1, vI q), (3, vI i)]) rfl ?_
                refine v_iload_n C dX1_byteOnLine_62 rfl 3 rfl ?_
                refine v_iload_n C dX1_byteOnLine_63 rfl 1 rfl ?_
                refine v_icmp_ne (tgt := 70) C dX1_byteOnLine_64 (by decide) (by  first | assumption | exact ⟨by omega, by omega⟩) (by  first | assumption | exact ⟨by omega, by omega⟩) (fun c64 => ?_) (fun c64 => ?_)
                · skip
                  refine v_iinc C M dX1_byteOnLine_70 1 rfl (by decide) (z' := ((((1 + i) + (escI pl i)) + 1) + 1)) rfl (L' := [(2, vI ((((1 + i) + (escI pl i)) + 1) + 1)), (4, vI (xr (pl i))), (0, .ref a), (1, vI q), (3, vI i)]) rfl ?_
                  refine v_iinc C M dX1_byteOnLine_73 4 rfl (by decide) (z' := (i + 1)) rfl (L' := [(3, vI (i + 1)), (2, vI ((((1 + i) + (escI pl i)) + 1) + 1)), (4, vI (xr (pl i))), (0, .ref a), (1, vI q)]) rfl ?_
                  refine v_goto (tgt := 11) C dX1_byteOnLine_76 (by decide) ?_
                  refine V.loc (L' := [(0, .ref a), (1, vI q), (2, vI ((((1 + i) + (escI pl i)) + 1) + 1)), (3, vI (i + 1))]) [3, 4, 1, 0] rfl ?_
                  have key := ih (i + 1) (by omega) (by omega) (by omega) (by omega)
                  rw [hes, show 1 + (i + 1) + (escI pl i + 1) = 1 + i + escI pl i + 1 + 1 by omega] at key
                  exact key
                · skip
                  refine v_iload C dX1_byteOnLine_67 0 rfl ?_
                  exact v_iret C E rfl dX1_byteOnLine_69 (by decide) (by decide) (⟨_, rfl, fun li hL _ => by rw [if_pos ⟨by omega, by omega⟩, show q = 1 + i + escI pl i + 1 by omega]; exact (((hL.2 i hi (by omega)).1 c41).2).symm, rfl⟩)
              · skip
                refine v_bipush C dX1_byteOnLine_49 (by decide +kernel) ?_
                exact v_iret C E rfl dX1_byteOnLine_51 (by decide) (by decide) (⟨_, rfl, fun li hL _ => by rw [if_pos ⟨by omega, by omega⟩, show q = 1 + i + escI pl i by omega]; exact (((hL.2 i hi (by omega)).1 c41).1).symm, rfl⟩)
    exact lp 16 0 (by omega) (by omega) (by rw [escI_0]; omega) (by omega)
  · skip
    have hq0 : q = 0 := c1
    refine v_bipush C dX1_byteOnLine_4 (by decide +kernel) ?_
    exact v_iret C E rfl dX1_byteOnLine_6 (by decide) (by decide) (⟨_, rfl, fun li hL _ => by rw [if_pos ⟨by omega, by omega⟩, hq0]; exact hL.1.symm, rfl⟩)
end C10
