section C6
set_option maxHeartbeats 4000000 in
set_option maxRecDepth 100000 in
theorem c_X1_isEscaped (G : GG) (l : Launch) (v : Int) (hv : sm v) : Ct G l yX1_isEscaped (Cond.code yX1_isEscaped cX1_isEscaped 1 (some .boolean) :: wsL_law) 0 0 0 0 [vI v] ([]) (fun r w => r = some (vI (bI (isMk v))) ∧ w = []) := by
  refine Ct.of (own := RX1) (cc := cX1_isEscaped) (maxL := 1) (ret := (some .boolean)) (by decide) rfl rfl (Nat.le_of_ble_eq_true rfl) (fun X C E M hG hl => ?_)
  subst hG hl
  refine v_iload_n C dX1_isEscaped_0 rfl 0 rfl ?_
  refine v_bipush C dX1_isEscaped_1 (by decide +kernel) ?_
  refine v_icmp_eq (tgt := 12) C dX1_isEscaped_3 (by decide) (by  first | assumption | exact ⟨by omega, by omega⟩) (by decide) (fun c3 => ?_) (fun c3 => ?_)
  · refine v_iconst C dX1_isEscaped_12 ?_
    refine v_goto (tgt := 17) C dX1_isEscaped_13 (by decide) ?_
    exact v_zret C E rfl rfl dX1_isEscaped_17 (by decide) (by decide) (⟨by rw [bI_t (by omega)], rfl⟩)
  · refine v_iload_n C dX1_isEscaped_6 rfl 0 rfl ?_
    refine v_bipush C dX1_isEscaped_7 (by decide +kernel) ?_
    refine v_icmp_ne (tgt := 16) C dX1_isEscaped_9 (by decide) (by  first | assumption | exact ⟨by omega, by omega⟩) (by decide) (fun c9 => ?_) (fun c9 => ?_)
    · refine v_iconst C dX1_isEscaped_16 ?_
      exact v_zret C E rfl rfl dX1_isEscaped_17 (by decide) (by decide) (⟨by rw [bI_f (by omega)], rfl⟩)
    · refine v_iconst C dX1_isEscaped_12 ?_
      refine v_goto (tgt := 17) C dX1_isEscaped_13 (by decide) ?_
      exact v_zret C E rfl rfl dX1_isEscaped_17 (by decide) (by decide) (⟨by rw [bI_t (by omega)], rfl⟩)
set_option maxHeartbeats 4000000 in
set_option maxRecDepth 100000 in
theorem c_X1_init (G : GG) (l : Launch) (a : Nat)  : Ct G l yX1_init (Cond.code yX1_init cX1_init 1 none :: wsL_law) 1 24 1 15 [.ref a] ([(a, .inr (1, [.null, vI 0, vI 0, vI 0, vI 0, vI 0]))]) (fun r w => r = none ∧ ∃ b : Nat, w = frW G a b (fun _ => 0) (fun _ => 0)) := by
  refine Ct.ofI (own := RX1) (cc := cX1_init) (maxL := 1) (ret := none) (by decide) rfl rfl (Nat.le_of_ble_eq_true rfl) (fun X C E M I hG hl => ?_)
  subst hG hl
  refine v_aload_n C dX1_init_0 rfl 0 rfl ?_
  refine v_objInit C (List.mem_cons_of_mem _ mw_69) (List.mem_cons_of_mem _ mw_7) (List.mem_cons_of_mem _ mw_8) (by decide) (by decide) dX1_init_1 ?_
  refine v_aload_n C dX1_init_4 rfl 0 rfl ?_
  refine v_bipush C dX1_init_5 (by decide +kernel) ?_
  refine v_newI C (List.mem_cons_of_mem _ mw_51) (by decide) (by decide) (N' := 15) rfl rfl rfl rfl dX1_init_7 (fun a1 => ?_)
  show V X 1 15 9 [(0, .ref a)] [.ref a1, .ref a] ([(a, .inr (1, [.null, vI 0, vI 0, vI 0, vI 0, vI 0])), (a1, .inl ((vG X).2 1, 15, .inl (fI (fun _ => 0))))])
  refine v_putF C I inw_1 tyX1 tyX1_ok nmX1 0 0 rfl (by decide) (List.mem_cons_of_mem _ mw_70) rfl rfl rfl rfl rfl (Nat.le_of_ble_eq_true rfl) dX1_init_9 (ws' := [(a, .inr (1, [.ref a1, vI 0, vI 0, vI 0, vI 0, vI 0])), (a1, .inl ((vG X).2 1, 15, .inl (fI (fun _ => 0))))]) rfl ?_
  exact v_vret C E rfl dX1_init_12 (by decide) (by decide) (⟨rfl, _, rfl⟩)
set_option maxHeartbeats 4000000 in
set_option maxRecDepth 100000 in
theorem c_X1_bytesOnLine (G : GG) (l : Launch) (a b : Nat) (f pl : Int → Int)  : Ct G l yX1_bytesOnLine (Cond.code yX1_bytesOnLine cX1_bytesOnLine 1 (some .int) :: wsL_law) 0 0 0 0 [.ref a] ((frW G a b (f) (pl))) (fun r w => r = some (vI (2 + f 0 + f 2)) ∧ w = frW G a b f pl) := by
  refine Ct.of (own := RX1) (cc := cX1_bytesOnLine) (maxL := 1) (ret := (some .int)) (by decide) rfl rfl (Nat.le_of_ble_eq_true rfl) (fun X C E M hG hl => ?_)
  subst hG hl
  refine v_iconst C dX1_bytesOnLine_0 ?_
  refine v_aload_n C dX1_bytesOnLine_1 rfl 0 rfl ?_
  refine v_get (v := vI (f 0)) C inw_1 0 1 rfl (by decide) (List.mem_cons_of_mem _ mw_116) rfl rfl dX1_bytesOnLine_2 ?_
  refine v_iadd C dX1_bytesOnLine_5 ?_
  refine v_aload_n C dX1_bytesOnLine_6 rfl 0 rfl ?_
  refine v_get (v := vI (f 2)) C inw_1 0 3 rfl (by decide) (List.mem_cons_of_mem _ mw_118) rfl rfl dX1_bytesOnLine_7 ?_
  refine v_iadd C dX1_bytesOnLine_10 ?_
  exact v_iret C E rfl dX1_bytesOnLine_11 (by decide) (by decide) (⟨rfl, rfl⟩)
set_option maxHeartbeats 4000000 in
set_option maxRecDepth 100000 in
theorem c_X1_addPlain (G : GG) (l : Launch) (a b : Nat) (f pl : Int → Int) (v : Int) (h0 : 0 ≤ f 0) (h1 : f 0 < 15) : Ct G l yX1_addPlain (Cond.code yX1_addPlain cX1_addPlain 3 none :: wsL_law) 1 20 0 0 [.ref a, vI v] ((frW G a b (f) (pl))) (fun r w => r = none ∧ w = frW G a b (apF v f) (up pl (f 0) (v % 256))) := by
  refine Ct.of (own := RX1) (cc := cX1_addPlain) (maxL := 3) (ret := none) (by decide) rfl rfl (Nat.le_of_ble_eq_true rfl) (fun X C E M hG hl => ?_)
  subst hG hl
  refine v_aload_n C dX1_addPlain_0 rfl 0 rfl ?_
  refine v_get (v := vI (f 0)) C inw_1 0 1 rfl (by decide) (List.mem_cons_of_mem _ mw_116) rfl rfl dX1_addPlain_1 ?_
  refine v_if_lt (tgt := 19) C dX1_addPlain_4 (by decide) (by  first | assumption | exact ⟨by omega, by omega⟩) (fun c4 => ?_) (fun c4 => ?_)
  · skip
    exact absurd h1 (by omega)
  · skip
    refine v_aload_n C dX1_addPlain_7 rfl 0 rfl ?_
    refine v_get (v := vI (f 0)) C inw_1 0 1 rfl (by decide) (List.mem_cons_of_mem _ mw_116) rfl rfl dX1_addPlain_8 ?_
    refine v_aload_n C dX1_addPlain_11 rfl 0 rfl ?_
    refine v_get (v := .ref b) C inw_1 0 0 rfl (by decide) (List.mem_cons_of_mem _ mw_70) rfl rfl dX1_addPlain_12 ?_
    refine v_alen (z := 15) C 1 1 rfl rfl (show Int32.ofNat 15 = iI 15 by decide +kernel) dX1_addPlain_15 ?_
    refine v_icmp_lt (tgt := 20) C dX1_addPlain_16 (by decide) (by  first | assumption | exact ⟨by omega, by omega⟩) (by decide) (fun c16 => ?_) (fun c16 => ?_)
    · skip
      refine v_iload_n C dX1_addPlain_20 rfl 1 rfl ?_
      refine v_sipush C dX1_addPlain_21 (by decide +kernel) ?_
      refine v_iand C dX1_addPlain_24 (iI_and255 v) ?_
      refine v_istore_n C M dX1_addPlain_25 rfl (by decide) (L' := [(2, vI (v % 256)), (0, .ref a), (1, vI v)]) rfl ?_
      refine v_aload_n C dX1_addPlain_26 rfl 1 rfl ?_
      refine v_get (v := .ref b) C inw_1 0 0 rfl (by decide) (List.mem_cons_of_mem _ mw_70) rfl rfl dX1_addPlain_27 ?_
      refine v_aload_n C dX1_addPlain_30 rfl 1 rfl ?_
      refine v_get (v := vI (f 0)) C inw_1 0 1 rfl (by decide) (List.mem_cons_of_mem _ mw_116) rfl rfl dX1_addPlain_31 ?_
      refine v_iload_n C dX1_addPlain_34 rfl 0 rfl ?_
      refine v_iast C 1 rfl (by  omega) (by  omega) (by decide) dX1_addPlain_35 (ws' := (frW (vG X) a b (f) (up (pl) (f 0) (v % 256)))) rfl ?_
      refine v_aload_n C dX1_addPlain_36 rfl 1 rfl ?_
      refine v_dup C dX1_addPlain_37 rfl ?_
      refine v_get (v := vI (f 0)) C inw_1 0 1 rfl (by decide) (List.mem_cons_of_mem _ mw_116) rfl rfl dX1_addPlain_38 ?_
      refine v_iconst C dX1_addPlain_41 ?_
      refine v_iadd C dX1_addPlain_42 ?_
      refine v_put C inw_1 tyX1 tyX1_ok nmX1 0 1 rfl (by decide) (List.mem_cons_of_mem _ mw_116) rfl rfl rfl rfl (Nat.le_of_ble_eq_true rfl) dX1_addPlain_43 (ws' := (frW (vG X) a b (up (f) 0 ((f 0) + 1)) (up (pl) (f 0) (v % 256)))) rfl ?_
      refine v_aload_n C dX1_addPlain_46 rfl 1 rfl ?_
      refine v_dup C dX1_addPlain_47 rfl ?_
      refine v_get (v := vI (f 1)) C inw_1 0 2 rfl (by decide) (List.mem_cons_of_mem _ mw_117) rfl rfl dX1_addPlain_48 ?_
      refine v_iload_n C dX1_addPlain_51 rfl 0 rfl ?_
      refine v_iadd C dX1_addPlain_52 ?_
      refine v_put C inw_1 tyX1 tyX1_ok nmX1 0 2 rfl (by decide) (List.mem_cons_of_mem _ mw_117) rfl rfl rfl rfl (Nat.le_of_ble_eq_true rfl) dX1_addPlain_53 (ws' := (frW (vG X) a b (up (up (f) 0 ((f 0) + 1)) 1 ((f 1) + (v % 256))) (up (pl) (f 0) (v % 256)))) rfl ?_
      refine v_iload_n C dX1_addPlain_56 rfl 0 rfl ?_
      refine v_callS (na := 1) (wy := (Cond.code yX1_isEscaped cX1_isEscaped 1 (some .boolean) :: wsL_law)) (wc := []) (wr := (frW (vG X) a b (up (up (f) 0 ((f 0) + 1)) 1 ((f 1) + (v % 256))) (up (pl) (f 0) (v % 256)))) C [vI (v % 256)] [] (c_X1_isEscaped _ _ (v % 256) (by first | assumption | exact ⟨by omega, by omega⟩)) rfl (gwS mw_140 mw_138 mw_139 mw_21) (by decide +kernel) rfl rfl Sb.rf rfl rfl dX1_addPlain_57 (fun r w1 hp57_1 => ?_)
      obtain ⟨rfl, rfl⟩ := hp57_1
      show V X 0 0 60 [(2, vI (v % 256)), (0, .ref a), (1, vI v)] [vI (bI (isMk (v % 256)))] ((frW (vG X) a b (up (up (f) 0 ((f 0) + 1)) 1 ((f 1) + (v % 256))) (up (pl) (f 0) (v % 256))))
      refine v_if_eq (tgt := 73) C dX1_addPlain_60 (by decide) sm_bI (fun c60 => ?_) (fun c60 => ?_)
      · have c60 := bI_0.mp c60
        exact v_vret C E rfl dX1_addPlain_73 (by decide) (by decide) (⟨rfl, by rw [apF, bI_f c60]; exact frW_e⟩)
      · have c60 := bI_n0.mp c60
        refine v_aload_n C dX1_addPlain_63 rfl 1 rfl ?_
        refine v_dup C dX1_addPlain_64 rfl ?_
        refine v_get (v := vI (f 2)) C inw_1 0 3 rfl (by decide) (List.mem_cons_of_mem _ mw_118) rfl rfl dX1_addPlain_65 ?_
        refine v_iconst C dX1_addPlain_68 ?_
        refine v_iadd C dX1_addPlain_69 ?_
        refine v_put C inw_1 tyX1 tyX1_ok nmX1 0 3 rfl (by decide) (List.mem_cons_of_mem _ mw_118) rfl rfl rfl rfl (Nat.le_of_ble_eq_true rfl) dX1_addPlain_70 (ws' := (frW (vG X) a b (up (up (up (f) 0 ((f 0) + 1)) 1 ((f 1) + (v % 256))) 2 ((f 2) + 1)) (up (pl) (f 0) (v % 256)))) rfl ?_
        exact v_vret C E rfl dX1_addPlain_73 (by decide) (by decide) (⟨rfl, by rw [apF, bI_t c60]⟩)
    · skip
      exact absurd h1 (by omega)
end C6
