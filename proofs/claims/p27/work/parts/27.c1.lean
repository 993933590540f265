section C1
set_option maxHeartbeats 4000000 in
set_option maxRecDepth 100000 in
theorem c_X5_ownLimit (G : GG) (l : Launch) (a b c : Nat) (f le : Int → Int) (co : Int → Int64)  : Ct G l yX5_ownLimit (Cond.code yX5_ownLimit cX5_ownLimit 1 (some .int) :: wsL_law) 0 0 0 0 [.ref a] ((stW G a b c (f) (le) (co))) (fun r w => r = some (vI (f 2 + f 3)) ∧ w = (stW G a b c (f) (le) (co))) := by
  refine Ct.of (own := RX5) (cc := cX5_ownLimit) (maxL := 1) (ret := (some .int)) (by decide) rfl rfl (Nat.le_of_ble_eq_true rfl) (fun X C E M hG hl => ?_)
  subst hG hl
  refine v_aload_n C dX5_ownLimit_0 rfl 0 rfl ?_
  refine v_get (v := vI (f 2)) C inw_5 0 4 rfl (by decide) (List.mem_cons_of_mem _ mw_145) rfl rfl dX5_ownLimit_1 ?_
  refine v_aload_n C dX5_ownLimit_4 rfl 0 rfl ?_
  refine v_get (v := vI (f 3)) C inw_5 0 5 rfl (by decide) (List.mem_cons_of_mem _ mw_64) rfl rfl dX5_ownLimit_5 ?_
  refine v_iadd C dX5_ownLimit_8 ?_
  exact v_iret C E rfl dX5_ownLimit_9 (by decide) (by decide) (⟨rfl, rfl⟩)
set_option maxHeartbeats 4000000 in
set_option maxRecDepth 100000 in
theorem c_X5_inBuffer (G : GG) (l : Launch) (a b c : Nat) (f le : Int → Int) (co : Int → Int64)  : Ct G l yX5_inBuffer (Cond.code yX5_inBuffer cX5_inBuffer 1 (some .int) :: wsL_law) 0 0 0 0 [.ref a] ((stW G a b c (f) (le) (co))) (fun r w => r = some (vI (f 1 - f 2)) ∧ w = (stW G a b c (f) (le) (co))) := by
  refine Ct.of (own := RX5) (cc := cX5_inBuffer) (maxL := 1) (ret := (some .int)) (by decide) rfl rfl (Nat.le_of_ble_eq_true rfl) (fun X C E M hG hl => ?_)
  subst hG hl
  refine v_aload_n C dX5_inBuffer_0 rfl 0 rfl ?_
  refine v_get (v := vI (f 1)) C inw_5 0 3 rfl (by decide) (List.mem_cons_of_mem _ mw_195) rfl rfl dX5_inBuffer_1 ?_
  refine v_aload_n C dX5_inBuffer_4 rfl 0 rfl ?_
  refine v_get (v := vI (f 2)) C inw_5 0 4 rfl (by decide) (List.mem_cons_of_mem _ mw_145) rfl rfl dX5_inBuffer_5 ?_
  refine v_isub C dX5_inBuffer_8 ?_
  exact v_iret C E rfl dX5_inBuffer_9 (by decide) (by decide) (⟨rfl, rfl⟩)
set_option maxHeartbeats 4000000 in
set_option maxRecDepth 100000 in
theorem c_X5_hasMessage (G : GG) (l : Launch) (a b c : Nat) (f le : Int → Int) (co : Int → Int64) (m : Int) (hm : sm m) (hf : sB 1073741824 f) : Ct G l yX5_hasMessage (Cond.code yX5_hasMessage cX5_hasMessage 2 (some .boolean) :: wsL_law) 0 0 0 0 [.ref a, vI m] ((stW G a b c (f) (le) (co))) (fun r w => r = some (vI (bI ((0 ≤ m ∧ m < f 0) ∧ m < 20))) ∧ w = (stW G a b c (f) (le) (co))) := by
  refine Ct.of (own := RX5) (cc := cX5_hasMessage) (maxL := 2) (ret := (some .boolean)) (by decide) rfl rfl (Nat.le_of_ble_eq_true rfl) (fun X C E M hG hl => ?_)
  subst hG hl
  refine v_iload_n C dX5_hasMessage_0 rfl 1 rfl ?_
  refine v_if_lt (tgt := 22) C dX5_hasMessage_1 (by decide) (by  first | assumption | exact ⟨by omega, by omega⟩) (fun c1 => ?_) (fun c1 => ?_)
  · skip
    refine v_iconst C dX5_hasMessage_22 ?_
    exact v_zret C E rfl rfl dX5_hasMessage_23 (by decide) (by decide) (⟨by rw [bI_f (by omega)], rfl⟩)
  · skip
    refine v_iload_n C dX5_hasMessage_4 rfl 1 rfl ?_
    refine v_aload_n C dX5_hasMessage_5 rfl 0 rfl ?_
    refine v_get (v := vI (f 0)) C inw_5 0 2 rfl (by decide) (List.mem_cons_of_mem _ mw_133) rfl rfl dX5_hasMessage_6 ?_
    refine v_icmp_ge (tgt := 22) C dX5_hasMessage_9 (by decide) (by  first | assumption | exact ⟨by omega, by omega⟩) (by have := hf 0; first | assumption | exact ⟨by omega, by omega⟩) (fun c9 => ?_) (fun c9 => ?_)
    · skip
      refine v_iconst C dX5_hasMessage_22 ?_
      exact v_zret C E rfl rfl dX5_hasMessage_23 (by decide) (by decide) (⟨by rw [bI_f (by omega)], rfl⟩)
    · skip
      refine v_iload_n C dX5_hasMessage_12 rfl 1 rfl ?_
      refine v_bipush C dX5_hasMessage_13 (by decide +kernel) ?_
      refine v_icmp_ge (tgt := 22) C dX5_hasMessage_15 (by decide) (by  first | assumption | exact ⟨by omega, by omega⟩) (by decide) (fun c15 => ?_) (fun c15 => ?_)
      · skip
        refine v_iconst C dX5_hasMessage_22 ?_
        exact v_zret C E rfl rfl dX5_hasMessage_23 (by decide) (by decide) (⟨by rw [bI_f (by omega)], rfl⟩)
      · skip
        refine v_iconst C dX5_hasMessage_18 ?_
        refine v_goto (tgt := 23) C dX5_hasMessage_19 (by decide) ?_
        exact v_zret C E rfl rfl dX5_hasMessage_23 (by decide) (by decide) (⟨by rw [bI_t (by omega)], rfl⟩)
set_option maxHeartbeats 4000000 in
set_option maxRecDepth 100000 in
theorem c_X5_lengthOf (G : GG) (l : Launch) (a b c : Nat) (f le : Int → Int) (co : Int → Int64) (m : Int) (hm : sm m) (hf : sB 1073741824 f) : Ct G l yX5_lengthOf (Cond.code yX5_lengthOf cX5_lengthOf 2 (some .int) :: wsL_law) 1 21 0 0 [.ref a, vI m] ((stW G a b c (f) (le) (co))) (fun r w => r = some (vI (if (0 ≤ m ∧ m < f 0) ∧ m < 20 then le m else 0)) ∧ w = (stW G a b c (f) (le) (co))) := by
  refine Ct.of (own := RX5) (cc := cX5_lengthOf) (maxL := 2) (ret := (some .int)) (by decide) rfl rfl (Nat.le_of_ble_eq_true rfl) (fun X C E M hG hl => ?_)
  subst hG hl
  refine v_aload_n C dX5_lengthOf_0 rfl 0 rfl ?_
  refine v_iload_n C dX5_lengthOf_1 rfl 1 rfl ?_
  refine v_callV (na := 1) (wy := (Cond.code yX5_hasMessage cX5_hasMessage 2 (some .boolean) :: wsL_law)) (wc := (stW (vG X) a b c (f) (le) (co))) (wr := []) C [vI m] [] (c_X5_hasMessage _ _ a b c (f) (le) (co) m (by first | assumption | exact ⟨by omega, by omega⟩) hf) rfl (gwV mw_132 mw_150 mw_130 mw_131 mw_48) rfl (by decide +kernel) 0 rfl rfl rfl rfl Sb.w rfl rfl dX5_lengthOf_2 (fun r w1 hp2_1 => ?_)
  obtain ⟨rfl, rfl⟩ := hp2_1
  show V X 0 0 5 [(0, .ref a), (1, vI m)] [vI (bI ((0 ≤ m ∧ m < (f) 0) ∧ m < 20))] ((stW (vG X) a b c (f) (le) (co)))
  refine v_if_eq (tgt := 17) C dX5_lengthOf_5 (by decide) sm_bI (fun c5 => ?_) (fun c5 => ?_)
  · have c5 := bI_0.mp c5
    refine v_iconst C dX5_lengthOf_17 ?_
    exact v_iret C E rfl dX5_lengthOf_18 (by decide) (by decide) (⟨by rw [if_neg c5], rfl⟩)
  · have c5 := bI_n0.mp c5
    refine v_aload_n C dX5_lengthOf_8 rfl 0 rfl ?_
    refine v_get (v := .ref b) C inw_5 0 0 rfl (by decide) (List.mem_cons_of_mem _ mw_62) rfl rfl dX5_lengthOf_9 ?_
    refine v_iload_n C dX5_lengthOf_12 rfl 1 rfl ?_
    refine v_iald C 1 rfl (by  omega) (by  omega) (by decide) dX5_lengthOf_13 ?_
    refine v_goto (tgt := 18) C dX5_lengthOf_14 (by decide) ?_
    exact v_iret C E rfl dX5_lengthOf_18 (by decide) (by decide) (⟨by rw [if_pos c5], rfl⟩)
set_option maxHeartbeats 4000000 in
set_option maxRecDepth 100000 in
theorem c_X5_byteOf (G : GG) (l : Launch) (a b c : Nat) (f le : Int → Int) (co : Int → Int64) (m j : Int) (hm : sm m) (hj : sm j) (hf : sB 1073741824 f) (hl : sB 1073741824 le) : Ct G l yX5_byteOf (Cond.code yX5_byteOf cX5_byteOf 3 (some .int) :: wsL_law) 1 21 0 0 [.ref a, vI m, vI j] ((stW G a b c (f) (le) (co))) (fun r w => r = some (vI (if ((0 ≤ m ∧ m < f 0) ∧ m < 20) ∧ 0 ≤ j ∧ j < le m then cB0 (co m) j % 256 else -1)) ∧ w = (stW G a b c (f) (le) (co))) := by
  refine Ct.of (own := RX5) (cc := cX5_byteOf) (maxL := 3) (ret := (some .int)) (by decide) rfl rfl (Nat.le_of_ble_eq_true rfl) (fun X C E M hG hl => ?_)
  subst hG hl
  refine v_aload_n C dX5_byteOf_0 rfl 0 rfl ?_
  refine v_iload_n C dX5_byteOf_1 rfl 1 rfl ?_
  refine v_callV (na := 1) (wy := (Cond.code yX5_hasMessage cX5_hasMessage 2 (some .boolean) :: wsL_law)) (wc := (stW (vG X) a b c (f) (le) (co))) (wr := []) C [vI m] [] (c_X5_hasMessage _ _ a b c (f) (le) (co) m (by first | assumption | exact ⟨by omega, by omega⟩) hf) rfl (gwV mw_132 mw_150 mw_130 mw_131 mw_48) rfl (by decide +kernel) 0 rfl rfl rfl rfl Sb.w rfl rfl dX5_byteOf_2 (fun r w1 hp2_1 => ?_)
  obtain ⟨rfl, rfl⟩ := hp2_1
  show V X 0 0 5 [(0, .ref a), (1, vI m), (2, vI j)] [vI (bI ((0 ≤ m ∧ m < (f) 0) ∧ m < 20))] ((stW (vG X) a b c (f) (le) (co)))
  refine v_if_eq (tgt := 22) C dX5_byteOf_5 (by decide) sm_bI (fun c5 => ?_) (fun c5 => ?_)
  · have c5 := bI_0.mp c5
    refine v_iconst C dX5_byteOf_22 ?_
    exact v_iret C E rfl dX5_byteOf_23 (by decide) (by decide) (⟨by rw [if_neg (fun h => by omega)], rfl⟩)
  · have c5 := bI_n0.mp c5
    refine v_iload_n C dX5_byteOf_8 rfl 2 rfl ?_
    refine v_if_lt (tgt := 22) C dX5_byteOf_9 (by decide) (by  first | assumption | exact ⟨by omega, by omega⟩) (fun c9 => ?_) (fun c9 => ?_)
    · skip
      refine v_iconst C dX5_byteOf_22 ?_
      exact v_iret C E rfl dX5_byteOf_23 (by decide) (by decide) (⟨by rw [if_neg (fun h => by omega)], rfl⟩)
    · skip
      refine v_iload_n C dX5_byteOf_12 rfl 2 rfl ?_
      refine v_aload_n C dX5_byteOf_13 rfl 0 rfl ?_
      refine v_get (v := .ref b) C inw_5 0 0 rfl (by decide) (List.mem_cons_of_mem _ mw_62) rfl rfl dX5_byteOf_14 ?_
      refine v_iload_n C dX5_byteOf_17 rfl 1 rfl ?_
      refine v_iald C 1 rfl (by  omega) (by  omega) (by decide) dX5_byteOf_18 ?_
      refine v_icmp_lt (tgt := 24) C dX5_byteOf_19 (by decide) (by  first | assumption | exact ⟨by omega, by omega⟩) (by have := hl m; first | assumption | exact ⟨by omega, by omega⟩) (fun c19 => ?_) (fun c19 => ?_)
      · skip
        refine v_aload_n C dX5_byteOf_24 rfl 0 rfl ?_
        refine v_get (v := .ref c) C inw_5 0 1 rfl (by decide) (List.mem_cons_of_mem _ mw_63) rfl rfl dX5_byteOf_25 ?_
        refine v_iload_n C dX5_byteOf_28 rfl 1 rfl ?_
        refine v_lald C 2 rfl (by  omega) (by  omega) (by decide) dX5_byteOf_29 ?_
        refine v_bipush C dX5_byteOf_30 (by decide +kernel) ?_
        refine v_iload_n C dX5_byteOf_32 rfl 2 rfl ?_
        refine v_imul C dX5_byteOf_33 ?_
        refine v_lushr C dX5_byteOf_34 rfl ?_
        refine v_l2i (z := cB0 (co m) j) C dX5_byteOf_35 (cB0_e _ _) ?_
        refine v_sipush C dX5_byteOf_36 (by decide +kernel) ?_
        refine v_iand C dX5_byteOf_39 (iI_and255 (cB0 (co m) j)) ?_
        exact v_iret C E rfl dX5_byteOf_40 (by decide) (by decide) (⟨by rw [if_pos (by omega)], rfl⟩)
      · skip
        refine v_iconst C dX5_byteOf_22 ?_
        exact v_iret C E rfl dX5_byteOf_23 (by decide) (by decide) (⟨by rw [if_neg (fun h => by omega)], rfl⟩)
set_option maxHeartbeats 4000000 in
set_option maxRecDepth 100000 in
theorem c_X5_numberOf (G : GG) (l : Launch) (a b c : Nat) (f le : Int → Int) (co : Int → Int64) (q : Int) (hq : 0 ≤ q ∧ q ≤ 9) : Ct G l yX5_numberOf (Cond.code yX5_numberOf cX5_numberOf 2 (some .int) :: wsL_law) 0 0 0 0 [.ref a, vI q] ((stW G a b c (f) (le) (co))) (fun r w => r = some (vI (f q)) ∧ w = (stW G a b c (f) (le) (co))) := by
  refine Ct.of (own := RX5) (cc := cX5_numberOf) (maxL := 2) (ret := (some .int)) (by decide) rfl rfl (Nat.le_of_ble_eq_true rfl) (fun X C E M hG hl => ?_)
  subst hG hl
  rcases (show q = 0 ∨ q = 1 ∨ q = 2 ∨ q = 3 ∨ q = 4 ∨ q = 5 ∨ q = 6 ∨ q = 7 ∨ q = 8 ∨ q = 9 by omega) with rfl | rfl | rfl | rfl | rfl | rfl | rfl | rfl | rfl | rfl
  · skip
    refine v_iload_n C dX5_numberOf_0 rfl 1 rfl ?_
    refine v_tabIn (tgt := 56) C dX5_numberOf_1 (by decide) (by decide) (by decide) rfl (by decide) ?_
    refine v_aload_n C dX5_numberOf_56 rfl 0 rfl ?_
    refine v_get (v := vI (f 0)) C inw_5 0 2 rfl (by decide) (List.mem_cons_of_mem _ mw_133) rfl rfl dX5_numberOf_57 ?_
    exact v_iret C E rfl dX5_numberOf_60 (by decide) (by decide) (⟨rfl, rfl⟩)
  · skip
    refine v_iload_n C dX5_numberOf_0 rfl 1 rfl ?_
    refine v_tabIn (tgt := 61) C dX5_numberOf_1 (by decide) (by decide) (by decide) rfl (by decide) ?_
    refine v_aload_n C dX5_numberOf_61 rfl 0 rfl ?_
    refine v_get (v := vI (f 1)) C inw_5 0 3 rfl (by decide) (List.mem_cons_of_mem _ mw_195) rfl rfl dX5_numberOf_62 ?_
    exact v_iret C E rfl dX5_numberOf_65 (by decide) (by decide) (⟨rfl, rfl⟩)
  · skip
    refine v_iload_n C dX5_numberOf_0 rfl 1 rfl ?_
    refine v_tabIn (tgt := 66) C dX5_numberOf_1 (by decide) (by decide) (by decide) rfl (by decide) ?_
    refine v_aload_n C dX5_numberOf_66 rfl 0 rfl ?_
    refine v_get (v := vI (f 2)) C inw_5 0 4 rfl (by decide) (List.mem_cons_of_mem _ mw_145) rfl rfl dX5_numberOf_67 ?_
    exact v_iret C E rfl dX5_numberOf_70 (by decide) (by decide) (⟨rfl, rfl⟩)
  · skip
    refine v_iload_n C dX5_numberOf_0 rfl 1 rfl ?_
    refine v_tabIn (tgt := 71) C dX5_numberOf_1 (by decide) (by decide) (by decide) rfl (by decide) ?_
    refine v_aload_n C dX5_numberOf_71 rfl 0 rfl ?_
    refine v_get (v := vI (f 3)) C inw_5 0 5 rfl (by decide) (List.mem_cons_of_mem _ mw_64) rfl rfl dX5_numberOf_72 ?_
    exact v_iret C E rfl dX5_numberOf_75 (by decide) (by decide) (⟨rfl, rfl⟩)
  · skip
    refine v_iload_n C dX5_numberOf_0 rfl 1 rfl ?_
    refine v_tabIn (tgt := 76) C dX5_numberOf_1 (by decide) (by decide) (by decide) rfl (by decide) ?_
    refine v_aload_n C dX5_numberOf_76 rfl 0 rfl ?_
    refine v_get (v := vI (f 4)) C inw_5 0 6 rfl (by decide) (List.mem_cons_of_mem _ mw_196) rfl rfl dX5_numberOf_77 ?_
    exact v_iret C E rfl dX5_numberOf_80 (by decide) (by decide) (⟨rfl, rfl⟩)
  · skip
    refine v_iload_n C dX5_numberOf_0 rfl 1 rfl ?_
    refine v_tabIn (tgt := 81) C dX5_numberOf_1 (by decide) (by decide) (by decide) rfl (by decide) ?_
    refine v_aload_n C dX5_numberOf_81 rfl 0 rfl ?_
    refine v_get (v := vI (f 5)) C inw_5 0 7 rfl (by decide) (List.mem_cons_of_mem _ mw_197) rfl rfl dX5_numberOf_82 ?_
    exact v_iret C E rfl dX5_numberOf_85 (by decide) (by decide) (⟨rfl, rfl⟩)
  · skip
    refine v_iload_n C dX5_numberOf_0 rfl 1 rfl ?_
    refine v_tabIn (tgt := 86) C dX5_numberOf_1 (by decide) (by decide) (by decide) rfl (by decide) ?_
    refine v_aload_n C dX5_numberOf_86 rfl 0 rfl ?_
    refine v_get (v := vI (f 6)) C inw_5 0 9 rfl (by decide) (List.mem_cons_of_mem _ mw_199) rfl rfl dX5_numberOf_87 ?_
    exact v_iret C E rfl dX5_numberOf_90 (by decide) (by decide) (⟨rfl, rfl⟩)
  · skip
    refine v_iload_n C dX5_numberOf_0 rfl 1 rfl ?_
    refine v_tabIn (tgt := 91) C dX5_numberOf_1 (by decide) (by decide) (by decide) rfl (by decide) ?_
    refine v_aload_n C dX5_numberOf_91 rfl 0 rfl ?_
    refine v_get (v := vI (f 7)) C inw_5 0 10 rfl (by decide) (List.mem_cons_of_mem _ mw_65) rfl rfl dX5_numberOf_92 ?_
    exact v_iret C E rfl dX5_numberOf_95 (by decide) (by decide) (⟨rfl, rfl⟩)
  · skip
    refine v_iload_n C dX5_numberOf_0 rfl 1 rfl ?_
    refine v_tabIn (tgt := 96) C dX5_numberOf_1 (by decide) (by decide) (by decide) rfl (by decide) ?_
    refine v_aload_n C dX5_numberOf_96 rfl 0 rfl ?_
    refine v_get (v := vI (f 8)) C inw_5 0 11 rfl (by decide) (List.mem_cons_of_mem _ mw_200) rfl rfl dX5_numberOf_97 ?_
    exact v_iret C E rfl dX5_numberOf_100 (by decide) (by decide) (⟨rfl, rfl⟩)
  · skip
    refine v_iload_n C dX5_numberOf_0 rfl 1 rfl ?_
    refine v_tabIn (tgt := 101) C dX5_numberOf_1 (by decide) (by decide) (by decide) rfl (by decide) ?_
    refine v_aload_n C dX5_numberOf_101 rfl 0 rfl ?_
    refine v_get (v := vI (f 9)) C inw_5 0 12 rfl (by decide) (List.mem_cons_of_mem _ mw_201) rfl rfl dX5_numberOf_102 ?_
    exact v_iret C E rfl dX5_numberOf_105 (by decide) (by decide) (⟨rfl, rfl⟩)
set_option maxHeartbeats 4000000 in
set_option maxRecDepth 100000 in
theorem c_X5_addMessage (G : GG) (l : Launch) (a b c : Nat) (f le : Int → Int) (co : Int → Int64) (q : Int) (by0 : Int64) (hf : sB 1073741824 f) : Ct G l yX5_addMessage (Cond.code yX5_addMessage cX5_addMessage 4 none :: wsL_law) 0 0 0 0 [.ref a, vI q, .long by0] ((stW G a b c (f) (le) (co))) (fun r w => r = none ∧ w = stW G a b c (adF f) (adL f le q) (adC f co by0)) := by
  refine Ct.of (own := RX5) (cc := cX5_addMessage) (maxL := 4) (ret := none) (by decide) rfl rfl (Nat.le_of_ble_eq_true rfl) (fun X C E M hG hl => ?_)
  subst hG hl
  refine v_aload_n C dX5_addMessage_0 rfl 0 rfl ?_
  refine v_get (v := vI (f 0)) C inw_5 0 2 rfl (by decide) (List.mem_cons_of_mem _ mw_133) rfl rfl dX5_addMessage_1 ?_
  refine v_if_lt (tgt := 46) C dX5_addMessage_4 (by decide) (by have := hf 0; first | assumption | exact ⟨by omega, by omega⟩) (fun c4 => ?_) (fun c4 => ?_)
  · skip
    exact v_vret C E rfl dX5_addMessage_46 (by decide) (by decide) (⟨rfl, by rw [adF, adL, adC, if_neg (show ¬ (0 ≤ f 0 ∧ f 0 < 20) by omega), if_neg (show ¬ (0 ≤ f 0 ∧ f 0 < 20) by omega), if_neg (show ¬ (0 ≤ f 0 ∧ f 0 < 20) by omega)]⟩)
  · skip
    refine v_aload_n C dX5_addMessage_7 rfl 0 rfl ?_
    refine v_get (v := vI (f 0)) C inw_5 0 2 rfl (by decide) (List.mem_cons_of_mem _ mw_133) rfl rfl dX5_addMessage_8 ?_
    refine v_bipush C dX5_addMessage_11 (by decide +kernel) ?_
    refine v_icmp_ge (tgt := 46) C dX5_addMessage_13 (by decide) (by have := hf 0; first | assumption | exact ⟨by omega, by omega⟩) (by decide) (fun c13 => ?_) (fun c13 => ?_)
    · skip
      exact v_vret C E rfl dX5_addMessage_46 (by decide) (by decide) (⟨rfl, by rw [adF, adL, adC, if_neg (show ¬ (0 ≤ f 0 ∧ f 0 < 20) by omega), if_neg (show ¬ (0 ≤ f 0 ∧ f 0 < 20) by omega), if_neg (show ¬ (0 ≤ f 0 ∧ f 0 < 20) by omega)]⟩)
    · skip
      refine v_aload_n C dX5_addMessage_16 rfl 0 rfl ?_
      refine v_get (v := .ref b) C inw_5 0 0 rfl (by decide) (List.mem_cons_of_mem _ mw_62) rfl rfl dX5_addMessage_17 ?_
      refine v_aload_n C dX5_addMessage_20 rfl 0 rfl ?_
      refine v_get (v := vI (f 0)) C inw_5 0 2 rfl (by decide) (List.mem_cons_of_mem _ mw_133) rfl rfl dX5_addMessage_21 ?_
      refine v_iload_n C dX5_addMessage_24 rfl 1 rfl ?_
      refine v_iast C 1 rfl (by have := hf 0; omega) (by have := hf 0; omega) (by decide) dX5_addMessage_25 (ws' := (stW (vG X) a b c (f) (up (le) (f 0) q) (co))) rfl ?_
      refine v_aload_n C dX5_addMessage_26 rfl 0 rfl ?_
      refine v_get (v := .ref c) C inw_5 0 1 rfl (by decide) (List.mem_cons_of_mem _ mw_63) rfl rfl dX5_addMessage_27 ?_
      refine v_aload_n C dX5_addMessage_30 rfl 0 rfl ?_
      refine v_get (v := vI (f 0)) C inw_5 0 2 rfl (by decide) (List.mem_cons_of_mem _ mw_133) rfl rfl dX5_addMessage_31 ?_
      refine v_lload_n C dX5_addMessage_34 rfl 2 rfl ?_
      refine v_last C 2 rfl (by have := hf 0; omega) (by have := hf 0; omega) (by decide) dX5_addMessage_35 (ws' := (stW (vG X) a b c (f) (up (le) (f 0) q) (up (co) (f 0) by0))) rfl ?_
      refine v_aload_n C dX5_addMessage_36 rfl 0 rfl ?_
      refine v_dup C dX5_addMessage_37 rfl ?_
      refine v_get (v := vI (f 0)) C inw_5 0 2 rfl (by decide) (List.mem_cons_of_mem _ mw_133) rfl rfl dX5_addMessage_38 ?_
      refine v_iconst C dX5_addMessage_41 ?_
      refine v_iadd C dX5_addMessage_42 ?_
      refine v_put C inw_5 tyX5 tyX5_ok nmX5 0 2 rfl (by decide) (List.mem_cons_of_mem _ mw_133) rfl rfl rfl rfl (Nat.le_of_ble_eq_true rfl) dX5_addMessage_43 (ws' := (stW (vG X) a b c (up (f) 0 ((f 0) + 1)) (up (le) (f 0) q) (up (co) (f 0) by0))) rfl ?_
      exact v_vret C E rfl dX5_addMessage_46 (by decide) (by decide) (⟨rfl, by rw [adF, adL, adC, if_pos (show (0 ≤ f 0 ∧ f 0 < 20) by omega), if_pos (show (0 ≤ f 0 ∧ f 0 < 20) by omega), if_pos (show (0 ≤ f 0 ∧ f 0 < 20) by omega)]⟩)
set_option maxHeartbeats 4000000 in
set_option maxRecDepth 100000 in
theorem c_X5_returnCapacity (G : GG) (l : Launch) (a b c : Nat) (f le : Int → Int) (co : Int → Int64) (q : Int) (hf : sB 1073741824 f) (hq : sm q) : Ct G l yX5_returnCapacity (Cond.code yX5_returnCapacity cX5_returnCapacity 4 none :: wsL_law) 1 60 0 0 [.ref a, vI q] ((stW G a b c (f) (le) (co))) (fun r w => r = none ∧ w = stW G a b c (rcF q f) le co) := by
  refine Ct.of (own := RX5) (cc := cX5_returnCapacity) (maxL := 4) (ret := none) (by decide) rfl rfl (Nat.le_of_ble_eq_true rfl) (fun X C E M hG hl => ?_)
  subst hG hl
  refine v_iconst C dX5_returnCapacity_0 ?_
  refine v_aload_n C dX5_returnCapacity_1 rfl 0 rfl ?_
  refine v_get (v := vI (f 7)) C inw_5 0 10 rfl (by decide) (List.mem_cons_of_mem _ mw_65) rfl rfl dX5_returnCapacity_2 ?_
  refine v_aload_n C dX5_returnCapacity_5 rfl 0 rfl ?_
  refine v_get (v := vI (f 8)) C inw_5 0 11 rfl (by decide) (List.mem_cons_of_mem _ mw_200) rfl rfl dX5_returnCapacity_6 ?_
  refine v_isub C dX5_returnCapacity_9 ?_
  refine v_mmax C (by decide) (by have := hf 7; have := hf 8; first | assumption | exact ⟨by omega, by omega⟩) (List.mem_cons_of_mem _ mw_637) (List.mem_cons_of_mem _ mw_286) (List.mem_cons_of_mem _ mw_287) (List.mem_cons_of_mem _ mw_288) (by decide) rfl rfl rfl dX5_returnCapacity_10 ?_
  refine v_istore_n C M dX5_returnCapacity_13 rfl (by decide) (L' := [(2, vI (if 0 < ((f 7) - (f 8)) then ((f 7) - (f 8)) else 0)), (0, .ref a), (1, vI q)]) rfl ?_
  refine v_iload_n C dX5_returnCapacity_14 rfl 2 rfl ?_
  refine v_iload_n C dX5_returnCapacity_15 rfl 0 rfl ?_
  refine v_mmin C (by  first | assumption | exact ⟨by omega, by omega⟩) (by have := hf 7; have := hf 8; split <;> exact ⟨by omega, by omega⟩) (List.mem_cons_of_mem _ mw_638) (List.mem_cons_of_mem _ mw_304) (List.mem_cons_of_mem _ mw_287) (List.mem_cons_of_mem _ mw_305) (by decide) rfl rfl rfl dX5_returnCapacity_16 ?_
  refine v_istore_n C M dX5_returnCapacity_19 rfl (by decide) (L' := [(3, vI (if (if 0 < ((f 7) - (f 8)) then ((f 7) - (f 8)) else 0) < q then (if 0 < ((f 7) - (f 8)) then ((f 7) - (f 8)) else 0) else q)), (2, vI (if 0 < ((f 7) - (f 8)) then ((f 7) - (f 8)) else 0)), (0, .ref a), (1, vI q)]) rfl ?_
  refine v_aload_n C dX5_returnCapacity_20 rfl 2 rfl ?_
  refine v_dup C dX5_returnCapacity_21 rfl ?_
  refine v_get (v := vI (f 7)) C inw_5 0 10 rfl (by decide) (List.mem_cons_of_mem _ mw_65) rfl rfl dX5_returnCapacity_22 ?_
  refine v_iload_n C dX5_returnCapacity_25 rfl 0 rfl ?_
  refine v_isub C dX5_returnCapacity_26 ?_
  refine v_put C inw_5 tyX5 tyX5_ok nmX5 0 10 rfl (by decide) (List.mem_cons_of_mem _ mw_65) rfl rfl rfl rfl (Nat.le_of_ble_eq_true rfl) dX5_returnCapacity_27 (ws' := (stW (vG X) a b c (up (f) 7 ((f 7) - (if (if 0 < ((f 7) - (f 8)) then ((f 7) - (f 8)) else 0) < q then (if 0 < ((f 7) - (f 8)) then ((f 7) - (f 8)) else 0) else q))) (le) (co))) rfl ?_
  refine v_aload_n C dX5_returnCapacity_30 rfl 2 rfl ?_
  refine v_dup C dX5_returnCapacity_31 rfl ?_
  refine v_get (v := vI (f 5)) C inw_5 0 7 rfl (by decide) (List.mem_cons_of_mem _ mw_197) rfl rfl dX5_returnCapacity_32 ?_
  refine v_iload_n C dX5_returnCapacity_35 rfl 0 rfl ?_
  refine v_iadd C dX5_returnCapacity_36 ?_
  refine v_put C inw_5 tyX5 tyX5_ok nmX5 0 7 rfl (by decide) (List.mem_cons_of_mem _ mw_197) rfl rfl rfl rfl (Nat.le_of_ble_eq_true rfl) dX5_returnCapacity_37 (ws' := (stW (vG X) a b c (up (up (f) 7 ((f 7) - (if (if 0 < ((f 7) - (f 8)) then ((f 7) - (f 8)) else 0) < q then (if 0 < ((f 7) - (f 8)) then ((f 7) - (f 8)) else 0) else q))) 5 ((f 5) + (if (if 0 < ((f 7) - (f 8)) then ((f 7) - (f 8)) else 0) < q then (if 0 < ((f 7) - (f 8)) then ((f 7) - (f 8)) else 0) else q))) (le) (co))) rfl ?_
  exact v_vret C E rfl dX5_returnCapacity_40 (by decide) (by decide) (⟨rfl, rfl⟩)
set_option maxHeartbeats 4000000 in
set_option maxRecDepth 100000 in
theorem c_X5_noteHeadOf (G : GG) (l : Launch) (a b c : Nat) (f le : Int → Int) (co : Int → Int64) (a2 b2 c2 : Nat) (f2 le2 : Int → Int) (co2 : Int → Int64) (hf : sB 1073741824 f) (hf2 : sB 1073741824 f2) : Ct G l yX5_noteHeadOf (Cond.code yX5_noteHeadOf cX5_noteHeadOf 3 none :: wsL_law) 1 20 0 0 [.ref a, .ref a2] ((stW G a b c (f) (le) (co)) ++ (stW G a2 b2 c2 (f2) (le2) (co2))) (fun r w => r = none ∧ w = stW G a b c (nhF f f2) le co ++ stW G a2 b2 c2 f2 le2 co2) := by
  refine Ct.of (own := RX5) (cc := cX5_noteHeadOf) (maxL := 3) (ret := none) (by decide) rfl rfl (Nat.le_of_ble_eq_true rfl) (fun X C E M hG hl => ?_)
  subst hG hl
  refine v_aload_n C dX5_noteHeadOf_0 rfl 0 rfl ?_
  refine v_aload_n C dX5_noteHeadOf_1 rfl 1 rfl ?_
  refine v_get (v := vI (f2 1)) C inw_5 3 3 rfl (by decide) (List.mem_cons_of_mem _ mw_195) rfl rfl dX5_noteHeadOf_2 ?_
  refine v_put C inw_5 tyX5 tyX5_ok nmX5 0 9 rfl (by decide) (List.mem_cons_of_mem _ mw_199) rfl rfl rfl rfl (Nat.le_of_ble_eq_true rfl) dX5_noteHeadOf_5 (ws' := (stW (vG X) a b c (up (f) 6 (f2 1)) (le) (co)) ++ (stW (vG X) a2 b2 c2 (f2) (le2) (co2))) rfl ?_
  refine v_aload_n C dX5_noteHeadOf_8 rfl 0 rfl ?_
  refine v_aload_n C dX5_noteHeadOf_9 rfl 1 rfl ?_
  refine v_callV (na := 0) (wy := (Cond.code yX5_ownLimit cX5_ownLimit 1 (some .int) :: wsL_law)) (wc := (stW (vG X) a2 b2 c2 (f2) (le2) (co2))) (wr := (stW (vG X) a b c (up (f) 6 (f2 1)) (le) (co))) C [] [.ref a] (c_X5_ownLimit _ _ a2 b2 c2 (f2) (le2) (co2) ) rfl (gwV mw_144 mw_628 mw_142 mw_143 mw_48) rfl (by decide +kernel) 0 rfl rfl rfl rfl (Sb.pl [3, 4, 5, 0, 1, 2] rfl rfl) rfl rfl dX5_noteHeadOf_10 (fun r w1 hp10_1 => ?_)
  obtain ⟨rfl, rfl⟩ := hp10_1
  refine V.sb (ws' := (stW (vG X) a b c (up (f) 6 (f2 1)) (le) (co)) ++ (stW (vG X) a2 b2 c2 (f2) (le2) (co2))) (Sb.pl [3, 4, 5, 0, 1, 2] rfl rfl) ?_
  show V X 0 0 13 [(0, .ref a), (1, .ref a2)] [vI (((f2) 2) + ((f2) 3)), .ref a] ((stW (vG X) a b c (up (f) 6 (f2 1)) (le) (co)) ++ (stW (vG X) a2 b2 c2 (f2) (le2) (co2)))
  refine v_put C inw_5 tyX5 tyX5_ok nmX5 0 10 rfl (by decide) (List.mem_cons_of_mem _ mw_65) rfl rfl rfl rfl (Nat.le_of_ble_eq_true rfl) dX5_noteHeadOf_13 (ws' := (stW (vG X) a b c (up (up (f) 6 (f2 1)) 7 (((f2) 2) + ((f2) 3))) (le) (co)) ++ (stW (vG X) a2 b2 c2 (f2) (le2) (co2))) rfl ?_
  refine v_aload_n C dX5_noteHeadOf_16 rfl 1 rfl ?_
  refine v_get (v := vI (f2 5)) C inw_5 3 7 rfl (by decide) (List.mem_cons_of_mem _ mw_197) rfl rfl dX5_noteHeadOf_17 ?_
  refine v_aload_n C dX5_noteHeadOf_20 rfl 0 rfl ?_
  refine v_get (v := vI (f 10)) C inw_5 0 8 rfl (by decide) (List.mem_cons_of_mem _ mw_198) rfl rfl dX5_noteHeadOf_21 ?_
  refine v_isub C dX5_noteHeadOf_24 ?_
  refine v_istore_n C M dX5_noteHeadOf_25 rfl (by decide) (L' := [(2, vI ((f2 5) - (f 10))), (0, .ref a), (1, .ref a2)]) rfl ?_
  refine v_iload_n C dX5_noteHeadOf_26 rfl 0 rfl ?_
  refine v_if_le (tgt := 58) C dX5_noteHeadOf_27 (by decide) (by have := hf2 5; have := hf 10; first | assumption | exact ⟨by omega, by omega⟩) (fun c27 => ?_) (fun c27 => ?_)
  · skip
    exact v_vret C E rfl dX5_noteHeadOf_58 (by decide) (by decide) (⟨rfl, by rw [show nhF f f2 = _ from if_pos c27]⟩)
  · skip
    refine v_aload_n C dX5_noteHeadOf_30 rfl 1 rfl ?_
    refine v_dup C dX5_noteHeadOf_31 rfl ?_
    refine v_get (v := vI (f 3)) C inw_5 0 5 rfl (by decide) (List.mem_cons_of_mem _ mw_64) rfl rfl dX5_noteHeadOf_32 ?_
    refine v_iload_n C dX5_noteHeadOf_35 rfl 0 rfl ?_
    refine v_isub C dX5_noteHeadOf_36 ?_
    refine v_put C inw_5 tyX5 tyX5_ok nmX5 0 5 rfl (by decide) (List.mem_cons_of_mem _ mw_64) rfl rfl rfl rfl (Nat.le_of_ble_eq_true rfl) dX5_noteHeadOf_37 (ws' := (stW (vG X) a b c (up (up (up (f) 6 (f2 1)) 7 (((f2) 2) + ((f2) 3))) 3 ((f 3) - ((f2 5) - (f 10)))) (le) (co)) ++ (stW (vG X) a2 b2 c2 (f2) (le2) (co2))) rfl ?_
    refine v_aload_n C dX5_noteHeadOf_40 rfl 1 rfl ?_
    refine v_dup C dX5_noteHeadOf_41 rfl ?_
    refine v_get (v := vI (f 4)) C inw_5 0 6 rfl (by decide) (List.mem_cons_of_mem _ mw_196) rfl rfl dX5_noteHeadOf_42 ?_
    refine v_iload_n C dX5_noteHeadOf_45 rfl 0 rfl ?_
    refine v_isub C dX5_noteHeadOf_46 ?_
    refine v_put C inw_5 tyX5 tyX5_ok nmX5 0 6 rfl (by decide) (List.mem_cons_of_mem _ mw_196) rfl rfl rfl rfl (Nat.le_of_ble_eq_true rfl) dX5_noteHeadOf_47 (ws' := (stW (vG X) a b c (up (up (up (up (f) 6 (f2 1)) 7 (((f2) 2) + ((f2) 3))) 3 ((f 3) - ((f2 5) - (f 10)))) 4 ((f 4) - ((f2 5) - (f 10)))) (le) (co)) ++ (stW (vG X) a2 b2 c2 (f2) (le2) (co2))) rfl ?_
    refine v_aload_n C dX5_noteHeadOf_50 rfl 1 rfl ?_
    refine v_aload_n C dX5_noteHeadOf_51 rfl 2 rfl ?_
    refine v_get (v := vI (f2 5)) C inw_5 3 7 rfl (by decide) (List.mem_cons_of_mem _ mw_197) rfl rfl dX5_noteHeadOf_52 ?_
    refine v_put C inw_5 tyX5 tyX5_ok nmX5 0 8 rfl (by decide) (List.mem_cons_of_mem _ mw_198) rfl rfl rfl rfl (Nat.le_of_ble_eq_true rfl) dX5_noteHeadOf_55 (ws' := (stW (vG X) a b c (up (up (up (up (up (f) 6 (f2 1)) 7 (((f2) 2) + ((f2) 3))) 3 ((f 3) - ((f2 5) - (f 10)))) 4 ((f 4) - ((f2 5) - (f 10)))) 10 (f2 5)) (le) (co)) ++ (stW (vG X) a2 b2 c2 (f2) (le2) (co2))) rfl ?_
    exact v_vret C E rfl dX5_noteHeadOf_58 (by decide) (by decide) (⟨rfl, by rw [show nhF f f2 = _ from if_neg c27]⟩)
set_option maxHeartbeats 4000000 in
set_option maxRecDepth 100000 in
theorem c_X5_copyFrom (G : GG) (l : Launch) (a b c : Nat) (f le : Int → Int) (co : Int → Int64) (a2 b2 c2 : Nat) (f2 le2 : Int → Int) (co2 : Int → Int64)  : Ct G l yX5_copyFrom (Cond.code yX5_copyFrom cX5_copyFrom 2 none :: wsL_law) 1 60 0 0 [.ref a, .ref a2] ((stW G a b c (f) (le) (co)) ++ (stW G a2 b2 c2 (f2) (le2) (co2))) (fun r w => r = none ∧ w = stW G a b c f2 le2 co2 ++ stW G a2 b2 c2 f2 le2 co2) := by
  refine Ct.of (own := RX5) (cc := cX5_copyFrom) (maxL := 2) (ret := none) (by decide) rfl rfl (Nat.le_of_ble_eq_true rfl) (fun X C E M hG hl => ?_)
  subst hG hl
  refine v_aload_n C dX5_copyFrom_0 rfl 1 rfl ?_
  refine v_get (v := .ref b2) C inw_5 3 0 rfl (by decide) (List.mem_cons_of_mem _ mw_62) rfl rfl dX5_copyFrom_1 ?_
  refine v_iconst C dX5_copyFrom_4 ?_
  refine v_aload_n C dX5_copyFrom_5 rfl 0 rfl ?_
  refine v_get (v := .ref b) C inw_5 0 0 rfl (by decide) (List.mem_cons_of_mem _ mw_62) rfl rfl dX5_copyFrom_6 ?_
  refine v_iconst C dX5_copyFrom_9 ?_
  refine v_bipush C dX5_copyFrom_10 (by decide +kernel) ?_
  refine v_cpyI C 4 1 (List.mem_cons_of_mem _ mw_194) (List.mem_cons_of_mem _ mw_185) (List.mem_cons_of_mem _ mw_186) (List.mem_cons_of_mem _ mw_187) rfl rfl (by decide +kernel) (by decide) (by decide) rfl dX5_copyFrom_12 (ws' := (stW (vG X) a b c (f) (le2) (co)) ++ (stW (vG X) a2 b2 c2 (f2) (le2) (co2))) rfl ?_
  refine v_aload_n C dX5_copyFrom_15 rfl 1 rfl ?_
  refine v_get (v := .ref c2) C inw_5 3 1 rfl (by decide) (List.mem_cons_of_mem _ mw_63) rfl rfl dX5_copyFrom_16 ?_
  refine v_iconst C dX5_copyFrom_19 ?_
  refine v_aload_n C dX5_copyFrom_20 rfl 0 rfl ?_
  refine v_get (v := .ref c) C inw_5 0 1 rfl (by decide) (List.mem_cons_of_mem _ mw_63) rfl rfl dX5_copyFrom_21 ?_
  refine v_iconst C dX5_copyFrom_24 ?_
  refine v_bipush C dX5_copyFrom_25 (by decide +kernel) ?_
  refine v_cpyL C 5 2 (List.mem_cons_of_mem _ mw_194) (List.mem_cons_of_mem _ mw_185) (List.mem_cons_of_mem _ mw_186) (List.mem_cons_of_mem _ mw_187) rfl rfl (by decide +kernel) (by decide) (by decide) rfl dX5_copyFrom_27 (ws' := (stW (vG X) a b c (f) (le2) (co2)) ++ (stW (vG X) a2 b2 c2 (f2) (le2) (co2))) rfl ?_
  refine v_aload_n C dX5_copyFrom_30 rfl 0 rfl ?_
  refine v_aload_n C dX5_copyFrom_31 rfl 1 rfl ?_
  refine v_get (v := vI (f2 0)) C inw_5 3 2 rfl (by decide) (List.mem_cons_of_mem _ mw_133) rfl rfl dX5_copyFrom_32 ?_
  refine v_put C inw_5 tyX5 tyX5_ok nmX5 0 2 rfl (by decide) (List.mem_cons_of_mem _ mw_133) rfl rfl rfl rfl (Nat.le_of_ble_eq_true rfl) dX5_copyFrom_35 (ws' := (stW (vG X) a b c (up (f) 0 (f2 0)) (le2) (co2)) ++ (stW (vG X) a2 b2 c2 (f2) (le2) (co2))) rfl ?_
  refine v_aload_n C dX5_copyFrom_38 rfl 0 rfl ?_
  refine v_aload_n C dX5_copyFrom_39 rfl 1 rfl ?_
  refine v_get (v := vI (f2 1)) C inw_5 3 3 rfl (by decide) (List.mem_cons_of_mem _ mw_195) rfl rfl dX5_copyFrom_40 ?_
  refine v_put C inw_5 tyX5 tyX5_ok nmX5 0 3 rfl (by decide) (List.mem_cons_of_mem _ mw_195) rfl rfl rfl rfl (Nat.le_of_ble_eq_true rfl) dX5_copyFrom_43 (ws' := (stW (vG X) a b c (up (up (f) 0 (f2 0)) 1 (f2 1)) (le2) (co2)) ++ (stW (vG X) a2 b2 c2 (f2) (le2) (co2))) rfl ?_
  refine v_aload_n C dX5_copyFrom_46 rfl 0 rfl ?_
  refine v_aload_n C dX5_copyFrom_47 rfl 1 rfl ?_
  refine v_get (v := vI (f2 2)) C inw_5 3 4 rfl (by decide) (List.mem_cons_of_mem _ mw_145) rfl rfl dX5_copyFrom_48 ?_
  refine v_put C inw_5 tyX5 tyX5_ok nmX5 0 4 rfl (by decide) (List.mem_cons_of_mem _ mw_145) rfl rfl rfl rfl (Nat.le_of_ble_eq_true rfl) dX5_copyFrom_51 (ws' := (stW (vG X) a b c (up (up (up (f) 0 (f2 0)) 1 (f2 1)) 2 (f2 2)) (le2) (co2)) ++ (stW (vG X) a2 b2 c2 (f2) (le2) (co2))) rfl ?_
  refine v_aload_n C dX5_copyFrom_54 rfl 0 rfl ?_
  refine v_aload_n C dX5_copyFrom_55 rfl 1 rfl ?_
  refine v_get (v := vI (f2 3)) C inw_5 3 5 rfl (by decide) (List.mem_cons_of_mem _ mw_64) rfl rfl dX5_copyFrom_56 ?_
  refine v_put C inw_5 tyX5 tyX5_ok nmX5 0 5 rfl (by decide) (List.mem_cons_of_mem _ mw_64) rfl rfl rfl rfl (Nat.le_of_ble_eq_true rfl) dX5_copyFrom_59 (ws' := (stW (vG X) a b c (up (up (up (up (f) 0 (f2 0)) 1 (f2 1)) 2 (f2 2)) 3 (f2 3)) (le2) (co2)) ++ (stW (vG X) a2 b2 c2 (f2) (le2) (co2))) rfl ?_
  refine v_aload_n C dX5_copyFrom_62 rfl 0 rfl ?_
  refine v_aload_n C dX5_copyFrom_63 rfl 1 rfl ?_
  refine v_get (v := vI (f2 4)) C inw_5 3 6 rfl (by decide) (List.mem_cons_of_mem _ mw_196) rfl rfl dX5_copyFrom_64 ?_
  refine v_put C inw_5 tyX5 tyX5_ok nmX5 0 6 rfl (by decide) (List.mem_cons_of_mem _ mw_196) rfl rfl rfl rfl (Nat.le_of_ble_eq_true rfl) dX5_copyFrom_67 (ws' := (stW (vG X) a b c (up (up (up (up (up (f) 0 (f2 0)) 1 (f2 1)) 2 (f2 2)) 3 (f2 3)) 4 (f2 4)) (le2) (co2)) ++ (stW (vG X) a2 b2 c2 (f2) (le2) (co2))) rfl ?_
  refine v_aload_n C dX5_copyFrom_70 rfl 0 rfl ?_
  refine v_aload_n C dX5_copyFrom_71 rfl 1 rfl ?_
  refine v_get (v := vI (f2 5)) C inw_5 3 7 rfl (by decide) (List.mem_cons_of_mem _ mw_197) rfl rfl dX5_copyFrom_72 ?_
  refine v_put C inw_5 tyX5 tyX5_ok nmX5 0 7 rfl (by decide) (List.mem_cons_of_mem _ mw_197) rfl rfl rfl rfl (Nat.le_of_ble_eq_true rfl) dX5_copyFrom_75 (ws' := (stW (vG X) a b c (up (up (up (up (up (up (f) 0 (f2 0)) 1 (f2 1)) 2 (f2 2)) 3 (f2 3)) 4 (f2 4)) 5 (f2 5)) (le2) (co2)) ++ (stW (vG X) a2 b2 c2 (f2) (le2) (co2))) rfl ?_
  refine v_aload_n C dX5_copyFrom_78 rfl 0 rfl ?_
  refine v_aload_n C dX5_copyFrom_79 rfl 1 rfl ?_
  refine v_get (v := vI (f2 10)) C inw_5 3 8 rfl (by decide) (List.mem_cons_of_mem _ mw_198) rfl rfl dX5_copyFrom_80 ?_
  refine v_put C inw_5 tyX5 tyX5_ok nmX5 0 8 rfl (by decide) (List.mem_cons_of_mem _ mw_198) rfl rfl rfl rfl (Nat.le_of_ble_eq_true rfl) dX5_copyFrom_83 (ws' := (stW (vG X) a b c (up (up (up (up (up (up (up (f) 0 (f2 0)) 1 (f2 1)) 2 (f2 2)) 3 (f2 3)) 4 (f2 4)) 5 (f2 5)) 10 (f2 10)) (le2) (co2)) ++ (stW (vG X) a2 b2 c2 (f2) (le2) (co2))) rfl ?_
  refine v_aload_n C dX5_copyFrom_86 rfl 0 rfl ?_
  refine v_aload_n C dX5_copyFrom_87 rfl 1 rfl ?_
  refine v_get (v := vI (f2 6)) C inw_5 3 9 rfl (by decide) (List.mem_cons_of_mem _ mw_199) rfl rfl dX5_copyFrom_88 ?_
  refine v_put C inw_5 tyX5 tyX5_ok nmX5 0 9 rfl (by decide) (List.mem_cons_of_mem _ mw_199) rfl rfl rfl rfl (Nat.le_of_ble_eq_true rfl) dX5_copyFrom_91 (ws' := (stW (vG X) a b c (up (up (up (up (up (up (up (up (f) 0 (f2 0)) 1 (f2 1)) 2 (f2 2)) 3 (f2 3)) 4 (f2 4)) 5 (f2 5)) 10 (f2 10)) 6 (f2 6)) (le2) (co2)) ++ (stW (vG X) a2 b2 c2 (f2) (le2) (co2))) rfl ?_
  refine v_aload_n C dX5_copyFrom_94 rfl 0 rfl ?_
  refine v_aload_n C dX5_copyFrom_95 rfl 1 rfl ?_
  refine v_get (v := vI (f2 7)) C inw_5 3 10 rfl (by decide) (List.mem_cons_of_mem _ mw_65) rfl rfl dX5_copyFrom_96 ?_
  refine v_put C inw_5 tyX5 tyX5_ok nmX5 0 10 rfl (by decide) (List.mem_cons_of_mem _ mw_65) rfl rfl rfl rfl (Nat.le_of_ble_eq_true rfl) dX5_copyFrom_99 (ws' := (stW (vG X) a b c (up (up (up (up (up (up (up (up (up (f) 0 (f2 0)) 1 (f2 1)) 2 (f2 2)) 3 (f2 3)) 4 (f2 4)) 5 (f2 5)) 10 (f2 10)) 6 (f2 6)) 7 (f2 7)) (le2) (co2)) ++ (stW (vG X) a2 b2 c2 (f2) (le2) (co2))) rfl ?_
  refine v_aload_n C dX5_copyFrom_102 rfl 0 rfl ?_
  refine v_aload_n C dX5_copyFrom_103 rfl 1 rfl ?_
  refine v_get (v := vI (f2 8)) C inw_5 3 11 rfl (by decide) (List.mem_cons_of_mem _ mw_200) rfl rfl dX5_copyFrom_104 ?_
  refine v_put C inw_5 tyX5 tyX5_ok nmX5 0 11 rfl (by decide) (List.mem_cons_of_mem _ mw_200) rfl rfl rfl rfl (Nat.le_of_ble_eq_true rfl) dX5_copyFrom_107 (ws' := (stW (vG X) a b c (up (up (up (up (up (up (up (up (up (up (f) 0 (f2 0)) 1 (f2 1)) 2 (f2 2)) 3 (f2 3)) 4 (f2 4)) 5 (f2 5)) 10 (f2 10)) 6 (f2 6)) 7 (f2 7)) 8 (f2 8)) (le2) (co2)) ++ (stW (vG X) a2 b2 c2 (f2) (le2) (co2))) rfl ?_
  refine v_aload_n C dX5_copyFrom_110 rfl 0 rfl ?_
  refine v_aload_n C dX5_copyFrom_111 rfl 1 rfl ?_
  refine v_get (v := vI (f2 9)) C inw_5 3 12 rfl (by decide) (List.mem_cons_of_mem _ mw_201) rfl rfl dX5_copyFrom_112 ?_
  refine v_put C inw_5 tyX5 tyX5_ok nmX5 0 12 rfl (by decide) (List.mem_cons_of_mem _ mw_201) rfl rfl rfl rfl (Nat.le_of_ble_eq_true rfl) dX5_copyFrom_115 (ws' := (stW (vG X) a b c (up (up (up (up (up (up (up (up (up (up (up (f) 0 (f2 0)) 1 (f2 1)) 2 (f2 2)) 3 (f2 3)) 4 (f2 4)) 5 (f2 5)) 10 (f2 10)) 6 (f2 6)) 7 (f2 7)) 8 (f2 8)) 9 (f2 9)) (le2) (co2)) ++ (stW (vG X) a2 b2 c2 (f2) (le2) (co2))) rfl ?_
  exact v_vret C E rfl dX5_copyFrom_118 (by decide) (by decide) (⟨rfl, rfl⟩)
end C1
