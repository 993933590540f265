section C7
set_option maxHeartbeats 4000000 in
set_option maxRecDepth 100000 in
theorem c_X6_isSpace (G : GG) (l : Launch) (v : Int) (hv : sm v) : Ct G l yX6_isSpace (Cond.code yX6_isSpace cX6_isSpace 1 (some .boolean) :: wsL_law) 0 0 0 0 [vI v] ([]) (fun r w => r = some (vI (bI (v = 32 ∨ v = 10))) ∧ w = []) := by
  refine Ct.of (own := RX6) (cc := cX6_isSpace) (maxL := 1) (ret := (some .boolean)) (by decide) rfl rfl (Nat.le_of_ble_eq_true rfl) (fun X C E M hG hl => ?_)
  subst hG hl
  refine v_iload_n C dX6_isSpace_0 rfl 0 rfl ?_
  refine v_bipush C dX6_isSpace_1 (by decide +kernel) ?_
  refine v_icmp_eq (tgt := 12) C dX6_isSpace_3 (by decide) (by  first | assumption | exact ⟨by omega, by omega⟩) (by decide) (fun c3 => ?_) (fun c3 => ?_)
  · refine v_iconst C dX6_isSpace_12 ?_
    refine v_goto (tgt := 17) C dX6_isSpace_13 (by decide) ?_
    exact v_zret C E rfl rfl dX6_isSpace_17 (by decide) (by decide) (⟨by rw [bI_t (by omega)], rfl⟩)
  · refine v_iload_n C dX6_isSpace_6 rfl 0 rfl ?_
    refine v_bipush C dX6_isSpace_7 (by decide +kernel) ?_
    refine v_icmp_ne (tgt := 16) C dX6_isSpace_9 (by decide) (by  first | assumption | exact ⟨by omega, by omega⟩) (by decide) (fun c9 => ?_) (fun c9 => ?_)
    · refine v_iconst C dX6_isSpace_16 ?_
      exact v_zret C E rfl rfl dX6_isSpace_17 (by decide) (by decide) (⟨by rw [bI_f (by omega)], rfl⟩)
    · refine v_iconst C dX6_isSpace_12 ?_
      refine v_goto (tgt := 17) C dX6_isSpace_13 (by decide) ?_
      exact v_zret C E rfl rfl dX6_isSpace_17 (by decide) (by decide) (⟨by rw [bI_t (by omega)], rfl⟩)
set_option maxHeartbeats 4000000 in
set_option maxRecDepth 100000 in
theorem c_X6_isLetter (G : GG) (l : Launch) (v : Int) (hv : sm v) : Ct G l yX6_isLetter (Cond.code yX6_isLetter cX6_isLetter 1 (some .boolean) :: wsL_law) 0 0 0 0 [vI v] ([]) (fun r w => r = some (vI (bI (97 ≤ v ∧ v ≤ 122))) ∧ w = []) := by
  refine Ct.of (own := RX6) (cc := cX6_isLetter) (maxL := 1) (ret := (some .boolean)) (by decide) rfl rfl (Nat.le_of_ble_eq_true rfl) (fun X C E M hG hl => ?_)
  subst hG hl
  refine v_iload_n C dX6_isLetter_0 rfl 0 rfl ?_
  refine v_bipush C dX6_isLetter_1 (by decide +kernel) ?_
  refine v_icmp_lt (tgt := 16) C dX6_isLetter_3 (by decide) (by  first | assumption | exact ⟨by omega, by omega⟩) (by decide) (fun c3 => ?_) (fun c3 => ?_)
  · refine v_iconst C dX6_isLetter_16 ?_
    exact v_zret C E rfl rfl dX6_isLetter_17 (by decide) (by decide) (⟨by rw [bI_f (by omega)], rfl⟩)
  · refine v_iload_n C dX6_isLetter_6 rfl 0 rfl ?_
    refine v_bipush C dX6_isLetter_7 (by decide +kernel) ?_
    refine v_icmp_gt (tgt := 16) C dX6_isLetter_9 (by decide) (by  first | assumption | exact ⟨by omega, by omega⟩) (by decide) (fun c9 => ?_) (fun c9 => ?_)
    · refine v_iconst C dX6_isLetter_16 ?_
      exact v_zret C E rfl rfl dX6_isLetter_17 (by decide) (by decide) (⟨by rw [bI_f (by omega)], rfl⟩)
    · refine v_iconst C dX6_isLetter_12 ?_
      refine v_goto (tgt := 17) C dX6_isLetter_13 (by decide) ?_
      exact v_zret C E rfl rfl dX6_isLetter_17 (by decide) (by decide) (⟨by rw [bI_t (by omega)], rfl⟩)
set_option maxHeartbeats 4000000 in
set_option maxRecDepth 100000 in
theorem c_X6_isDigit (G : GG) (l : Launch) (v : Int) (hv : sm v) : Ct G l yX6_isDigit (Cond.code yX6_isDigit cX6_isDigit 1 (some .boolean) :: wsL_law) 0 0 0 0 [vI v] ([]) (fun r w => r = some (vI (bI (48 ≤ v ∧ v ≤ 57))) ∧ w = []) := by
  refine Ct.of (own := RX6) (cc := cX6_isDigit) (maxL := 1) (ret := (some .boolean)) (by decide) rfl rfl (Nat.le_of_ble_eq_true rfl) (fun X C E M hG hl => ?_)
  subst hG hl
  refine v_iload_n C dX6_isDigit_0 rfl 0 rfl ?_
  refine v_bipush C dX6_isDigit_1 (by decide +kernel) ?_
  refine v_icmp_lt (tgt := 16) C dX6_isDigit_3 (by decide) (by  first | assumption | exact ⟨by omega, by omega⟩) (by decide) (fun c3 => ?_) (fun c3 => ?_)
  · refine v_iconst C dX6_isDigit_16 ?_
    exact v_zret C E rfl rfl dX6_isDigit_17 (by decide) (by decide) (⟨by rw [bI_f (by omega)], rfl⟩)
  · refine v_iload_n C dX6_isDigit_6 rfl 0 rfl ?_
    refine v_bipush C dX6_isDigit_7 (by decide +kernel) ?_
    refine v_icmp_gt (tgt := 16) C dX6_isDigit_9 (by decide) (by  first | assumption | exact ⟨by omega, by omega⟩) (by decide) (fun c9 => ?_) (fun c9 => ?_)
    · refine v_iconst C dX6_isDigit_16 ?_
      exact v_zret C E rfl rfl dX6_isDigit_17 (by decide) (by decide) (⟨by rw [bI_f (by omega)], rfl⟩)
    · refine v_iconst C dX6_isDigit_12 ?_
      refine v_goto (tgt := 17) C dX6_isDigit_13 (by decide) ?_
      exact v_zret C E rfl rfl dX6_isDigit_17 (by decide) (by decide) (⟨by rw [bI_t (by omega)], rfl⟩)
set_option maxHeartbeats 4000000 in
set_option maxRecDepth 100000 in
theorem c_X6_hasRoom (G : GG) (l : Launch) (a b : Nat) (f bu : Int → Int) (hf : sbX f) : Ct G l yX6_hasRoom (Cond.code yX6_hasRoom cX6_hasRoom 1 (some .boolean) :: wsL_law) 0 0 0 0 [.ref a] ((rdW G a b (f) (bu))) (fun r w => r = some (vI (bI (f 0 + 20 ≤ 700))) ∧ w = rdW G a b f bu) := by
  refine Ct.of (own := RX6) (cc := cX6_hasRoom) (maxL := 1) (ret := (some .boolean)) (by decide) rfl rfl (Nat.le_of_ble_eq_true rfl) (fun X C E M hG hl => ?_)
  subst hG hl
  refine v_aload_n C dX6_hasRoom_0 rfl 0 rfl ?_
  refine v_get (v := vI (f 0)) C inw_6 0 1 rfl (by decide) (List.mem_cons_of_mem _ mw_441) rfl rfl dX6_hasRoom_1 ?_
  refine v_bipush C dX6_hasRoom_4 (by decide +kernel) ?_
  refine v_iadd C dX6_hasRoom_6 ?_
  refine v_sipush C dX6_hasRoom_7 (by decide +kernel) ?_
  refine v_icmp_gt (tgt := 17) C dX6_hasRoom_10 (by decide) (by have := hf 0 (by decide) (by decide) (by decide); first | assumption | exact ⟨by omega, by omega⟩) (by decide) (fun c10 => ?_) (fun c10 => ?_)
  · refine v_iconst C dX6_hasRoom_17 ?_
    exact v_zret C E rfl rfl dX6_hasRoom_18 (by decide) (by decide) (⟨by rw [bI_f (by omega)], rfl⟩)
  · refine v_iconst C dX6_hasRoom_13 ?_
    refine v_goto (tgt := 18) C dX6_hasRoom_14 (by decide) ?_
    exact v_zret C E rfl rfl dX6_hasRoom_18 (by decide) (by decide) (⟨by rw [bI_t (by omega)], rfl⟩)
set_option maxHeartbeats 4000000 in
set_option maxRecDepth 100000 in
theorem c_X6_byteAt (G : GG) (l : Launch) (a b : Nat) (f bu : Int → Int) (i : Int) (hi : sm i) (hf : sbX f) : Ct G l yX6_byteAt (Cond.code yX6_byteAt cX6_byteAt 2 (some .int) :: wsL_law) 0 0 0 0 [.ref a, vI i] ((rdW G a b (f) (bu))) (fun r w => r = some (vI (if ((0 ≤ i ∧ i < f 1) ∧ i < 700) then bu i else -1)) ∧ w = rdW G a b f bu) := by
  refine Ct.of (own := RX6) (cc := cX6_byteAt) (maxL := 2) (ret := (some .int)) (by decide) rfl rfl (Nat.le_of_ble_eq_true rfl) (fun X C E M hG hl => ?_)
  subst hG hl
  refine v_iload_n C dX6_byteAt_0 rfl 1 rfl ?_
  refine v_if_lt (tgt := 28) C dX6_byteAt_1 (by decide) (by  first | assumption | exact ⟨by omega, by omega⟩) (fun c1 => ?_) (fun c1 => ?_)
  · skip
    refine v_iconst C dX6_byteAt_28 ?_
    exact v_iret C E rfl dX6_byteAt_29 (by decide) (by decide) (⟨by rw [if_neg (show ¬ ((0 ≤ i ∧ i < f 1) ∧ i < 700) by omega)], rfl⟩)
  · skip
    refine v_iload_n C dX6_byteAt_4 rfl 1 rfl ?_
    refine v_aload_n C dX6_byteAt_5 rfl 0 rfl ?_
    refine v_get (v := vI (f 1)) C inw_6 0 2 rfl (by decide) (List.mem_cons_of_mem _ mw_455) rfl rfl dX6_byteAt_6 ?_
    refine v_icmp_ge (tgt := 28) C dX6_byteAt_9 (by decide) (by  first | assumption | exact ⟨by omega, by omega⟩) (by have := hf 1 (by decide) (by decide) (by decide); first | assumption | exact ⟨by omega, by omega⟩) (fun c9 => ?_) (fun c9 => ?_)
    · skip
      refine v_iconst C dX6_byteAt_28 ?_
      exact v_iret C E rfl dX6_byteAt_29 (by decide) (by decide) (⟨by rw [if_neg (show ¬ ((0 ≤ i ∧ i < f 1) ∧ i < 700) by omega)], rfl⟩)
    · skip
      refine v_iload_n C dX6_byteAt_12 rfl 1 rfl ?_
      refine v_sipush C dX6_byteAt_13 (by decide +kernel) ?_
      refine v_icmp_ge (tgt := 28) C dX6_byteAt_16 (by decide) (by  first | assumption | exact ⟨by omega, by omega⟩) (by decide) (fun c16 => ?_) (fun c16 => ?_)
      · skip
        refine v_iconst C dX6_byteAt_28 ?_
        exact v_iret C E rfl dX6_byteAt_29 (by decide) (by decide) (⟨by rw [if_neg (show ¬ ((0 ≤ i ∧ i < f 1) ∧ i < 700) by omega)], rfl⟩)
      · skip
        refine v_aload_n C dX6_byteAt_19 rfl 0 rfl ?_
        refine v_get (v := .ref b) C inw_6 0 0 rfl (by decide) (List.mem_cons_of_mem _ mw_41) rfl rfl dX6_byteAt_20 ?_
        refine v_iload_n C dX6_byteAt_23 rfl 1 rfl ?_
        refine v_bald C 1 rfl (by  omega) (by  omega) (by decide) dX6_byteAt_24 ?_
        refine v_goto (tgt := 29) C dX6_byteAt_25 (by decide) ?_
        exact v_iret C E rfl dX6_byteAt_29 (by decide) (by decide) (⟨by rw [if_pos (show ((0 ≤ i ∧ i < f 1) ∧ i < 700) by omega)], rfl⟩)
set_option maxHeartbeats 4000000 in
set_option maxRecDepth 100000 in
theorem c_X6_failAt (G : GG) (l : Launch) (a b : Nat) (f bu : Int → Int) (o k : Int) (hf : sbX f) : Ct G l yX6_failAt (Cond.code yX6_failAt cX6_failAt 3 none :: wsL_law) 0 0 0 0 [.ref a, vI o, vI k] ((rdW G a b (f) (bu))) (fun r w => r = none ∧ w = rdW G a b (if f 7 = 0 then up f 7 (8 * o + k) else f) bu) := by
  refine Ct.of (own := RX6) (cc := cX6_failAt) (maxL := 3) (ret := none) (by decide) rfl rfl (Nat.le_of_ble_eq_true rfl) (fun X C E M hG hl => ?_)
  subst hG hl
  refine v_aload_n C dX6_failAt_0 rfl 0 rfl ?_
  refine v_get (v := vI (f 7)) C inw_6 0 8 rfl (by decide) (List.mem_cons_of_mem _ mw_457) rfl rfl dX6_failAt_1 ?_
  refine v_if_ne (tgt := 17) C dX6_failAt_4 (by decide) (by have := hf 7 (by decide) (by decide) (by decide); first | assumption | exact ⟨by omega, by omega⟩) (fun c4 => ?_) (fun c4 => ?_)
  · skip
    exact v_vret C E rfl dX6_failAt_17 (by decide) (by decide) (⟨rfl, by rw [if_neg (by omega)]⟩)
  · skip
    refine v_aload_n C dX6_failAt_7 rfl 0 rfl ?_
    refine v_bipush C dX6_failAt_8 (by decide +kernel) ?_
    refine v_iload_n C dX6_failAt_10 rfl 1 rfl ?_
    refine v_imul C dX6_failAt_11 ?_
    refine v_iload_n C dX6_failAt_12 rfl 2 rfl ?_
    refine v_iadd C dX6_failAt_13 ?_
    refine v_put C inw_6 tyX6 tyX6_ok nmX6 0 8 rfl (by decide) (List.mem_cons_of_mem _ mw_457) rfl rfl rfl rfl (Nat.le_of_ble_eq_true rfl) dX6_failAt_14 (ws' := (rdW (vG X) a b (up (f) 7 ((8 * o) + k)) (bu))) rfl ?_
    exact v_vret C E rfl dX6_failAt_17 (by decide) (by decide) (⟨rfl, by rw [if_pos (by omega)]⟩)
set_option maxHeartbeats 4000000 in
set_option maxRecDepth 100000 in
theorem c_X6_init (G : GG) (l : Launch) (a : Nat)  : Ct G l yX6_init (Cond.code yX6_init cX6_init 1 none :: wsL_law) 1 24 1 700 [.ref a] ([(a, .inr (6, [.null, vI 0, vI 0, vI 0, vI 0, vI 0, vI 0, vI 0, vI 0, vI 0, vI 0]))]) (fun r w => r = none ∧ ∃ b : Nat, w = rdW G a b (fun _ => 0) (fun _ => 0)) := by
  refine Ct.ofI (own := RX6) (cc := cX6_init) (maxL := 1) (ret := none) (by decide) rfl rfl (Nat.le_of_ble_eq_true rfl) (fun X C E M I hG hl => ?_)
  subst hG hl
  refine v_aload_n C dX6_init_0 rfl 0 rfl ?_
  refine v_objInit C (List.mem_cons_of_mem _ mw_39) (List.mem_cons_of_mem _ mw_7) (List.mem_cons_of_mem _ mw_8) (by decide) (by decide) dX6_init_1 ?_
  refine v_aload_n C dX6_init_4 rfl 0 rfl ?_
  refine v_sipush C dX6_init_5 (by decide +kernel) ?_
  refine v_newB C (List.mem_cons_of_mem _ mw_40) (by decide) (by decide) (N' := 700) rfl rfl rfl rfl dX6_init_8 (fun a1 => ?_)
  show V X 1 700 10 [(0, .ref a)] [.ref a1, .ref a] ([(a, .inr (6, [.null, vI 0, vI 0, vI 0, vI 0, vI 0, vI 0, vI 0, vI 0, vI 0, vI 0])), (a1, .inl ((vG X).2 0, 700, .inl (fI (fun _ => 0))))])
  refine v_putF C I inw_6 tyX6 tyX6_ok nmX6 0 0 rfl (by decide) (List.mem_cons_of_mem _ mw_41) rfl rfl rfl rfl rfl (Nat.le_of_ble_eq_true rfl) dX6_init_10 (ws' := [(a, .inr (6, [.ref a1, vI 0, vI 0, vI 0, vI 0, vI 0, vI 0, vI 0, vI 0, vI 0, vI 0])), (a1, .inl ((vG X).2 0, 700, .inl (fI (fun _ => 0))))]) rfl ?_
  exact v_vret C E rfl dX6_init_13 (by decide) (by decide) (⟨rfl, _, rfl⟩)
end C7
