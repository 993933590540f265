section M8b
set_option maxHeartbeats 4000000 in
set_option maxRecDepth 100000 in
theorem c_X8_appendInt (G : GG) (l : Launch) (ad : Nat → Nat) (F : Int → Int → Int) (v : Int) (e : Int → Int → Int) (he : ∀ a sh, b8 a sh = e a sh) (h0 : 0 ≤ F 0 2) (h1 : F 0 2 + 4 ≤ 700) : Ct G l yX8_appendInt (Cond.code yX8_appendInt cX8_appendInt 3 none :: wsL_law) 0 0 0 0 [.ref (ad 0), vI v] ((mW G ad F)) (fun r w => r = none ∧ w = (mW G ad (up (up F 0 (up (F 0) 2 ((F 0 2) + 4))) 1 (up (up (up (up (F 1) (F 0 2) (e v 24)) ((F 0 2) + 1) (e v 16)) ((F 0 2) + 2) (e v 8)) ((F 0 2) + 3) (e v 0))))) := by
  refine Ct.of (own := RX8) (cc := cX8_appendInt) (maxL := 3) (ret := none) (by decide) rfl rfl (Nat.le_of_ble_eq_true rfl) (fun X C E M hG hl => ?_)
  subst hG hl
  refine v_bipush C dX8_appendInt_0 (by decide +kernel) ?_
  refine v_istore_n C M dX8_appendInt_2 rfl (by decide) (L' := [(2, vI 24), (0, .ref (ad 0)), (1, vI v)]) rfl ?_
  refine v_iload_n C dX8_appendInt_3 rfl 0 rfl ?_
  refine v_if_lt (tgt := 36) C dX8_appendInt_4 (by decide) (by decide) (fun c => absurd c (by decide)) (fun _ => ?_)
  refine v_aload_n C dX8_appendInt_7 rfl 1 rfl ?_
  refine v_get (v := .ref (ad 1)) C inw_8 0 1 rfl (by decide) (List.mem_cons_of_mem _ mw_104) rfl rfl dX8_appendInt_8 ?_
  refine v_aload_n C dX8_appendInt_11 rfl 1 rfl ?_
  refine v_get (v := vI (F 0 2)) C inw_8 0 2 rfl (by decide) (List.mem_cons_of_mem _ mw_148) rfl rfl dX8_appendInt_12 ?_
  refine v_iload_n C dX8_appendInt_15 rfl 2 rfl ?_
  refine v_iload_n C dX8_appendInt_16 rfl 0 rfl ?_
  refine v_ishr (z := (iI v >>> (iI 24 &&& 31)).toInt) C dX8_appendInt_17 (iI_of _).symm ?_
  refine v_i2b (z := e v 24) C dX8_appendInt_18 (by rw [← he]; exact b8_b v 24) ?_
  refine v_bast C 1 rfl (by  omega) (by  omega) (by decide) (by rw [← he]; exact b8_nar) dX8_appendInt_19 (ws' := (mW (vG X) ad (up F 1 (up (F 1) (F 0 2) (e v 24))))) rfl ?_
  refine v_aload_n C dX8_appendInt_20 rfl 1 rfl ?_
  refine v_dup C dX8_appendInt_21 rfl ?_
  refine v_get (v := vI (F 0 2)) C inw_8 0 2 rfl (by decide) (List.mem_cons_of_mem _ mw_148) rfl rfl dX8_appendInt_22 ?_
  refine v_iconst C dX8_appendInt_25 ?_
  refine v_iadd C dX8_appendInt_26 ?_
  refine v_put C inw_8 tyX8 tyX8_ok nmX8 0 2 rfl (by decide) (List.mem_cons_of_mem _ mw_148) rfl rfl rfl rfl (Nat.le_of_ble_eq_true rfl) dX8_appendInt_27 (ws' := (mW (vG X) ad (up (up F 0 (up (F 0) 2 ((F 0 2) + 1))) 1 (up (F 1) (F 0 2) (e v 24))))) rfl ?_
  refine v_iinc C M dX8_appendInt_30 0 rfl (by decide) (z' := 16) rfl (L' := [(2, vI 16), (0, .ref (ad 0)), (1, vI v)]) rfl ?_
  refine v_goto (tgt := 3) C dX8_appendInt_33 (by decide) ?_
  refine v_iload_n C dX8_appendInt_3 rfl 0 rfl ?_
  refine v_if_lt (tgt := 36) C dX8_appendInt_4 (by decide) (by decide) (fun c => absurd c (by decide)) (fun _ => ?_)
  refine v_aload_n C dX8_appendInt_7 rfl 1 rfl ?_
  refine v_get (v := .ref (ad 1)) C inw_8 0 1 rfl (by decide) (List.mem_cons_of_mem _ mw_104) rfl rfl dX8_appendInt_8 ?_
  refine v_aload_n C dX8_appendInt_11 rfl 1 rfl ?_
  refine v_get (v := vI ((F 0 2) + 1)) C inw_8 0 2 rfl (by decide) (List.mem_cons_of_mem _ mw_148) rfl rfl dX8_appendInt_12 ?_
  refine v_iload_n C dX8_appendInt_15 rfl 2 rfl ?_
  refine v_iload_n C dX8_appendInt_16 rfl 0 rfl ?_
  refine v_ishr (z := (iI v >>> (iI 16 &&& 31)).toInt) C dX8_appendInt_17 (iI_of _).symm ?_
  refine v_i2b (z := e v 16) C dX8_appendInt_18 (by rw [← he]; exact b8_b v 16) ?_
  refine v_bast C 1 rfl (by  omega) (by  omega) (by decide) (by rw [← he]; exact b8_nar) dX8_appendInt_19 (ws' := (mW (vG X) ad (up (up F 0 (up (F 0) 2 ((F 0 2) + 1))) 1 (up (up (F 1) (F 0 2) (e v 24)) ((F 0 2) + 1) (e v 16))))) rfl ?_
  refine v_aload_n C dX8_appendInt_20 rfl 1 rfl ?_
  refine v_dup C dX8_appendInt_21 rfl ?_
  refine v_get (v := vI ((F 0 2) + 1)) C inw_8 0 2 rfl (by decide) (List.mem_cons_of_mem _ mw_148) rfl rfl dX8_appendInt_22 ?_
  refine v_iconst C dX8_appendInt_25 ?_
  refine v_iadd C dX8_appendInt_26 ?_
  refine v_put C inw_8 tyX8 tyX8_ok nmX8 0 2 rfl (by decide) (List.mem_cons_of_mem _ mw_148) rfl rfl rfl rfl (Nat.le_of_ble_eq_true rfl) dX8_appendInt_27 (ws' := (mW (vG X) ad (up (up F 0 (up (F 0) 2 (((F 0 2) + 1) + 1))) 1 (up (up (F 1) (F 0 2) (e v 24)) ((F 0 2) + 1) (e v 16))))) rfl ?_
  refine v_iinc C M dX8_appendInt_30 0 rfl (by decide) (z' := 8) rfl (L' := [(2, vI 8), (0, .ref (ad 0)), (1, vI v)]) rfl ?_
  refine v_goto (tgt := 3) C dX8_appendInt_33 (by decide) ?_
  refine v_iload_n C dX8_appendInt_3 rfl 0 rfl ?_
  refine v_if_lt (tgt := 36) C dX8_appendInt_4 (by decide) (by decide) (fun c => absurd c (by decide)) (fun _ => ?_)
  refine v_aload_n C dX8_appendInt_7 rfl 1 rfl ?_
  refine v_get (v := .ref (ad 1)) C inw_8 0 1 rfl (by decide) (List.mem_cons_of_mem _ mw_104) rfl rfl dX8_appendInt_8 ?_
  refine v_aload_n C dX8_appendInt_11 rfl 1 rfl ?_
  refine v_get (v := vI (((F 0 2) + 1) + 1)) C inw_8 0 2 rfl (by decide) (List.mem_cons_of_mem _ mw_148) rfl rfl dX8_appendInt_12 ?_
  refine v_iload_n C dX8_appendInt_15 rfl 2 rfl ?_
  refine v_iload_n C dX8_appendInt_16 rfl 0 rfl ?_
  refine v_ishr (z := (iI v >>> (iI 8 &&& 31)).toInt) C dX8_appendInt_17 (iI_of _).symm ?_
  refine v_i2b (z := e v 8) C dX8_appendInt_18 (by rw [← he]; exact b8_b v 8) ?_
  refine v_bast C 1 rfl (by  omega) (by  omega) (by decide) (by rw [← he]; exact b8_nar) dX8_appendInt_19 (ws' := (mW (vG X) ad (up (up F 0 (up (F 0) 2 (((F 0 2) + 1) + 1))) 1 (up (up (up (F 1) (F 0 2) (e v 24)) ((F 0 2) + 1) (e v 16)) (((F 0 2) + 1) + 1) (e v 8))))) rfl ?_
  refine v_aload_n C dX8_appendInt_20 rfl 1 rfl ?_
  refine v_dup C dX8_appendInt_21 rfl ?_
  refine v_get (v := vI (((F 0 2) + 1) + 1)) C inw_8 0 2 rfl (by decide) (List.mem_cons_of_mem _ mw_148) rfl rfl dX8_appendInt_22 ?_
  refine v_iconst C dX8_appendInt_25 ?_
  refine v_iadd C dX8_appendInt_26 ?_
  refine v_put C inw_8 tyX8 tyX8_ok nmX8 0 2 rfl (by decide) (List.mem_cons_of_mem _ mw_148) rfl rfl rfl rfl (Nat.le_of_ble_eq_true rfl) dX8_appendInt_27 (ws' := (mW (vG X) ad (up (up F 0 (up (F 0) 2 ((((F 0 2) + 1) + 1) + 1))) 1 (up (up (up (F 1) (F 0 2) (e v 24)) ((F 0 2) + 1) (e v 16)) (((F 0 2) + 1) + 1) (e v 8))))) rfl ?_
  refine v_iinc C M dX8_appendInt_30 0 rfl (by decide) (z' := 0) rfl (L' := [(2, vI 0), (0, .ref (ad 0)), (1, vI v)]) rfl ?_
  refine v_goto (tgt := 3) C dX8_appendInt_33 (by decide) ?_
  refine v_iload_n C dX8_appendInt_3 rfl 0 rfl ?_
  refine v_if_lt (tgt := 36) C dX8_appendInt_4 (by decide) (by decide) (fun c => absurd c (by decide)) (fun _ => ?_)
  refine v_aload_n C dX8_appendInt_7 rfl 1 rfl ?_
  refine v_get (v := .ref (ad 1)) C inw_8 0 1 rfl (by decide) (List.mem_cons_of_mem _ mw_104) rfl rfl dX8_appendInt_8 ?_
  refine v_aload_n C dX8_appendInt_11 rfl 1 rfl ?_
  refine v_get (v := vI ((((F 0 2) + 1) + 1) + 1)) C inw_8 0 2 rfl (by decide) (List.mem_cons_of_mem _ mw_148) rfl rfl dX8_appendInt_12 ?_
  refine v_iload_n C dX8_appendInt_15 rfl 2 rfl ?_
  refine v_iload_n C dX8_appendInt_16 rfl 0 rfl ?_
  refine v_ishr (z := (iI v >>> (iI 0 &&& 31)).toInt) C dX8_appendInt_17 (iI_of _).symm ?_
  refine v_i2b (z := e v 0) C dX8_appendInt_18 (by rw [← he]; exact b8_b v 0) ?_
  refine v_bast C 1 rfl (by  omega) (by  omega) (by decide) (by rw [← he]; exact b8_nar) dX8_appendInt_19 (ws' := (mW (vG X) ad (up (up F 0 (up (F 0) 2 ((((F 0 2) + 1) + 1) + 1))) 1 (up (up (up (up (F 1) (F 0 2) (e v 24)) ((F 0 2) + 1) (e v 16)) (((F 0 2) + 1) + 1) (e v 8)) ((((F 0 2) + 1) + 1) + 1) (e v 0))))) rfl ?_
  refine v_aload_n C dX8_appendInt_20 rfl 1 rfl ?_
  refine v_dup C dX8_appendInt_21 rfl ?_
  refine v_get (v := vI ((((F 0 2) + 1) + 1) + 1)) C inw_8 0 2 rfl (by decide) (List.mem_cons_of_mem _ mw_148) rfl rfl dX8_appendInt_22 ?_
  refine v_iconst C dX8_appendInt_25 ?_
  refine v_iadd C dX8_appendInt_26 ?_
  refine v_put C inw_8 tyX8 tyX8_ok nmX8 0 2 rfl (by decide) (List.mem_cons_of_mem _ mw_148) rfl rfl rfl rfl (Nat.le_of_ble_eq_true rfl) dX8_appendInt_27 (ws' := (mW (vG X) ad (up (up F 0 (up (F 0) 2 (((((F 0 2) + 1) + 1) + 1) + 1))) 1 (up (up (up (up (F 1) (F 0 2) (e v 24)) ((F 0 2) + 1) (e v 16)) (((F 0 2) + 1) + 1) (e v 8)) ((((F 0 2) + 1) + 1) + 1) (e v 0))))) rfl ?_
  refine v_iinc C M dX8_appendInt_30 0 rfl (by decide) (z' := (-8)) rfl (L' := [(2, vI (-8)), (0, .ref (ad 0)), (1, vI v)]) rfl ?_
  refine v_goto (tgt := 3) C dX8_appendInt_33 (by decide) ?_
  refine v_iload_n C dX8_appendInt_3 rfl 0 rfl ?_
  refine v_if_lt (tgt := 36) C dX8_appendInt_4 (by decide) (by decide) (fun _ => ?_) (fun c => absurd (by decide) c)
  exact v_vret C E rfl dX8_appendInt_36 (by decide) (by decide) (⟨rfl, by rw [show F 0 2 + 1 + 1 + 1 + 1 = F 0 2 + 4 by omega, show F 0 2 + 1 + 1 + 1 = F 0 2 + 3 by omega, show F 0 2 + 1 + 1 = F 0 2 + 2 by omega]⟩)
end M8b
