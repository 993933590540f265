section J1
set_option maxHeartbeats 4000000 in
set_option maxRecDepth 100000 in
theorem c_J6_stringSize_0f7a4 (G : GG) (l : Launch) (v : Int) (h0 : 0 ≤ v) (h1 : v ≤ 255) : Ct G l yJ6_stringSize_0f7a4 (Cond.code yJ6_stringSize_0f7a4 cJ6_stringSize_0f7a4 4 (some .int) :: wsL_law) 0 0 0 0 [vI v] ([]) (fun r w => r = some (vI (szI v)) ∧ w = []) := by
  refine Ct.of (own := RJ6) (cc := cJ6_stringSize_0f7a4) (maxL := 4) (ret := (some .int)) (by decide) rfl rfl (Nat.le_of_ble_eq_true rfl) (fun X C E M hG hl => ?_)
  subst hG hl
  refine v_iconst C dJ6_stringSize_0f7a4_0 ?_
  refine v_istore_n C M dJ6_stringSize_0f7a4_1 rfl (by decide) (L' := [(1, vI 1), (0, vI v)]) rfl ?_
  refine v_iload_n C dJ6_stringSize_0f7a4_2 rfl 1 rfl ?_
  refine v_if_lt (tgt := 11) C dJ6_stringSize_0f7a4_3 (by decide) (by  first | assumption | exact ⟨by omega, by omega⟩) (fun c3 => ?_) (fun c3 => ?_)
  · skip
    exact absurd c3 (by omega)
  · skip
    refine v_iconst C dJ6_stringSize_0f7a4_6 ?_
    refine v_istore_n C M dJ6_stringSize_0f7a4_7 rfl (by decide) (L' := [(1, vI 0), (0, vI v)]) rfl ?_
    refine v_iload_n C dJ6_stringSize_0f7a4_8 rfl 1 rfl ?_
    refine v_ineg (z := v) (z' := (0 - v)) C (by omega) dJ6_stringSize_0f7a4_9 ?_
    refine v_istore_n C M dJ6_stringSize_0f7a4_10 rfl (by decide) (L' := [(0, vI (0 - v)), (1, vI 0)]) rfl ?_
    refine v_bipush C dJ6_stringSize_0f7a4_11 (by decide +kernel) ?_
    refine v_istore_n C M dJ6_stringSize_0f7a4_13 rfl (by decide) (L' := [(2, vI (-10)), (0, vI (0 - v)), (1, vI 0)]) rfl ?_
    refine v_iconst C dJ6_stringSize_0f7a4_14 ?_
    refine v_istore_n C M dJ6_stringSize_0f7a4_15 rfl (by decide) (L' := [(3, vI 1), (2, vI (-10)), (0, vI (0 - v)), (1, vI 0)]) rfl ?_
    refine v_iload_n C dJ6_stringSize_0f7a4_16 rfl 0 rfl ?_
    refine v_bipush C dJ6_stringSize_0f7a4_17 (by decide +kernel) ?_
    refine v_icmp_ge (tgt := 42) C dJ6_stringSize_0f7a4_19 (by decide) (by decide) (by decide) (fun c => absurd c (by decide)) (fun _ => ?_)
    refine v_iload_n C dJ6_stringSize_0f7a4_22 rfl 2 rfl ?_
    refine v_iload_n C dJ6_stringSize_0f7a4_23 rfl 1 rfl ?_
    refine v_icmp_le (tgt := 31) C dJ6_stringSize_0f7a4_24 (by decide) (by  first | assumption | exact ⟨by omega, by omega⟩) (by decide) (fun c24 => ?_) (fun c24 => ?_)
    · skip
      refine v_bipush C dJ6_stringSize_0f7a4_31 (by decide +kernel) ?_
      refine v_iload_n C dJ6_stringSize_0f7a4_33 rfl 1 rfl ?_
      refine v_imul C dJ6_stringSize_0f7a4_34 ?_
      show V X 0 0 35 [(3, vI 1), (2, vI (-10)), (0, vI (0 - v)), (1, vI 0)] [vI (-100)] ([])
      refine v_istore_n C M dJ6_stringSize_0f7a4_35 rfl (by decide) (L' := [(2, vI (-100)), (3, vI 1), (0, vI (0 - v)), (1, vI 0)]) rfl ?_
      refine v_iinc C M dJ6_stringSize_0f7a4_36 1 rfl (by decide) (z' := 2) rfl (L' := [(3, vI 2), (2, vI (-100)), (0, vI (0 - v)), (1, vI 0)]) rfl ?_
      refine v_goto (tgt := 16) C dJ6_stringSize_0f7a4_39 (by decide) ?_
      refine v_iload_n C dJ6_stringSize_0f7a4_16 rfl 0 rfl ?_
      refine v_bipush C dJ6_stringSize_0f7a4_17 (by decide +kernel) ?_
      refine v_icmp_ge (tgt := 42) C dJ6_stringSize_0f7a4_19 (by decide) (by decide) (by decide) (fun c => absurd c (by decide)) (fun _ => ?_)
      refine v_iload_n C dJ6_stringSize_0f7a4_22 rfl 2 rfl ?_
      refine v_iload_n C dJ6_stringSize_0f7a4_23 rfl 1 rfl ?_
      refine v_icmp_le (tgt := 31) C dJ6_stringSize_0f7a4_24 (by decide) (by  first | assumption | exact ⟨by omega, by omega⟩) (by decide) (fun c24 => ?_) (fun c24 => ?_)
      · skip
        refine v_bipush C dJ6_stringSize_0f7a4_31 (by decide +kernel) ?_
        refine v_iload_n C dJ6_stringSize_0f7a4_33 rfl 1 rfl ?_
        refine v_imul C dJ6_stringSize_0f7a4_34 ?_
        show V X 0 0 35 [(3, vI 2), (2, vI (-100)), (0, vI (0 - v)), (1, vI 0)] [vI (-1000)] ([])
        refine v_istore_n C M dJ6_stringSize_0f7a4_35 rfl (by decide) (L' := [(2, vI (-1000)), (3, vI 2), (0, vI (0 - v)), (1, vI 0)]) rfl ?_
        refine v_iinc C M dJ6_stringSize_0f7a4_36 1 rfl (by decide) (z' := 3) rfl (L' := [(3, vI 3), (2, vI (-1000)), (0, vI (0 - v)), (1, vI 0)]) rfl ?_
        refine v_goto (tgt := 16) C dJ6_stringSize_0f7a4_39 (by decide) ?_
        refine v_iload_n C dJ6_stringSize_0f7a4_16 rfl 0 rfl ?_
        refine v_bipush C dJ6_stringSize_0f7a4_17 (by decide +kernel) ?_
        refine v_icmp_ge (tgt := 42) C dJ6_stringSize_0f7a4_19 (by decide) (by decide) (by decide) (fun c => absurd c (by decide)) (fun _ => ?_)
        refine v_iload_n C dJ6_stringSize_0f7a4_22 rfl 2 rfl ?_
        refine v_iload_n C dJ6_stringSize_0f7a4_23 rfl 1 rfl ?_
        refine v_icmp_le (tgt := 31) C dJ6_stringSize_0f7a4_24 (by decide) (by  first | assumption | exact ⟨by omega, by omega⟩) (by decide) (fun c24 => ?_) (fun c24 => ?_)
        · skip
          exact absurd c24 (by omega)
        · skip
          refine v_iload_n C dJ6_stringSize_0f7a4_27 rfl 0 rfl ?_
          refine v_iload_n C dJ6_stringSize_0f7a4_28 rfl 3 rfl ?_
          refine v_iadd C dJ6_stringSize_0f7a4_29 ?_
          show V X 0 0 30 [(3, vI 3), (2, vI (-1000)), (0, vI (0 - v)), (1, vI 0)] [vI 3] ([])
          exact v_iret C E rfl dJ6_stringSize_0f7a4_30 (by decide) (by decide) (⟨by rw [show szI v = 3 by unfold szI; (repeat' split) <;> omega], rfl⟩)
      · skip
        refine v_iload_n C dJ6_stringSize_0f7a4_27 rfl 0 rfl ?_
        refine v_iload_n C dJ6_stringSize_0f7a4_28 rfl 3 rfl ?_
        refine v_iadd C dJ6_stringSize_0f7a4_29 ?_
        show V X 0 0 30 [(3, vI 2), (2, vI (-100)), (0, vI (0 - v)), (1, vI 0)] [vI 2] ([])
        exact v_iret C E rfl dJ6_stringSize_0f7a4_30 (by decide) (by decide) (⟨by rw [show szI v = 2 by unfold szI; (repeat' split) <;> omega], rfl⟩)
    · skip
      refine v_iload_n C dJ6_stringSize_0f7a4_27 rfl 0 rfl ?_
      refine v_iload_n C dJ6_stringSize_0f7a4_28 rfl 3 rfl ?_
      refine v_iadd C dJ6_stringSize_0f7a4_29 ?_
      show V X 0 0 30 [(3, vI 1), (2, vI (-10)), (0, vI (0 - v)), (1, vI 0)] [vI 1] ([])
      exact v_iret C E rfl dJ6_stringSize_0f7a4_30 (by decide) (by decide) (⟨by rw [show szI v = 1 by unfold szI; (repeat' split) <;> omega], rfl⟩)
set_option maxHeartbeats 4000000 in
set_option maxRecDepth 100000 in
theorem c_J6_getChars_ba4f3 (G : GG) (l : Launch) (a cap : Nat) (f : Int → Int) (v e : Int) (h0 : 0 ≤ v) (h1 : v ≤ 255) (he : szI v ≤ e) (hc : e ≤ (cap : Int)) (hcap : cap ≤ 1000) : Ct G l yJ6_getChars_ba4f3 (Cond.code yJ6_getChars_ba4f3 cJ6_getChars_ba4f3 7 (some .int) :: wsL_law) 0 0 0 0 [vI v, vI e, .ref a] ([(a, .inl (G.2 0, cap, .inl (fI f)))]) (fun r w => ∃ z : Int, r = some (vI z) ∧ w = [(a, .inl (G.2 0, cap, .inl (fI (wdI f v e))))]) := by
  refine Ct.of (own := RJ6) (cc := cJ6_getChars_ba4f3) (maxL := 7) (ret := (some .int)) (by decide) rfl rfl (Nat.le_of_ble_eq_true rfl) (fun X C E M hG hl => ?_)
  subst hG hl
  have hzv := szI_v (v := v)
  refine v_iload_n C dJ6_getChars_ba4f3_0 rfl 1 rfl ?_
  refine v_istore C M dJ6_getChars_ba4f3_1 (by decide) (L' := [(5, vI e), (0, vI v), (1, vI e), (2, .ref a)]) rfl ?_
  refine v_iload_n C dJ6_getChars_ba4f3_3 rfl 1 rfl ?_
  refine v_if_ge (tgt := 11) C dJ6_getChars_ba4f3_4 (by decide) (by  first | assumption | exact ⟨by omega, by omega⟩) (fun c4 => ?_) (fun c4 => ?_)
  · skip
    refine v_iconst C dJ6_getChars_ba4f3_11 ?_
    refine v_istore C M dJ6_getChars_ba4f3_12 (by decide) (L' := [(6, vI 0), (5, vI e), (0, vI v), (1, vI e), (2, .ref a)]) rfl ?_
    refine v_iload C dJ6_getChars_ba4f3_14 0 rfl ?_
    refine v_if_ne (tgt := 22) C dJ6_getChars_ba4f3_16 (by decide) (by decide) (fun c => absurd (by decide) c) (fun _ => ?_)
    refine v_iload_n C dJ6_getChars_ba4f3_19 rfl 2 rfl ?_
    refine v_ineg (z := v) (z' := (0 - v)) C (by omega) dJ6_getChars_ba4f3_20 ?_
    refine v_istore_n C M dJ6_getChars_ba4f3_21 rfl (by decide) (L' := [(0, vI (0 - v)), (6, vI 0), (5, vI e), (1, vI e), (2, .ref a)]) rfl ?_
    refine v_iload_n C dJ6_getChars_ba4f3_22 rfl 0 rfl ?_
    refine v_bipush C dJ6_getChars_ba4f3_23 (by decide +kernel) ?_
    refine v_icmp_gt (tgt := 72) C dJ6_getChars_ba4f3_25 (by decide) (by  first | assumption | exact ⟨by omega, by omega⟩) (by decide) (fun c25 => ?_) (fun c25 => ?_)
    · skip
      refine v_aload_n C dJ6_getChars_ba4f3_72 rfl 4 rfl ?_
      refine v_iinc C M dJ6_getChars_ba4f3_73 2 rfl (by decide) (z' := (e + (-1))) rfl (L' := [(5, vI (e + (-1))), (0, vI (0 - v)), (6, vI 0), (1, vI e), (2, .ref a)]) rfl ?_
      refine v_iload C dJ6_getChars_ba4f3_76 0 rfl ?_
      refine v_getD1 C (List.mem_cons_of_mem _ mw_396) dJ6_getChars_ba4f3_78 ?_
      refine v_iload_n C dJ6_getChars_ba4f3_81 rfl 1 rfl ?_
      refine v_ineg (z := (0 - v)) (z' := v) C (by omega) dJ6_getChars_ba4f3_82 ?_
      refine v_baldD1 (z := v) C (by omega) (by omega) dJ6_getChars_ba4f3_83 ?_
      refine v_bast C 0 rfl (show (0 : Int) ≤ (e + (-1)) by omega) (show ((e + (-1)) : Int) < ((cap : Nat) : Int) by omega) (by omega) (nar_b (show 0 ≤ (dg1 (v).toNat) ∧ (dg1 (v).toNat) < 128 by unfold dg1; omega)) dJ6_getChars_ba4f3_84 (ws' := [(a, .inl ((vG X).2 0, cap, .inl (fI (up f (e + (-1)) (dg1 (v).toNat)))))]) rfl ?_
      refine v_iload_n C dJ6_getChars_ba4f3_85 rfl 1 rfl ?_
      refine v_bipush C dJ6_getChars_ba4f3_86 (by decide +kernel) ?_
      refine v_icmp_ge (tgt := 104) C dJ6_getChars_ba4f3_88 (by decide) (by  first | assumption | exact ⟨by omega, by omega⟩) (by decide) (fun c88 => ?_) (fun c88 => ?_)
      · skip
        refine v_iload C dJ6_getChars_ba4f3_104 2 rfl ?_
        refine v_if_eq (tgt := 118) C dJ6_getChars_ba4f3_106 (by decide) (by decide) (fun _ => ?_) (fun c => absurd (by decide) c)
        refine v_iload C dJ6_getChars_ba4f3_118 0 rfl ?_
        have hsz : szI v = 1 := by unfold szI; (repeat' split) <;> omega
        have hw := wd_1 h0 (by omega) (f := f) (e := e)
        rw [show (up f (e + (-1)) (dg1 (v).toNat)) = wdI f v e from hw]
        exact v_iret C E rfl dJ6_getChars_ba4f3_120 (by decide) (by decide) (⟨_, rfl, rfl⟩)
      · skip
        refine v_aload_n C dJ6_getChars_ba4f3_91 rfl 4 rfl ?_
        refine v_iinc C M dJ6_getChars_ba4f3_92 0 rfl (by decide) (z' := ((e + (-1)) + (-1))) rfl (L' := [(5, vI ((e + (-1)) + (-1))), (0, vI (0 - v)), (6, vI 0), (1, vI e), (2, .ref a)]) rfl ?_
        refine v_iload C dJ6_getChars_ba4f3_95 0 rfl ?_
        refine v_getD2 C (List.mem_cons_of_mem _ mw_397) dJ6_getChars_ba4f3_97 ?_
        refine v_iload_n C dJ6_getChars_ba4f3_100 rfl 1 rfl ?_
        refine v_ineg (z := (0 - v)) (z' := v) C (by omega) dJ6_getChars_ba4f3_101 ?_
        refine v_baldD2 (z := v) C (by omega) (by omega) dJ6_getChars_ba4f3_102 ?_
        refine v_bast C 0 rfl (show (0 : Int) ≤ ((e + (-1)) + (-1)) by omega) (show (((e + (-1)) + (-1)) : Int) < ((cap : Nat) : Int) by omega) (by omega) (nar_b (show 0 ≤ (dg2 (v).toNat) ∧ (dg2 (v).toNat) < 128 by unfold dg2; omega)) dJ6_getChars_ba4f3_103 (ws' := [(a, .inl ((vG X).2 0, cap, .inl (fI (up (up f (e + (-1)) (dg1 (v).toNat)) ((e + (-1)) + (-1)) (dg2 (v).toNat)))))]) rfl ?_
        refine v_iload C dJ6_getChars_ba4f3_104 2 rfl ?_
        refine v_if_eq (tgt := 118) C dJ6_getChars_ba4f3_106 (by decide) (by decide) (fun _ => ?_) (fun c => absurd (by decide) c)
        refine v_iload C dJ6_getChars_ba4f3_118 0 rfl ?_
        have hsz : szI v = 2 := by unfold szI; (repeat' split) <;> omega
        have hw := wd_2 h0 (by omega) (by omega) (f := f) (e := e)
        rw [show (up (up f (e + (-1)) (dg1 (v).toNat)) ((e + (-1)) + (-1)) (dg2 (v).toNat)) = wdI f v e from hw]
        exact v_iret C E rfl dJ6_getChars_ba4f3_120 (by decide) (by decide) (⟨_, rfl, rfl⟩)
    · skip
      refine v_iload_n C dJ6_getChars_ba4f3_28 rfl 0 rfl ?_
      refine v_bipush C dJ6_getChars_ba4f3_29 (by decide +kernel) ?_
      refine v_idiv (z := (0 - v / 100)) C dJ6_getChars_ba4f3_31 (by decide +kernel) (dv100 h0 h1) ?_
      refine v_istore_n C M dJ6_getChars_ba4f3_32 rfl (by decide) (L' := [(3, vI (0 - v / 100)), (0, vI (0 - v)), (6, vI 0), (5, vI e), (1, vI e), (2, .ref a)]) rfl ?_
      refine v_iload_n C dJ6_getChars_ba4f3_33 rfl 0 rfl ?_
      refine v_bipush C dJ6_getChars_ba4f3_34 (by decide +kernel) ?_
      refine v_imul C dJ6_getChars_ba4f3_36 ?_
      refine v_iload_n C dJ6_getChars_ba4f3_37 rfl 1 rfl ?_
      refine v_isub C dJ6_getChars_ba4f3_38 ?_
      refine v_istore C M dJ6_getChars_ba4f3_39 (by decide) (L' := [(4, vI (((0 - v / 100) * 100) - (0 - v))), (3, vI (0 - v / 100)), (0, vI (0 - v)), (6, vI 0), (5, vI e), (1, vI e), (2, .ref a)]) rfl ?_
      refine v_iload_n C dJ6_getChars_ba4f3_41 rfl 1 rfl ?_
      refine v_istore_n C M dJ6_getChars_ba4f3_42 rfl (by decide) (L' := [(0, vI (0 - v / 100)), (4, vI (((0 - v / 100) * 100) - (0 - v))), (3, vI (0 - v / 100)), (6, vI 0), (5, vI e), (1, vI e), (2, .ref a)]) rfl ?_
      refine v_aload_n C dJ6_getChars_ba4f3_43 rfl 6 rfl ?_
      refine v_iinc C M dJ6_getChars_ba4f3_44 4 rfl (by decide) (z' := (e + (-1))) rfl (L' := [(5, vI (e + (-1))), (0, vI (0 - v / 100)), (4, vI (((0 - v / 100) * 100) - (0 - v))), (3, vI (0 - v / 100)), (6, vI 0), (1, vI e), (2, .ref a)]) rfl ?_
      refine v_iload C dJ6_getChars_ba4f3_47 0 rfl ?_
      refine v_getD1 C (List.mem_cons_of_mem _ mw_396) dJ6_getChars_ba4f3_49 ?_
      refine v_iload C dJ6_getChars_ba4f3_52 2 rfl ?_
      refine v_baldD1 (z := (((0 - v / 100) * 100) - (0 - v))) C (by omega) (by omega) dJ6_getChars_ba4f3_54 ?_
      refine v_bast C 0 rfl (show (0 : Int) ≤ (e + (-1)) by omega) (show ((e + (-1)) : Int) < ((cap : Nat) : Int) by omega) (by omega) (nar_b (show 0 ≤ (dg1 ((((0 - v / 100) * 100) - (0 - v))).toNat) ∧ (dg1 ((((0 - v / 100) * 100) - (0 - v))).toNat) < 128 by unfold dg1; omega)) dJ6_getChars_ba4f3_55 (ws' := [(a, .inl ((vG X).2 0, cap, .inl (fI (up f (e + (-1)) (dg1 ((((0 - v / 100) * 100) - (0 - v))).toNat)))))]) rfl ?_
      refine v_aload_n C dJ6_getChars_ba4f3_56 rfl 6 rfl ?_
      refine v_iinc C M dJ6_getChars_ba4f3_57 0 rfl (by decide) (z' := ((e + (-1)) + (-1))) rfl (L' := [(5, vI ((e + (-1)) + (-1))), (0, vI (0 - v / 100)), (4, vI (((0 - v / 100) * 100) - (0 - v))), (3, vI (0 - v / 100)), (6, vI 0), (1, vI e), (2, .ref a)]) rfl ?_
      refine v_iload C dJ6_getChars_ba4f3_60 0 rfl ?_
      refine v_getD2 C (List.mem_cons_of_mem _ mw_397) dJ6_getChars_ba4f3_62 ?_
      refine v_iload C dJ6_getChars_ba4f3_65 2 rfl ?_
      refine v_baldD2 (z := (((0 - v / 100) * 100) - (0 - v))) C (by omega) (by omega) dJ6_getChars_ba4f3_67 ?_
      refine v_bast C 0 rfl (show (0 : Int) ≤ ((e + (-1)) + (-1)) by omega) (show (((e + (-1)) + (-1)) : Int) < ((cap : Nat) : Int) by omega) (by omega) (nar_b (show 0 ≤ (dg2 ((((0 - v / 100) * 100) - (0 - v))).toNat) ∧ (dg2 ((((0 - v / 100) * 100) - (0 - v))).toNat) < 128 by unfold dg2; omega)) dJ6_getChars_ba4f3_68 (ws' := [(a, .inl ((vG X).2 0, cap, .inl (fI (up (up f (e + (-1)) (dg1 ((((0 - v / 100) * 100) - (0 - v))).toNat)) ((e + (-1)) + (-1)) (dg2 ((((0 - v / 100) * 100) - (0 - v))).toNat)))))]) rfl ?_
      refine v_goto (tgt := 22) C dJ6_getChars_ba4f3_69 (by decide) ?_
      refine v_iload_n C dJ6_getChars_ba4f3_22 rfl 1 rfl ?_
      refine v_bipush C dJ6_getChars_ba4f3_23 (by decide +kernel) ?_
      refine v_icmp_gt (tgt := 72) C dJ6_getChars_ba4f3_25 (by decide) (by  first | assumption | exact ⟨by omega, by omega⟩) (by decide) (fun c25 => ?_) (fun c25 => ?_)
      · skip
        refine v_aload_n C dJ6_getChars_ba4f3_72 rfl 6 rfl ?_
        refine v_iinc C M dJ6_getChars_ba4f3_73 0 rfl (by decide) (z' := (((e + (-1)) + (-1)) + (-1))) rfl (L' := [(5, vI (((e + (-1)) + (-1)) + (-1))), (0, vI (0 - v / 100)), (4, vI (((0 - v / 100) * 100) - (0 - v))), (3, vI (0 - v / 100)), (6, vI 0), (1, vI e), (2, .ref a)]) rfl ?_
        refine v_iload C dJ6_getChars_ba4f3_76 0 rfl ?_
        refine v_getD1 C (List.mem_cons_of_mem _ mw_396) dJ6_getChars_ba4f3_78 ?_
        refine v_iload_n C dJ6_getChars_ba4f3_81 rfl 1 rfl ?_
        refine v_ineg (z := (0 - v / 100)) (z' := (0 - (0 - v / 100))) C (by omega) dJ6_getChars_ba4f3_82 ?_
        refine v_baldD1 (z := (0 - (0 - v / 100))) C (by omega) (by omega) dJ6_getChars_ba4f3_83 ?_
        refine v_bast C 0 rfl (show (0 : Int) ≤ (((e + (-1)) + (-1)) + (-1)) by omega) (show ((((e + (-1)) + (-1)) + (-1)) : Int) < ((cap : Nat) : Int) by omega) (by omega) (nar_b (show 0 ≤ (dg1 ((0 - (0 - v / 100))).toNat) ∧ (dg1 ((0 - (0 - v / 100))).toNat) < 128 by unfold dg1; omega)) dJ6_getChars_ba4f3_84 (ws' := [(a, .inl ((vG X).2 0, cap, .inl (fI (up (up (up f (e + (-1)) (dg1 ((((0 - v / 100) * 100) - (0 - v))).toNat)) ((e + (-1)) + (-1)) (dg2 ((((0 - v / 100) * 100) - (0 - v))).toNat)) (((e + (-1)) + (-1)) + (-1)) (dg1 ((0 - (0 - v / 100))).toNat)))))]) rfl ?_
        refine v_iload_n C dJ6_getChars_ba4f3_85 rfl 1 rfl ?_
        refine v_bipush C dJ6_getChars_ba4f3_86 (by decide +kernel) ?_
        refine v_icmp_ge (tgt := 104) C dJ6_getChars_ba4f3_88 (by decide) (by  first | assumption | exact ⟨by omega, by omega⟩) (by decide) (fun c88 => ?_) (fun c88 => ?_)
        · skip
          refine v_iload C dJ6_getChars_ba4f3_104 4 rfl ?_
          refine v_if_eq (tgt := 118) C dJ6_getChars_ba4f3_106 (by decide) (by decide) (fun _ => ?_) (fun c => absurd (by decide) c)
          refine v_iload C dJ6_getChars_ba4f3_118 0 rfl ?_
          have hsz : szI v = 3 := by unfold szI; (repeat' split) <;> omega
          have hw := wd_3 h0 h1 (by omega) (f := f) (e := e)
          rw [show (up (up (up f (e + (-1)) (dg1 ((((0 - v / 100) * 100) - (0 - v))).toNat)) ((e + (-1)) + (-1)) (dg2 ((((0 - v / 100) * 100) - (0 - v))).toNat)) (((e + (-1)) + (-1)) + (-1)) (dg1 ((0 - (0 - v / 100))).toNat)) = wdI f v e from hw]
          exact v_iret C E rfl dJ6_getChars_ba4f3_120 (by decide) (by decide) (⟨_, rfl, rfl⟩)
        · skip
          exact absurd c88 (by omega)
      · skip
        exact absurd c25 (by omega)
  · skip
    exact absurd c4 (by omega)
set_option maxHeartbeats 4000000 in
set_option maxRecDepth 100000 in
theorem c_J8_newLength_cabcc (G : GG) (l : Launch) (o m q : Int) (h0 : 0 ≤ o ∧ o ≤ 1000) (h1 : 0 ≤ m ∧ m ≤ 2000) (h2 : 0 ≤ q ∧ q ≤ 2000) (h3 : 0 < o + (if m < q then q else m)) : Ct G l yJ8_newLength_cabcc (Cond.code yJ8_newLength_cabcc cJ8_newLength_cabcc 4 (some .int) :: wsL_law) 1 20 0 0 [vI o, vI m, vI q] ([]) (fun r w => r = some (vI (o + (if m < q then q else m))) ∧ w = []) := by
  refine Ct.of (own := RJ8) (cc := cJ8_newLength_cabcc) (maxL := 4) (ret := (some .int)) (by decide) rfl rfl (Nat.le_of_ble_eq_true rfl) (fun X C E M hG hl => ?_)
  subst hG hl
  refine v_iload_n C dJ8_newLength_cabcc_0 rfl 0 rfl ?_
  refine v_iload_n C dJ8_newLength_cabcc_1 rfl 1 rfl ?_
  refine v_iload_n C dJ8_newLength_cabcc_2 rfl 2 rfl ?_
  refine v_mmax C (by  first | assumption | exact ⟨by omega, by omega⟩) (by  first | assumption | exact ⟨by omega, by omega⟩) (List.mem_cons_of_mem _ mw_285) (List.mem_cons_of_mem _ mw_286) (List.mem_cons_of_mem _ mw_287) (List.mem_cons_of_mem _ mw_288) (by decide) rfl rfl rfl dJ8_newLength_cabcc_3 ?_
  refine v_iadd C dJ8_newLength_cabcc_6 ?_
  refine v_istore_n C M dJ8_newLength_cabcc_7 rfl (by decide) (L' := [(3, vI (o + (if m < q then q else m))), (0, vI o), (1, vI m), (2, vI q)]) rfl ?_
  refine v_iconst C dJ8_newLength_cabcc_8 ?_
  refine v_iload_n C dJ8_newLength_cabcc_9 rfl 0 rfl ?_
  have hm : (if m < q then q else m) ≤ 2000 := by split <;> omega
  generalize hgz : (if m < q then q else m) = z at *
  refine v_icmp_ge (tgt := 21) C dJ8_newLength_cabcc_10 (by decide) (by decide) ⟨by omega, by omega⟩ (fun c10 => absurd c10 (by omega)) (fun c10 => ?_)
  refine v_iload_n C dJ8_newLength_cabcc_13 rfl 0 rfl ?_
  refine v_ldcI (z := 2147483639) C (List.mem_cons_of_mem _ mw_289) (by decide +kernel) dJ8_newLength_cabcc_14 ?_
  refine v_icmp_gt (tgt := 21) C dJ8_newLength_cabcc_16 (by decide) ⟨by omega, by omega⟩ (by decide) (fun c16 => absurd c16 (by omega)) (fun c16 => ?_)
  refine v_iload_n C dJ8_newLength_cabcc_19 rfl 0 rfl ?_
  exact v_iret C E rfl dJ8_newLength_cabcc_20 (by decide) (by decide) ⟨rfl, rfl⟩
set_option maxHeartbeats 4000000 in
set_option maxRecDepth 100000 in
theorem c_J5_newCapacity_0f7a4 (G : GG) (l : Launch) (a v cap : Nat) (n : Int) (f : Int → Int) (m : Int) (hc : cap ≤ 499) (hm : (cap : Int) < m ∧ m ≤ 500) : Ct G l yJ5_newCapacity_0f7a4 (Cond.code yJ5_newCapacity_0f7a4 cJ5_newCapacity_0f7a4 6 (some .int) :: wsL_law) 2 43 0 0 [.ref a, vI m] ([(a, .inr (8, [.ref v, vI 0, vI 0, vI n])), (v, .inl (G.2 0, cap, .inl (fI f)))]) (fun r w => (∃ z : Int, r = some (vI z) ∧ m ≤ z ∧ z ≤ 1000 ∧ (cap : Int) < z) ∧ w = [(a, .inr (8, [.ref v, vI 0, vI 0, vI n])), (v, .inl (G.2 0, cap, .inl (fI f)))]) := by
  refine Ct.of (own := RJ5) (cc := cJ5_newCapacity_0f7a4) (maxL := 6) (ret := (some .int)) (by decide) rfl rfl (Nat.le_of_ble_eq_true rfl) (fun X C E M hG hl => ?_)
  subst hG hl
  refine v_aload_n C dJ5_newCapacity_0f7a4_0 rfl 0 rfl ?_
  refine v_get (v := .ref v) C inw_8 0 0 rfl (by decide) (List.mem_cons_of_mem _ mw_229) rfl rfl dJ5_newCapacity_0f7a4_1 ?_
  refine v_alen (z := (cap : Int)) C 1 0 rfl rfl (Int32.ofInt_eq_ofNat).symm dJ5_newCapacity_0f7a4_4 ?_
  refine v_istore_n C M dJ5_newCapacity_0f7a4_5 rfl (by decide) (L' := [(2, vI (cap : Int)), (0, .ref a), (1, vI m)]) rfl ?_
  refine v_iload_n C dJ5_newCapacity_0f7a4_6 rfl 2 rfl ?_
  refine v_aload_n C dJ5_newCapacity_0f7a4_7 rfl 1 rfl ?_
  refine v_get (v := vI 0) C inw_8 0 1 rfl (by decide) (List.mem_cons_of_mem _ mw_228) rfl rfl dJ5_newCapacity_0f7a4_8 ?_
  refine v_ishl (z := m) C dJ5_newCapacity_0f7a4_11 ishl0 ?_
  refine v_istore_n C M dJ5_newCapacity_0f7a4_12 rfl (by decide) (L' := [(3, vI m), (2, vI (cap : Int)), (0, .ref a), (1, vI m)]) rfl ?_
  refine v_iload_n C dJ5_newCapacity_0f7a4_13 rfl 0 rfl ?_
  refine v_iload_n C dJ5_newCapacity_0f7a4_14 rfl 1 rfl ?_
  refine v_isub C dJ5_newCapacity_0f7a4_15 ?_
  refine v_istore C M dJ5_newCapacity_0f7a4_16 (by decide) (L' := [(4, vI (m - (cap : Int))), (3, vI m), (2, vI (cap : Int)), (0, .ref a), (1, vI m)]) rfl ?_
  refine v_iload_n C dJ5_newCapacity_0f7a4_18 rfl 2 rfl ?_
  refine v_iload C dJ5_newCapacity_0f7a4_19 0 rfl ?_
  refine v_iload_n C dJ5_newCapacity_0f7a4_21 rfl 2 rfl ?_
  refine v_iconst C dJ5_newCapacity_0f7a4_22 ?_
  refine v_aload_n C dJ5_newCapacity_0f7a4_23 rfl 3 rfl ?_
  refine v_get (v := vI 0) C inw_8 0 1 rfl (by decide) (List.mem_cons_of_mem _ mw_228) rfl rfl dJ5_newCapacity_0f7a4_24 ?_
  refine v_ishl (z := 2) C dJ5_newCapacity_0f7a4_27 ishl0 ?_
  refine v_iadd C dJ5_newCapacity_0f7a4_28 ?_
  have hz : ((cap : Int) : Int) + (if (m - (cap : Int)) < ((cap : Int) + 2) then ((cap : Int) + 2) else (m - (cap : Int))) ≤ 1000 ∧ m ≤ (cap : Int) + (if (m - (cap : Int)) < ((cap : Int) + 2) then ((cap : Int) + 2) else (m - (cap : Int))) ∧ (cap : Int) < (cap : Int) + (if (m - (cap : Int)) < ((cap : Int) + 2) then ((cap : Int) + 2) else (m - (cap : Int))) := by split <;> omega
  refine v_callS (na := 3) (wy := (Cond.code yJ8_newLength_cabcc cJ8_newLength_cabcc 4 (some .int) :: wsL_law)) (wc := []) (wr := [(a, .inr (8, [.ref v, vI 0, vI 0, vI n])), (v, .inl ((vG X).2 0, cap, .inl (fI f)))]) C [vI (cap : Int), vI (m - (cap : Int)), vI ((cap : Int) + 2)] [] (c_J8_newLength_cabcc _ _ (cap : Int) (m - (cap : Int)) ((cap : Int) + 2) (by omega) (by omega) (by omega) (by omega)) rfl (gwS mw_284 mw_281 mw_282 mw_283) (by decide +kernel) rfl rfl Sb.rf rfl rfl dJ5_newCapacity_0f7a4_29 (fun r w1 hp29 => ?_)
  obtain ⟨rfl, rfl⟩ := hp29
  show V X 0 0 32 [(4, vI (m - (cap : Int))), (3, vI m), (2, vI (cap : Int)), (0, .ref a), (1, vI m)] [vI ((cap : Int) + (if (m - (cap : Int)) < ((cap : Int) + 2) then ((cap : Int) + 2) else (m - (cap : Int))))] ([(a, .inr (8, [.ref v, vI 0, vI 0, vI n])), (v, .inl ((vG X).2 0, cap, .inl (fI f)))])
  generalize hgz : ((cap : Int) + (if (m - (cap : Int)) < ((cap : Int) + 2) then ((cap : Int) + 2) else (m - (cap : Int)))) = z at hz ⊢
  refine v_istore C M dJ5_newCapacity_0f7a4_32 (by decide) (L' := [(5, vI z), (4, vI (m - (cap : Int))), (3, vI m), (2, vI (cap : Int)), (0, .ref a), (1, vI m)]) rfl ?_
  refine v_iload C dJ5_newCapacity_0f7a4_34 0 rfl ?_
  refine v_ldcI (z := 2147483647) C (List.mem_cons_of_mem _ mw_227) (by decide +kernel) dJ5_newCapacity_0f7a4_36 ?_
  refine v_icmp_ne (tgt := 51) C dJ5_newCapacity_0f7a4_38 (by decide) ⟨by omega, by omega⟩ (by decide) (fun c38 => ?_) (fun c38 => absurd c38 (by omega))
  refine v_iload C dJ5_newCapacity_0f7a4_51 0 rfl ?_
  refine v_aload_n C dJ5_newCapacity_0f7a4_53 rfl 4 rfl ?_
  refine v_get (v := vI 0) C inw_8 0 1 rfl (by decide) (List.mem_cons_of_mem _ mw_228) rfl rfl dJ5_newCapacity_0f7a4_54 ?_
  refine v_ishr (z := z) C dJ5_newCapacity_0f7a4_57 ishr0 ?_
  exact v_iret C E rfl dJ5_newCapacity_0f7a4_58 (by decide) (by decide) (⟨⟨_, rfl, by omega, by omega, by omega⟩, rfl⟩)
set_option maxHeartbeats 4000000 in
set_option maxRecDepth 100000 in
theorem c_J7_copyOf_9075b (G : GG) (l : Launch) (v cap : Nat) (f : Int → Int) (z : Int) (hb : btO f) (hz : (cap : Int) < z) (hz2 : z ≤ 1000) : Ct G l yJ7_copyOf_9075b (Cond.code yJ7_copyOf_9075b cJ7_copyOf_9075b 3 (some (.array .byte)) :: wsL_law) 1 60 1 1000 [.ref v, vI z] ([(v, .inl (G.2 0, cap, .inl (fI f)))]) (fun r w => ∃ q : Nat, r = some (.ref q) ∧ w = [(v, .inl (G.2 0, cap, .inl (fI f))), (q, .inl (G.2 0, z.toNat, .inl (fI (cpA f (fun _ => 0) 0 0 (cap : Int)))))]) := by
  refine Ct.of (own := RJ7) (cc := cJ7_copyOf_9075b) (maxL := 3) (ret := (some (.array .byte))) (by decide) rfl rfl (Nat.le_of_ble_eq_true rfl) (fun X C E M hG hl => ?_)
  subst hG hl
  refine v_iload_n C dJ7_copyOf_9075b_0 rfl 1 rfl ?_
  refine v_aload_n C dJ7_copyOf_9075b_1 rfl 0 rfl ?_
  refine v_alen (z := (cap : Int)) C 0 0 rfl rfl (Int32.ofInt_eq_ofNat).symm dJ7_copyOf_9075b_2 ?_
  refine v_icmp_ne (tgt := 14) C dJ7_copyOf_9075b_3 (by decide) ⟨by omega, by omega⟩ ⟨by omega, by omega⟩ (fun c3 => ?_) (fun c3 => absurd c3 (by omega))
  refine v_iload_n C dJ7_copyOf_9075b_14 rfl 1 rfl ?_
  refine v_newB C (List.mem_cons_of_mem _ mw_40) (by omega) ⟨by omega, by omega⟩ (N' := z.toNat) rfl (Nat.ble_eq_true_of_le (show z.toNat * 1 ≤ 536870912 by omega)) rfl (Nat.ble_eq_true_of_le (by omega)) dJ7_copyOf_9075b_15 (fun q => ?_)
  refine V.wid (k' := 1) (n' := 1000) (Nat.le_refl _) (by omega) ?_
  show V X 1 1000 17 [(0, .ref v), (1, vI z)] [.ref q] ([(v, .inl ((vG X).2 0, cap, .inl (fI f))), (q, .inl ((vG X).2 0, z.toNat, .inl (fI (fun _ => 0))))])
  refine v_astore_n C M dJ7_copyOf_9075b_17 rfl (by decide) (L' := [(2, .ref q), (0, .ref v), (1, vI z)]) rfl ?_
  refine v_aload_n C dJ7_copyOf_9075b_18 rfl 1 rfl ?_
  refine v_iconst C dJ7_copyOf_9075b_19 ?_
  refine v_aload_n C dJ7_copyOf_9075b_20 rfl 0 rfl ?_
  refine v_iconst C dJ7_copyOf_9075b_21 ?_
  refine v_aload_n C dJ7_copyOf_9075b_22 rfl 1 rfl ?_
  refine v_alen (z := (cap : Int)) C 0 0 rfl rfl (Int32.ofInt_eq_ofNat).symm dJ7_copyOf_9075b_23 ?_
  refine v_iload_n C dJ7_copyOf_9075b_24 rfl 2 rfl ?_
  refine v_mmin C ⟨by omega, by omega⟩ ⟨by omega, by omega⟩ (List.mem_cons_of_mem _ mw_303) (List.mem_cons_of_mem _ mw_304) (List.mem_cons_of_mem _ mw_287) (List.mem_cons_of_mem _ mw_305) (by decide) rfl rfl rfl dJ7_copyOf_9075b_25 ?_
  refine V.top (show (if z < (cap : Int) then z else (cap : Int)) = (cap : Int) from if_neg (by omega)) ?_
  refine v_cpyB C 0 1 (List.mem_cons_of_mem _ mw_306) (List.mem_cons_of_mem _ mw_185) (List.mem_cons_of_mem _ mw_186) (List.mem_cons_of_mem _ mw_187) rfl rfl hb (by omega) (by omega) (by omega) (by omega) (by decide) rfl dJ7_copyOf_9075b_28 (ws' := [(v, .inl ((vG X).2 0, cap, .inl (fI f))), (q, .inl ((vG X).2 0, z.toNat, .inl (fI (cpA f (fun _ => 0) 0 0 (cap : Int)))))]) rfl ?_
  refine v_aload_n C dJ7_copyOf_9075b_31 rfl 0 rfl ?_
  exact v_aret C E rfl (Or.inr ⟨_, rfl⟩) (Or.inr ⟨_, rfl⟩) dJ7_copyOf_9075b_32 (by decide) (by decide) ⟨q, rfl, rfl⟩
set_option maxHeartbeats 4000000 in
set_option maxRecDepth 100000 in
theorem c_J5_ensureCapacityInternal_d00df (G : GG) (l : Launch) (a v cap : Nat) (n : Int) (f : Int → Int) (m : Int) (hc : cap ≤ 1000) (hn : 0 ≤ n ∧ n ≤ (cap : Int)) (hb : btO f) (hm : 0 ≤ m ∧ m ≤ 500) : Ct G l yJ5_ensureCapacityInternal_d00df (Cond.code yJ5_ensureCapacityInternal_d00df cJ5_ensureCapacityInternal_d00df 3 none :: wsL_law) 3 82 1 1000 [.ref a, vI m] ([(a, .inr (8, [.ref v, vI 0, vI 0, vI n])), (v, .inl (G.2 0, cap, .inl (fI f)))]) (fun r w => r = none ∧ ∃ (v2 cap2 : Nat) (f2 : Int → Int), w = [(a, .inr (8, [.ref v2, vI 0, vI 0, vI n])), (v2, .inl (G.2 0, cap2, .inl (fI f2)))] ∧ (m ≤ (cap2 : Int) ∧ (cap : Int) ≤ (cap2 : Int) ∧ cap2 ≤ 1000) ∧ btO f2 ∧ ∀ j : Int, 0 ≤ j → j < (cap : Int) → f2 j = f j) := by
  refine Ct.of (own := RJ5) (cc := cJ5_ensureCapacityInternal_d00df) (maxL := 3) (ret := none) (by decide) rfl rfl (Nat.le_of_ble_eq_true rfl) (fun X C E M hG hl => ?_)
  subst hG hl
  refine v_aload_n C dJ5_ensureCapacityInternal_d00df_0 rfl 0 rfl ?_
  refine v_get (v := .ref v) C inw_8 0 0 rfl (by decide) (List.mem_cons_of_mem _ mw_229) rfl rfl dJ5_ensureCapacityInternal_d00df_1 ?_
  refine v_alen (z := (cap : Int)) C 1 0 rfl rfl (Int32.ofInt_eq_ofNat).symm dJ5_ensureCapacityInternal_d00df_4 ?_
  refine v_aload_n C dJ5_ensureCapacityInternal_d00df_5 rfl 0 rfl ?_
  refine v_get (v := vI 0) C inw_8 0 1 rfl (by decide) (List.mem_cons_of_mem _ mw_228) rfl rfl dJ5_ensureCapacityInternal_d00df_6 ?_
  refine v_ishr (z := (cap : Int)) C dJ5_ensureCapacityInternal_d00df_9 ishr0 ?_
  refine v_istore_n C M dJ5_ensureCapacityInternal_d00df_10 rfl (by decide) (L' := [(2, vI (cap : Int)), (0, .ref a), (1, vI m)]) rfl ?_
  refine v_iload_n C dJ5_ensureCapacityInternal_d00df_11 rfl 2 rfl ?_
  refine v_iload_n C dJ5_ensureCapacityInternal_d00df_12 rfl 0 rfl ?_
  refine v_isub C dJ5_ensureCapacityInternal_d00df_13 ?_
  refine v_if_le (tgt := 38) C dJ5_ensureCapacityInternal_d00df_14 (by decide) ⟨by omega, by omega⟩ (fun c14 => ?_) (fun c14 => ?_)
  · skip
    exact v_vret C E rfl dJ5_ensureCapacityInternal_d00df_38 (by decide) (by decide) (⟨rfl, v, cap, f, rfl, ⟨by omega, by omega, hc⟩, hb, fun j _ _ => rfl⟩)
  · skip
    refine v_aload_n C dJ5_ensureCapacityInternal_d00df_17 rfl 1 rfl ?_
    refine v_aload_n C dJ5_ensureCapacityInternal_d00df_18 rfl 1 rfl ?_
    refine v_get (v := .ref v) C inw_8 0 0 rfl (by decide) (List.mem_cons_of_mem _ mw_229) rfl rfl dJ5_ensureCapacityInternal_d00df_19 ?_
    refine v_aload_n C dJ5_ensureCapacityInternal_d00df_22 rfl 1 rfl ?_
    refine v_iload_n C dJ5_ensureCapacityInternal_d00df_23 rfl 2 rfl ?_
    refine v_callU (na := 1) (wy := (Cond.code yJ5_newCapacity_0f7a4 cJ5_newCapacity_0f7a4 6 (some .int) :: wsL_law)) (wc := [(a, .inr (8, [.ref v, vI 0, vI 0, vI n])), (v, .inl ((vG X).2 0, cap, .inl (fI f)))]) (wr := []) (owner := "java/lang/AbstractStringBuilder") (x := ⟨"java/lang/AbstractStringBuilder", "newCapacity", "(I)I"⟩) C [vI m] [.ref v, .ref a] (c_J5_newCapacity_0f7a4 _ _ a v cap n f m (by omega) (by omega)) rfl (gwU mw_280 mw_276 mw_277 mw_278 mw_279 mw_223) rfl (by decide +kernel) 0 rfl rfl rfl rfl Sb.w rfl rfl dJ5_ensureCapacityInternal_d00df_24 (fun r w1 hp24 => ?_)
    obtain ⟨⟨z, rfl, z1, z2, z3⟩, rfl⟩ := hp24
    show V X 0 0 27 [(2, vI (cap : Int)), (0, .ref a), (1, vI m)] [vI z, .ref v, .ref a] ([(a, .inr (8, [.ref v, vI 0, vI 0, vI n])), (v, .inl ((vG X).2 0, cap, .inl (fI f)))])
    refine v_aload_n C dJ5_ensureCapacityInternal_d00df_27 rfl 1 rfl ?_
    refine v_get (v := vI 0) C inw_8 0 1 rfl (by decide) (List.mem_cons_of_mem _ mw_228) rfl rfl dJ5_ensureCapacityInternal_d00df_28 ?_
    refine v_ishl (z := z) C dJ5_ensureCapacityInternal_d00df_31 ishl0 ?_
    refine v_callS (na := 2) (wy := (Cond.code yJ7_copyOf_9075b cJ7_copyOf_9075b 3 (some (.array .byte)) :: wsL_law)) (wc := [(v, .inl ((vG X).2 0, cap, .inl (fI f)))]) (wr := [(a, .inr (8, [.ref v, vI 0, vI 0, vI n]))]) C [.ref v, vI z] [.ref a] (c_J7_copyOf_9075b _ _ v cap f z hb z3 z2) rfl (gwS mw_296 mw_293 mw_294 mw_295) (by decide +kernel) rfl rfl (Sb.pl [1, 0] rfl rfl) rfl rfl dJ5_ensureCapacityInternal_d00df_32 (fun r w1 hp32 => ?_)
    obtain ⟨q, rfl, rfl⟩ := hp32
    refine V.sb (ws' := [(a, .inr (8, [.ref v, vI 0, vI 0, vI n])), (q, .inl ((vG X).2 0, z.toNat, .inl (fI (cpA f (fun _ => 0) 0 0 (cap : Int)))))]) (Sb.pl [2, 1] rfl rfl) ?_
    show V X 1 1000 35 [(2, vI (cap : Int)), (0, .ref a), (1, vI m)] [.ref q, .ref a] ([(a, .inr (8, [.ref v, vI 0, vI 0, vI n])), (q, .inl ((vG X).2 0, z.toNat, .inl (fI (cpA f (fun _ => 0) 0 0 (cap : Int)))))])
    refine v_put C inw_8 tyX8 tyX8_ok nmX8 0 0 rfl (by decide) (List.mem_cons_of_mem _ mw_229) rfl rfl rfl rfl (Nat.le_of_ble_eq_true rfl) dJ5_ensureCapacityInternal_d00df_35 (ws' := [(a, .inr (8, [.ref q, vI 0, vI 0, vI n])), (q, .inl ((vG X).2 0, z.toNat, .inl (fI (cpA f (fun _ => 0) 0 0 (cap : Int)))))]) rfl ?_
    exact v_vret C E rfl dJ5_ensureCapacityInternal_d00df_38 (by decide) (by decide) (⟨rfl, q, z.toNat, (cpA f (fun _ => 0) 0 0 (cap : Int)), rfl, ⟨by omega, by omega, by omega⟩, fun j => by unfold cpA; split; exact hb _; exact ⟨(show (0 : Int) ≤ 0 by decide), (show (0 : Int) < 128 by decide)⟩, fun j h0 hj => by unfold cpA; rw [if_pos ⟨h0, by omega⟩]; congr 1; omega⟩)
end J1
