section M6
set_option maxHeartbeats 4000000 in
set_option maxRecDepth 100000 in
theorem c_X8_until (G : GG) (l : Launch) (ad : Nat → Nat) (F : Int → Int → Int) (rd q : Int) (hrd : rd = 0 ∨ rd = 1) (hq : sm q) (hB : sB 1000000 (F 2)) (h70 : 0 ≤ F 2 7) (h7 : F 2 7 ≤ 40) (h4 : 1 ≤ F 2 4 ∧ F 2 4 ≤ 7) (hgo : ∀ rd lost b : Int, (rd = 0 ∨ rd = 1) → (-1 ≤ lost ∧ lost ≤ 10000) → (0 ≤ b ∧ b ≤ 7) → GOk rd lost b (F 2)) : Ct G l yX8_until (Cond.code yX8_until cX8_until 3 (some .int) :: wsL_law) 7 159 0 0 [.ref (ad 0), vI rd, vI q] ((mW G ad F)) (fun r w => ∃ v : Int, r = some (vI v) ∧ ((¬ (0 ≤ q ∧ q ≤ 1) ∧ w = mW G ad (up F 0 (up (F 0) 0 1))) ∨ ((0 ≤ q ∧ q ≤ 1) ∧ v = (if goO rd (-1) (F 2 4) (F 2) then (if q = 0 then goT rd (-1) (F 2 4) (F 2) else goN rd (-1) (F 2 4) (F 2)) else -1) ∧ ∃ (x y z a b : Int) (f4 f8 f9 : Int → Int), w = mW G ad (up (up (up (up F 0 (up (up (up (up (up (up (up (F 0) 0 0) 20 x) 22 y) 23 z) 24 0) 25 a) 26 b)) 4 f4) 8 f8) 9 f9)))) := by
  refine Ct.of (own := RX8) (cc := cX8_until) (maxL := 3) (ret := (some .int)) (by decide) rfl rfl (Nat.le_of_ble_eq_true rfl) (fun X C E M hG hl => ?_)
  subst hG hl
  refine v_aload_n C dX8_until_0 rfl 0 rfl ?_
  refine v_iload_n C dX8_until_1 rfl 2 rfl ?_
  refine v_iconst C dX8_until_2 ?_
  refine v_iconst C dX8_until_3 ?_
  refine v_callS (na := 3) (wy := (Cond.code yX8_within cX8_within 3 (some .boolean) :: wsL_law)) (wc := []) (wr := (mW (vG X) ad F)) C [vI q, vI 0, vI 1] [.ref (ad 0)] (c_X8_within _ _ q 0 1 (by first | assumption | exact ⟨by omega, by omega⟩) (by decide) (by decide)) rfl (gwS mw_343 mw_341 mw_342 mw_5) (by decide +kernel) rfl rfl Sb.rf rfl rfl dX8_until_4 (fun r w1 hp4_1 => ?_)
  obtain ⟨rfl, rfl⟩ := hp4_1
  show V X 0 0 7 [(0, .ref (ad 0)), (1, vI rd), (2, vI q)] [vI (bI (0 ≤ q ∧ q ≤ 1)), .ref (ad 0)] ((mW (vG X) ad F))
  refine v_if_eq (tgt := 14) C dX8_until_7 (by decide) sm_bI (fun c7 => ?_) (fun c7 => ?_)
  · have c7 := bI_0.mp c7
    refine v_iconst C dX8_until_14 ?_
    refine v_put C inw_8 tyX8 tyX8_ok nmX8 0 0 rfl (by decide) (List.mem_cons_of_mem _ mw_147) rfl rfl rfl rfl (Nat.le_of_ble_eq_true rfl) dX8_until_15 (ws' := (mW (vG X) ad (up F 0 (up (F 0) 0 1)))) rfl ?_
    refine v_aload_n C dX8_until_18 rfl 0 rfl ?_
    refine v_get (v := vI 1) C inw_8 0 0 rfl (by decide) (List.mem_cons_of_mem _ mw_147) rfl rfl dX8_until_19 ?_
    refine v_if_le (tgt := 27) C dX8_until_22 (by decide) (by decide) (fun c => absurd c (by decide)) (fun _ => ?_)
    refine v_iconst C dX8_until_25 ?_
    exact v_iret C E rfl dX8_until_26 (by decide) (by decide) (⟨_, rfl, Or.inl ⟨by omega, rfl⟩⟩)
  · have c7 := bI_n0.mp c7
    refine v_iconst C dX8_until_10 ?_
    refine v_goto (tgt := 15) C dX8_until_11 (by decide) ?_
    refine v_put C inw_8 tyX8 tyX8_ok nmX8 0 0 rfl (by decide) (List.mem_cons_of_mem _ mw_147) rfl rfl rfl rfl (Nat.le_of_ble_eq_true rfl) dX8_until_15 (ws' := (mW (vG X) ad (up F 0 (up (F 0) 0 0)))) rfl ?_
    refine v_aload_n C dX8_until_18 rfl 0 rfl ?_
    refine v_get (v := vI 0) C inw_8 0 0 rfl (by decide) (List.mem_cons_of_mem _ mw_147) rfl rfl dX8_until_19 ?_
    refine v_if_le (tgt := 27) C dX8_until_22 (by decide) (by decide) (fun _ => ?_) (fun c => absurd (by decide) c)
    refine v_aload_n C dX8_until_27 rfl 0 rfl ?_
    refine v_iload_n C dX8_until_28 rfl 1 rfl ?_
    refine v_iconst C dX8_until_29 ?_
    refine v_aload_n C dX8_until_30 rfl 0 rfl ?_
    refine v_get (v := .ref (ad 2)) C inw_8 0 10 rfl (by decide) (List.mem_cons_of_mem _ mw_105) rfl rfl dX8_until_31 ?_
    refine v_iconst C dX8_until_34 ?_
    refine v_iald C 2 rfl (by decide) (by decide) (by decide) dX8_until_35 ?_
    show V X 0 0 36 [(0, .ref (ad 0)), (1, vI rd), (2, vI q)] [vI (F 2 4), vI (-1), vI rd, .ref (ad 0)] ((mW (vG X) ad (up F 0 (up (F 0) 0 0))))
    refine v_callV (na := 3) (wy := (Cond.code yX8_goes cX8_goes 5 (some .boolean) :: wsL_law)) (wc := (mW (vG X) ad (up F 0 (up (F 0) 0 0)))) (wr := []) C [vI rd, vI (-1), vI (F 2 4)] [] (c_X8_goes _ _ ad (up F 0 (up (F 0) 0 0)) rd (-1) (F 2 4) hrd (by decide) (show 0 ≤ (F 2 4) ∧ (F 2 4) ≤ 7 by omega) hB h70 h7 (hgo rd (-1) (F 2 4) hrd (by decide) (show 0 ≤ (F 2 4) ∧ (F 2 4) ≤ 7 by omega)).1 (hgo rd (-1) (F 2 4) hrd (by decide) (show 0 ≤ (F 2 4) ∧ (F 2 4) ≤ 7 by omega)).2.1 (hgo rd (-1) (F 2 4) hrd (by decide) (show 0 ≤ (F 2 4) ∧ (F 2 4) ≤ 7 by omega)).2.2) rfl (gwV mw_645 mw_642 mw_643 mw_644 mw_5) rfl (by decide +kernel) 0 rfl rfl rfl rfl Sb.w rfl rfl dX8_until_36 (fun r w1 hp36_2 => ?_)
    obtain ⟨x1, y1, z1, f41, f81, f91, rfl, rfl⟩ := hp36_2
    show V X 0 0 39 [(0, .ref (ad 0)), (1, vI rd), (2, vI q)] [vI (bI (goO rd (-1) (F 2 4) (F 2)))] ((mW (vG X) ad (up (up (up (up F 0 (up (up (up (up (up (up (up (F 0) 0 0) 20 x1) 22 y1) 23 z1) 24 0) 25 (goT rd (-1) (F 2 4) (F 2))) 26 (goN rd (-1) (F 2 4) (F 2)))) 4 (f41)) 8 (f81)) 9 (f91))))
    refine v_if_ne (tgt := 44) C dX8_until_39 (by decide) sm_bI (fun c39 => ?_) (fun c39 => ?_)
    · have c39 := bI_n0.mp c39
      refine v_iload_n C dX8_until_44 rfl 2 rfl ?_
      refine v_if_ne (tgt := 55) C dX8_until_45 (by decide) (by  first | assumption | exact ⟨by omega, by omega⟩) (fun c45 => ?_) (fun c45 => ?_)
      · skip
        refine v_aload_n C dX8_until_55 rfl 0 rfl ?_
        refine v_get (v := vI (goN rd (-1) (F 2 4) (F 2))) C inw_8 0 26 rfl (by decide) (List.mem_cons_of_mem _ mw_641) rfl rfl dX8_until_56 ?_
        exact v_iret C E rfl dX8_until_59 (by decide) (by decide) (⟨_, rfl, Or.inr ⟨by omega, ((if_pos c39).trans (if_neg c45)).symm, _, _, _, _, _, _, _, _, rfl⟩⟩)
      · skip
        refine v_aload_n C dX8_until_48 rfl 0 rfl ?_
        refine v_get (v := vI (goT rd (-1) (F 2 4) (F 2))) C inw_8 0 25 rfl (by decide) (List.mem_cons_of_mem _ mw_640) rfl rfl dX8_until_49 ?_
        refine v_goto (tgt := 59) C dX8_until_52 (by decide) ?_
        exact v_iret C E rfl dX8_until_59 (by decide) (by decide) (⟨_, rfl, Or.inr ⟨by omega, ((if_pos c39).trans (if_pos c45)).symm, _, _, _, _, _, _, _, _, rfl⟩⟩)
    · have c39 := bI_0.mp c39
      refine v_iconst C dX8_until_42 ?_
      exact v_iret C E rfl dX8_until_43 (by decide) (by decide) (⟨_, rfl, Or.inr ⟨by omega, (if_neg c39).symm, _, _, _, _, _, _, _, _, rfl⟩⟩)
set_option maxHeartbeats 4000000 in
set_option maxRecDepth 100000 in
theorem c_X8_delayOf (G : GG) (l : Launch) (ad : Nat → Nat) (F : Int → Int → Int) (f : Int) (hf : -1 ≤ f ∧ f ≤ 10000) (hB : sB 1000000 (F 2)) (h70 : 0 ≤ F 2 7) (h7 : F 2 7 ≤ 40) (h4 : 1 ≤ F 2 4 ∧ F 2 4 ≤ 7) (hgo : ∀ rd lost b : Int, (rd = 0 ∨ rd = 1) → (-1 ≤ lost ∧ lost ≤ 10000) → (0 ≤ b ∧ b ≤ 7) → GOk rd lost b (F 2)) : Ct G l yX8_delayOf (Cond.code yX8_delayOf cX8_delayOf 3 (some .int) :: wsL_law) 7 159 0 0 [.ref (ad 0), vI f] ((mW G ad F)) (fun r w => ∃ v : Int, r = some (vI v) ∧ v = deF f (F 2) ∧ ∃ (x y z a b : Int) (f4 f8 f9 : Int → Int), w = mW G ad (up (up (up (up F 0 (up (up (up (up (up (up (F 0) 20 x) 22 y) 23 z) 24 0) 25 a) 26 b)) 4 f4) 8 f8) 9 f9)) := by
  refine Ct.of (own := RX8) (cc := cX8_delayOf) (maxL := 3) (ret := (some .int)) (by decide) rfl rfl (Nat.le_of_ble_eq_true rfl) (fun X C E M hG hl => ?_)
  subst hG hl
  refine v_aload_n C dX8_delayOf_0 rfl 0 rfl ?_
  refine v_iconst C dX8_delayOf_1 ?_
  refine v_iconst C dX8_delayOf_2 ?_
  refine v_aload_n C dX8_delayOf_3 rfl 0 rfl ?_
  refine v_get (v := .ref (ad 2)) C inw_8 0 10 rfl (by decide) (List.mem_cons_of_mem _ mw_105) rfl rfl dX8_delayOf_4 ?_
  refine v_iconst C dX8_delayOf_7 ?_
  refine v_iald C 2 rfl (by decide) (by decide) (by decide) dX8_delayOf_8 ?_
  refine v_callV (na := 3) (wy := (Cond.code yX8_goes cX8_goes 5 (some .boolean) :: wsL_law)) (wc := (mW (vG X) ad F)) (wr := []) C [vI 1, vI (-1), vI (F 2 4)] [] (c_X8_goes _ _ ad F 1 (-1) (F 2 4) (by decide) (by decide) (show 0 ≤ (F 2 4) ∧ (F 2 4) ≤ 7 by omega) hB h70 h7 (hgo 1 (-1) (F 2 4) (by decide) (by decide) (show 0 ≤ (F 2 4) ∧ (F 2 4) ≤ 7 by omega)).1 (hgo 1 (-1) (F 2 4) (by decide) (by decide) (show 0 ≤ (F 2 4) ∧ (F 2 4) ≤ 7 by omega)).2.1 (hgo 1 (-1) (F 2 4) (by decide) (by decide) (show 0 ≤ (F 2 4) ∧ (F 2 4) ≤ 7 by omega)).2.2) rfl (gwV mw_645 mw_642 mw_643 mw_644 mw_5) rfl (by decide +kernel) 0 rfl rfl rfl rfl Sb.w rfl rfl dX8_delayOf_9 (fun r w1 hp9_1 => ?_)
  obtain ⟨x1, y1, z1, f41, f81, f91, rfl, rfl⟩ := hp9_1
  show V X 0 0 12 [(0, .ref (ad 0)), (1, vI f)] [vI (bI (goO 1 (-1) (F 2 4) (F 2)))] ((mW (vG X) ad (up (up (up (up F 0 (up (up (up (up (up (up (F 0) 20 x1) 22 y1) 23 z1) 24 0) 25 (goT 1 (-1) (F 2 4) (F 2))) 26 (goN 1 (-1) (F 2 4) (F 2)))) 4 (f41)) 8 (f81)) 9 (f91))))
  refine v_if_ne (tgt := 19) C dX8_delayOf_12 (by decide) sm_bI (fun c12 => ?_) (fun c12 => ?_)
  · have c12 := bI_n0.mp c12
    refine v_aload_n C dX8_delayOf_19 rfl 0 rfl ?_
    refine v_get (v := vI (goT 1 (-1) (F 2 4) (F 2))) C inw_8 0 25 rfl (by decide) (List.mem_cons_of_mem _ mw_640) rfl rfl dX8_delayOf_20 ?_
    refine v_istore_n C M dX8_delayOf_23 rfl (by decide) (L' := [(2, vI (goT 1 (-1) (F 2 4) (F 2))), (0, .ref (ad 0)), (1, vI f)]) rfl ?_
    refine v_aload_n C dX8_delayOf_24 rfl 1 rfl ?_
    refine v_iconst C dX8_delayOf_25 ?_
    refine v_iload_n C dX8_delayOf_26 rfl 2 rfl ?_
    refine v_aload_n C dX8_delayOf_27 rfl 1 rfl ?_
    refine v_get (v := .ref (ad 2)) C inw_8 0 10 rfl (by decide) (List.mem_cons_of_mem _ mw_105) rfl rfl dX8_delayOf_28 ?_
    refine v_iconst C dX8_delayOf_31 ?_
    refine v_iald C 2 rfl (by decide) (by decide) (by decide) dX8_delayOf_32 ?_
    show V X 0 0 33 [(2, vI (goT 1 (-1) (F 2 4) (F 2))), (0, .ref (ad 0)), (1, vI f)] [vI (F 2 4), vI f, vI 1, .ref (ad 0)] ((mW (vG X) ad (up (up (up (up F 0 (up (up (up (up (up (up (F 0) 20 x1) 22 y1) 23 z1) 24 0) 25 (goT 1 (-1) (F 2 4) (F 2))) 26 (goN 1 (-1) (F 2 4) (F 2)))) 4 (f41)) 8 (f81)) 9 (f91))))
    refine v_callV (na := 3) (wy := (Cond.code yX8_goes cX8_goes 5 (some .boolean) :: wsL_law)) (wc := (mW (vG X) ad (up (up (up (up F 0 (up (up (up (up (up (up (F 0) 20 x1) 22 y1) 23 z1) 24 0) 25 (goT 1 (-1) (F 2 4) (F 2))) 26 (goN 1 (-1) (F 2 4) (F 2)))) 4 (f41)) 8 (f81)) 9 (f91)))) (wr := []) C [vI 1, vI f, vI (F 2 4)] [] (c_X8_goes _ _ ad (up (up (up (up F 0 (up (up (up (up (up (up (F 0) 20 x1) 22 y1) 23 z1) 24 0) 25 (goT 1 (-1) (F 2 4) (F 2))) 26 (goN 1 (-1) (F 2 4) (F 2)))) 4 (f41)) 8 (f81)) 9 (f91)) 1 f (F 2 4) (by decide) (by first | assumption | exact ⟨by omega, by omega⟩) (show 0 ≤ (F 2 4) ∧ (F 2 4) ≤ 7 by omega) hB h70 h7 (hgo 1 f (F 2 4) (by decide) (show -1 ≤ f ∧ f ≤ 10000 by omega) (show 0 ≤ (F 2 4) ∧ (F 2 4) ≤ 7 by omega)).1 (hgo 1 f (F 2 4) (by decide) (show -1 ≤ f ∧ f ≤ 10000 by omega) (show 0 ≤ (F 2 4) ∧ (F 2 4) ≤ 7 by omega)).2.1 (hgo 1 f (F 2 4) (by decide) (show -1 ≤ f ∧ f ≤ 10000 by omega) (show 0 ≤ (F 2 4) ∧ (F 2 4) ≤ 7 by omega)).2.2) rfl (gwV mw_645 mw_642 mw_643 mw_644 mw_5) rfl (by decide +kernel) 0 rfl rfl rfl rfl Sb.w rfl rfl dX8_delayOf_33 (fun r w1 hp33_2 => ?_)
    obtain ⟨x2, y2, z2, f42, f82, f92, rfl, rfl⟩ := hp33_2
    show V X 0 0 36 [(2, vI (goT 1 (-1) (F 2 4) (F 2))), (0, .ref (ad 0)), (1, vI f)] [vI (bI (goO 1 f (F 2 4) (F 2)))] ((mW (vG X) ad (up (up (up (up F 0 (up (up (up (up (up (up (F 0) 20 x2) 22 y2) 23 z2) 24 0) 25 (goT 1 f (F 2 4) (F 2))) 26 (goN 1 f (F 2 4) (F 2)))) 4 (f42)) 8 (f82)) 9 (f92))))
    refine v_if_eq (tgt := 48) C dX8_delayOf_36 (by decide) sm_bI (fun c36 => ?_) (fun c36 => ?_)
    · have c36 := bI_0.mp c36
      refine v_sipush C dX8_delayOf_48 (by decide +kernel) ?_
      exact v_iret C E rfl dX8_delayOf_51 (by decide) (by decide) (⟨_, rfl, ((if_pos c12).trans (if_neg c36)).symm, _, _, _, _, _, _, _, _, rfl⟩)
    · have c36 := bI_n0.mp c36
      refine v_aload_n C dX8_delayOf_39 rfl 1 rfl ?_
      refine v_get (v := vI (goT 1 f (F 2 4) (F 2))) C inw_8 0 25 rfl (by decide) (List.mem_cons_of_mem _ mw_640) rfl rfl dX8_delayOf_40 ?_
      refine v_iload_n C dX8_delayOf_43 rfl 0 rfl ?_
      refine v_isub C dX8_delayOf_44 ?_
      refine v_goto (tgt := 51) C dX8_delayOf_45 (by decide) ?_
      exact v_iret C E rfl dX8_delayOf_51 (by decide) (by decide) (⟨_, rfl, ((if_pos c12).trans (if_pos c36)).symm, _, _, _, _, _, _, _, _, rfl⟩)
  · have c12 := bI_0.mp c12
    refine v_sipush C dX8_delayOf_15 (by decide +kernel) ?_
    exact v_iret C E rfl dX8_delayOf_18 (by decide) (by decide) (⟨_, rfl, (if_neg c12).symm, _, _, _, _, _, _, _, _, rfl⟩)
set_option maxHeartbeats 4000000 in
set_option maxRecDepth 100000 in
theorem c_X8_delay (G : GG) (l : Launch) (ad : Nat → Nat) (F : Int → Int → Int) (f : Int) (hf : sm f) (hB : sB 1000000 (F 2)) (h70 : 0 ≤ F 2 7) (h7 : F 2 7 ≤ 40) (h4 : 1 ≤ F 2 4 ∧ F 2 4 ≤ 7) (hgo : ∀ rd lost b : Int, (rd = 0 ∨ rd = 1) → (-1 ≤ lost ∧ lost ≤ 10000) → (0 ≤ b ∧ b ≤ 7) → GOk rd lost b (F 2)) : Ct G l yX8_delay (Cond.code yX8_delay cX8_delay 2 (some .int) :: wsL_law) 8 181 0 0 [.ref (ad 0), vI f] ((mW G ad F)) (fun r w => ∃ v : Int, r = some (vI v) ∧ ((¬ (0 ≤ f ∧ f ≤ 1999) ∧ w = mW G ad (up F 0 (up (F 0) 0 1))) ∨ ((0 ≤ f ∧ f ≤ 1999) ∧ v = deF f (F 2) ∧ ∃ (x y z a b : Int) (f4 f8 f9 : Int → Int), w = mW G ad (up (up (up (up F 0 (up (up (up (up (up (up (up (F 0) 0 0) 20 x) 22 y) 23 z) 24 0) 25 a) 26 b)) 4 f4) 8 f8) 9 f9)))) := by
  refine Ct.of (own := RX8) (cc := cX8_delay) (maxL := 2) (ret := (some .int)) (by decide) rfl rfl (Nat.le_of_ble_eq_true rfl) (fun X C E M hG hl => ?_)
  subst hG hl
  refine v_aload_n C dX8_delay_0 rfl 0 rfl ?_
  refine v_iload_n C dX8_delay_1 rfl 1 rfl ?_
  refine v_iconst C dX8_delay_2 ?_
  refine v_sipush C dX8_delay_3 (by decide +kernel) ?_
  refine v_callS (na := 3) (wy := (Cond.code yX8_within cX8_within 3 (some .boolean) :: wsL_law)) (wc := []) (wr := (mW (vG X) ad F)) C [vI f, vI 0, vI 1999] [.ref (ad 0)] (c_X8_within _ _ f 0 1999 (by first | assumption | exact ⟨by omega, by omega⟩) (by decide) (by decide)) rfl (gwS mw_343 mw_341 mw_342 mw_5) (by decide +kernel) rfl rfl Sb.rf rfl rfl dX8_delay_6 (fun r w1 hp6_1 => ?_)
  obtain ⟨rfl, rfl⟩ := hp6_1
  show V X 0 0 9 [(0, .ref (ad 0)), (1, vI f)] [vI (bI (0 ≤ f ∧ f ≤ 1999)), .ref (ad 0)] ((mW (vG X) ad F))
  refine v_if_eq (tgt := 16) C dX8_delay_9 (by decide) sm_bI (fun c9 => ?_) (fun c9 => ?_)
  · have c9 := bI_0.mp c9
    refine v_iconst C dX8_delay_16 ?_
    refine v_put C inw_8 tyX8 tyX8_ok nmX8 0 0 rfl (by decide) (List.mem_cons_of_mem _ mw_147) rfl rfl rfl rfl (Nat.le_of_ble_eq_true rfl) dX8_delay_17 (ws' := (mW (vG X) ad (up F 0 (up (F 0) 0 1)))) rfl ?_
    refine v_aload_n C dX8_delay_20 rfl 0 rfl ?_
    refine v_get (v := vI 1) C inw_8 0 0 rfl (by decide) (List.mem_cons_of_mem _ mw_147) rfl rfl dX8_delay_21 ?_
    refine v_if_ne (tgt := 35) C dX8_delay_24 (by decide) (by decide) (fun _ => ?_) (fun c => absurd c (by decide))
    refine v_iconst C dX8_delay_35 ?_
    exact v_iret C E rfl dX8_delay_36 (by decide) (by decide) (⟨_, rfl, Or.inl ⟨by omega, rfl⟩⟩)
  · have c9 := bI_n0.mp c9
    refine v_iconst C dX8_delay_12 ?_
    refine v_goto (tgt := 17) C dX8_delay_13 (by decide) ?_
    refine v_put C inw_8 tyX8 tyX8_ok nmX8 0 0 rfl (by decide) (List.mem_cons_of_mem _ mw_147) rfl rfl rfl rfl (Nat.le_of_ble_eq_true rfl) dX8_delay_17 (ws' := (mW (vG X) ad (up F 0 (up (F 0) 0 0)))) rfl ?_
    refine v_aload_n C dX8_delay_20 rfl 0 rfl ?_
    refine v_get (v := vI 0) C inw_8 0 0 rfl (by decide) (List.mem_cons_of_mem _ mw_147) rfl rfl dX8_delay_21 ?_
    refine v_if_ne (tgt := 35) C dX8_delay_24 (by decide) (by decide) (fun c => absurd (by decide) c) (fun _ => ?_)
    refine v_aload_n C dX8_delay_27 rfl 0 rfl ?_
    refine v_iload_n C dX8_delay_28 rfl 1 rfl ?_
    refine v_callV (na := 1) (wy := (Cond.code yX8_delayOf cX8_delayOf 3 (some .int) :: wsL_law)) (wc := (mW (vG X) ad (up F 0 (up (F 0) 0 0)))) (wr := []) C [vI f] [] (c_X8_delayOf _ _ ad (up F 0 (up (F 0) 0 0)) f (show -1 ≤ f ∧ f ≤ 10000 by omega) hB h70 h7 h4 hgo) rfl (gwV mw_692 mw_689 mw_690 mw_691 mw_5) rfl (by decide +kernel) 0 rfl rfl rfl rfl Sb.w rfl rfl dX8_delay_29 (fun r w1 hp29_2 => ?_)
    obtain ⟨_, rfl, rfl, x1, y1, z1, a1, b1, f41, f81, f91, rfl⟩ := hp29_2
    show V X 0 0 32 [(0, .ref (ad 0)), (1, vI f)] [vI (deF f (F 2))] ((mW (vG X) ad (up (up (up (up F 0 (up (up (up (up (up (up (up (F 0) 0 0) 20 x1) 22 y1) 23 z1) 24 0) 25 a1) 26 b1)) 4 (f41)) 8 (f81)) 9 (f91))))
    have hde29 := deF_in (f := f) hB (hgo 1 (-1) (F 2 4) (by decide) (by decide) (by omega)) (hgo 1 f (F 2 4) (by decide) (show -1 ≤ f ∧ f ≤ 10000 by omega) (by omega))
    refine v_goto (tgt := 36) C dX8_delay_32 (by decide) ?_
    exact v_iret C E rfl dX8_delay_36 (by decide) (by decide) (⟨_, rfl, Or.inr ⟨by omega, rfl, _, _, _, _, _, _, _, _, rfl⟩⟩)
set_option maxHeartbeats 4000000 in
set_option maxRecDepth 100000 in
theorem c_X8_worstFrame (G : GG) (l : Launch) (ad : Nat → Nat) (F : Int → Int → Int) (hB : sB 1000000 (F 2)) (h70 : 0 ≤ F 2 7) (h7 : F 2 7 ≤ 40) (h4 : 1 ≤ F 2 4 ∧ F 2 4 ≤ 7) (hgo : ∀ rd lost b : Int, (rd = 0 ∨ rd = 1) → (-1 ≤ lost ∧ lost ≤ 10000) → (0 ≤ b ∧ b ≤ 7) → GOk rd lost b (F 2)) (h30 : 0 ≤ F 2 3 ∧ F 2 3 ≤ 5000) : Ct G l yX8_worstFrame (Cond.code yX8_worstFrame cX8_worstFrame 6 (some .int) :: wsL_law) 8 181 0 0 [.ref (ad 0)] ((mW G ad F)) (fun r w => ∃ v : Int, r = some (vI v) ∧ v = wfF (F 2) ∧ ∃ (x y z a b : Int) (f4 f8 f9 : Int → Int), w = mW G ad (up (up (up (up F 0 (up (up (up (up (up (up (up (F 0) 0 0) 20 x) 22 y) 23 z) 24 0) 25 a) 26 b)) 4 f4) 8 f8) 9 f9)) := by
  refine Ct.of (own := RX8) (cc := cX8_worstFrame) (maxL := 6) (ret := (some .int)) (by decide) rfl rfl (Nat.le_of_ble_eq_true rfl) (fun X C E M hG hl => ?_)
  subst hG hl
  refine v_aload_n C dX8_worstFrame_0 rfl 0 rfl ?_
  refine v_iconst C dX8_worstFrame_1 ?_
  refine v_put C inw_8 tyX8 tyX8_ok nmX8 0 0 rfl (by decide) (List.mem_cons_of_mem _ mw_147) rfl rfl rfl rfl (Nat.le_of_ble_eq_true rfl) dX8_worstFrame_2 (ws' := (mW (vG X) ad (up F 0 (up (F 0) 0 0)))) rfl ?_
  refine v_aload_n C dX8_worstFrame_5 rfl 0 rfl ?_
  refine v_iconst C dX8_worstFrame_6 ?_
  refine v_iconst C dX8_worstFrame_7 ?_
  refine v_aload_n C dX8_worstFrame_8 rfl 0 rfl ?_
  refine v_get (v := .ref (ad 2)) C inw_8 0 10 rfl (by decide) (List.mem_cons_of_mem _ mw_105) rfl rfl dX8_worstFrame_9 ?_
  refine v_iconst C dX8_worstFrame_12 ?_
  refine v_iald C 2 rfl (by decide) (by decide) (by decide) dX8_worstFrame_13 ?_
  show V X 0 0 14 [(0, .ref (ad 0))] [vI (F 2 4), vI (-1), vI 1, .ref (ad 0)] ((mW (vG X) ad (up F 0 (up (F 0) 0 0))))
  refine v_callV (na := 3) (wy := (Cond.code yX8_goes cX8_goes 5 (some .boolean) :: wsL_law)) (wc := (mW (vG X) ad (up F 0 (up (F 0) 0 0)))) (wr := []) C [vI 1, vI (-1), vI (F 2 4)] [] (c_X8_goes _ _ ad (up F 0 (up (F 0) 0 0)) 1 (-1) (F 2 4) (by decide) (by decide) (show 0 ≤ (F 2 4) ∧ (F 2 4) ≤ 7 by omega) hB h70 h7 (hgo 1 (-1) (F 2 4) (by decide) (by decide) (show 0 ≤ (F 2 4) ∧ (F 2 4) ≤ 7 by omega)).1 (hgo 1 (-1) (F 2 4) (by decide) (by decide) (show 0 ≤ (F 2 4) ∧ (F 2 4) ≤ 7 by omega)).2.1 (hgo 1 (-1) (F 2 4) (by decide) (by decide) (show 0 ≤ (F 2 4) ∧ (F 2 4) ≤ 7 by omega)).2.2) rfl (gwV mw_645 mw_642 mw_643 mw_644 mw_5) rfl (by decide +kernel) 0 rfl rfl rfl rfl Sb.w rfl rfl dX8_worstFrame_14 (fun r w1 hp14_1 => ?_)
  obtain ⟨x1, y1, z1, f41, f81, f91, rfl, rfl⟩ := hp14_1
  show V X 0 0 17 [(0, .ref (ad 0))] [vI (bI (goO 1 (-1) (F 2 4) (F 2)))] ((mW (vG X) ad (up (up (up (up F 0 (up (up (up (up (up (up (up (F 0) 0 0) 20 x1) 22 y1) 23 z1) 24 0) 25 (goT 1 (-1) (F 2 4) (F 2))) 26 (goN 1 (-1) (F 2 4) (F 2)))) 4 (f41)) 8 (f81)) 9 (f91))))
  refine v_if_ne (tgt := 22) C dX8_worstFrame_17 (by decide) sm_bI (fun c17 => ?_) (fun c17 => ?_)
  · have c17 := bI_n0.mp c17
    have hN := goN_in (rd := 1) (lost := -1) (b := F 2 4) (σ := F 2)
    refine v_aload_n C dX8_worstFrame_22 rfl 0 rfl ?_
    refine v_get (v := vI (goN 1 (-1) (F 2 4) (F 2))) C inw_8 0 26 rfl (by decide) (List.mem_cons_of_mem _ mw_641) rfl rfl dX8_worstFrame_23 ?_
    refine v_istore_n C M dX8_worstFrame_26 rfl (by decide) (L' := [(1, vI (goN 1 (-1) (F 2 4) (F 2))), (0, .ref (ad 0))]) rfl ?_
    refine v_iconst C dX8_worstFrame_27 ?_
    refine v_istore_n C M dX8_worstFrame_28 rfl (by decide) (L' := [(2, vI (-1)), (1, vI (goN 1 (-1) (F 2 4) (F 2))), (0, .ref (ad 0))]) rfl ?_
    refine v_iconst C dX8_worstFrame_29 ?_
    refine v_istore_n C M dX8_worstFrame_30 rfl (by decide) (L' := [(3, vI 0), (2, vI (-1)), (1, vI (goN 1 (-1) (F 2 4) (F 2))), (0, .ref (ad 0))]) rfl ?_
    refine v_iconst C dX8_worstFrame_31 ?_
    refine v_istore C M dX8_worstFrame_32 (by decide) (L' := [(4, vI 0), (3, vI 0), (2, vI (-1)), (1, vI (goN 1 (-1) (F 2 4) (F 2))), (0, .ref (ad 0))]) rfl ?_
    refine V.loc (L' := [(0, .ref (ad 0)), (1, vI (goN 1 (-1) (F 2 4) (F 2))), (2, vI (-1)), (3, vI 0), (4, vI 0)]) [4, 3, 2, 1, 0] rfl ?_
    have lp : ∀ (n : Nat) (k : Nat) (x : Int) (y : Int) (z : Int) (a : Int) (b : Int) (f4 : Int → Int) (f8 : Int → Int) (f9 : Int → Int) (hk : (k : Int) ≤ goN 1 (-1) (F 2 4) (F 2)) (hm : goN 1 (-1) (F 2 4) (F 2) - (k : Int) < (n : Int)), V X 0 0 34 [(0, .ref (ad 0)), (1, vI (goN 1 (-1) (F 2 4) (F 2))), (2, vI (wfB (F 2) k).1), (3, vI (wfB (F 2) k).2), (4, vI (k : Int))] [] ((mW (vG X) ad (up (up (up (up F 0 (up (up (up (up (up (up (up (F 0) 0 0) 20 x) 22 y) 23 z) 24 0) 25 a) 26 b)) 4 (f4)) 8 (f8)) 9 (f9)))) := by
      intro n
      induction n with
      | zero => intro k x y z a b f4 f8 f9 hk hm; exact absurd hm (by omega)
      | succ n ih =>
        intro k x y z a b f4 f8 f9 hk hm
        have hbk := wfB_in (σ := F 2) hB hgo h4 h30 k (by omega)
        refine v_iload C dX8_worstFrame_34 4 rfl ?_
        refine v_iload_n C dX8_worstFrame_36 rfl 1 rfl ?_
        refine v_icmp_ge (tgt := 96) C dX8_worstFrame_37 (by decide) (by  first | assumption | exact ⟨by omega, by omega⟩) (by  first | assumption | exact ⟨by omega, by omega⟩) (fun c37 => ?_) (fun c37 => ?_)
        · have e2 : (k : Int) = goN 1 (-1) (F 2 4) (F 2) := by omega
          have e : k = goK 1 (gsF 1 (-1) (F 2 4) (F 2)) := Int.ofNat.inj e2
          refine v_iload_n C dX8_worstFrame_96 rfl 2 rfl ?_
          exact v_iret C E rfl dX8_worstFrame_97 (by decide) (by decide) (⟨_, rfl, (by rw [wfF, if_pos c17, ← e]), _, _, _, _, _, _, _, _, rfl⟩)
        · refine v_aload_n C dX8_worstFrame_40 rfl 0 rfl ?_
          refine v_aload_n C dX8_worstFrame_41 rfl 0 rfl ?_
          refine v_get (v := .ref (ad 2)) C inw_8 0 10 rfl (by decide) (List.mem_cons_of_mem _ mw_105) rfl rfl dX8_worstFrame_42 ?_
          refine v_iconst C dX8_worstFrame_45 ?_
          refine v_iald C 2 rfl (by decide) (by decide) (by decide) dX8_worstFrame_46 ?_
          show V X 0 0 47 [(0, .ref (ad 0)), (1, vI (goN 1 (-1) (F 2 4) (F 2))), (2, vI (wfB (F 2) k).1), (3, vI (wfB (F 2) k).2), (4, vI (k : Int))] [vI (F 2 3), .ref (ad 0)] ((mW (vG X) ad (up (up (up (up F 0 (up (up (up (up (up (up (up (F 0) 0 0) 20 x) 22 y) 23 z) 24 0) 25 a) 26 b)) 4 (f4)) 8 (f8)) 9 (f9))))
          refine v_iload C dX8_worstFrame_47 4 rfl ?_
          refine v_iadd C dX8_worstFrame_49 ?_
          refine v_callV (na := 1) (wy := (Cond.code yX8_delayOf cX8_delayOf 3 (some .int) :: wsL_law)) (wc := (mW (vG X) ad (up (up (up (up F 0 (up (up (up (up (up (up (up (F 0) 0 0) 20 x) 22 y) 23 z) 24 0) 25 a) 26 b)) 4 (f4)) 8 (f8)) 9 (f9)))) (wr := []) C [vI ((F 2 3) + (k : Int))] [] (c_X8_delayOf _ _ ad (up (up (up (up F 0 (up (up (up (up (up (up (up (F 0) 0 0) 20 x) 22 y) 23 z) 24 0) 25 a) 26 b)) 4 (f4)) 8 (f8)) 9 (f9)) ((F 2 3) + (k : Int)) (show -1 ≤ ((F 2 3) + (k : Int)) ∧ ((F 2 3) + (k : Int)) ≤ 10000 by omega) hB h70 h7 h4 hgo) rfl (gwV mw_692 mw_689 mw_690 mw_691 mw_5) rfl (by decide +kernel) 0 rfl rfl rfl rfl Sb.w rfl rfl dX8_worstFrame_50 (fun r w1 hp50_2 => ?_)
          obtain ⟨_, rfl, rfl, x2, y2, z2, a2, b2, f42, f82, f92, rfl⟩ := hp50_2
          show V X 0 0 53 [(0, .ref (ad 0)), (1, vI (goN 1 (-1) (F 2 4) (F 2))), (2, vI (wfB (F 2) k).1), (3, vI (wfB (F 2) k).2), (4, vI (k : Int))] [vI (deF ((F 2 3) + (k : Int)) (F 2))] ((mW (vG X) ad (up (up (up (up F 0 (up (up (up (up (up (up (up (F 0) 0 0) 20 x2) 22 y2) 23 z2) 24 0) 25 a2) 26 b2)) 4 (f42)) 8 (f82)) 9 (f92))))
          have hde50 := deF_in (f := ((F 2 3) + (k : Int))) hB (hgo 1 (-1) (F 2 4) (by decide) (by decide) (by omega)) (hgo 1 ((F 2 3) + (k : Int)) (F 2 4) (by decide) (show -1 ≤ ((F 2 3) + (k : Int)) ∧ ((F 2 3) + (k : Int)) ≤ 10000 by omega) (by omega))
          refine v_istore C M dX8_worstFrame_53 (by decide) (L' := [(5, vI (deF ((F 2 3) + (k : Int)) (F 2))), (0, .ref (ad 0)), (1, vI (goN 1 (-1) (F 2 4) (F 2))), (2, vI (wfB (F 2) k).1), (3, vI (wfB (F 2) k).2), (4, vI (k : Int))]) rfl ?_
          refine v_iload C dX8_worstFrame_55 0 rfl ?_
          refine v_sipush C dX8_worstFrame_57 (by decide +kernel) ?_
          refine v_icmp_eq (tgt := 90) C dX8_worstFrame_60 (by decide) (by  first | assumption | exact ⟨by omega, by omega⟩) (by decide) (fun c60 => ?_) (fun c60 => ?_)
          · skip
            refine v_iinc C M dX8_worstFrame_90 5 rfl (by decide) (z' := ((k : Int) + 1)) rfl (L' := [(4, vI ((k : Int) + 1)), (5, vI (deF ((F 2 3) + (k : Int)) (F 2))), (0, .ref (ad 0)), (1, vI (goN 1 (-1) (F 2 4) (F 2))), (2, vI (wfB (F 2) k).1), (3, vI (wfB (F 2) k).2)]) rfl ?_
            refine v_goto (tgt := 34) C dX8_worstFrame_93 (by decide) ?_
            refine V.loc (L' := [(0, .ref (ad 0)), (1, vI (goN 1 (-1) (F 2 4) (F 2))), (2, vI (wfB (F 2) k).1), (3, vI (wfB (F 2) k).2), (4, vI ((k : Int) + 1))]) [2, 3, 4, 5, 0] rfl ?_
            have key := fun x y z a b f4 f8 f9 => ih (k + 1) x y z a b f4 f8 f9 (by omega) (by omega)
            rw [show wfB (F 2) (k + 1) = wfB (F 2) k from if_pos (Or.inl c60)] at key
            exact key _ _ _ _ _ _ _ _
          · refine v_iload_n C dX8_worstFrame_63 rfl 3 rfl ?_
            refine v_iconst C dX8_worstFrame_64 ?_
            refine v_icmp_eq (tgt := 77) C dX8_worstFrame_65 (by decide) (by  first | assumption | exact ⟨by omega, by omega⟩) (by decide) (fun c65 => ?_) (fun c65 => ?_)
            · skip
              refine v_aload_n C dX8_worstFrame_77 rfl 1 rfl ?_
              refine v_get (v := .ref (ad 2)) C inw_8 0 10 rfl (by decide) (List.mem_cons_of_mem _ mw_105) rfl rfl dX8_worstFrame_78 ?_
              refine v_iconst C dX8_worstFrame_81 ?_
              refine v_iald C 2 rfl (by decide) (by decide) (by decide) dX8_worstFrame_82 ?_
              show V X 0 0 83 [(5, vI (deF ((F 2 3) + (k : Int)) (F 2))), (0, .ref (ad 0)), (1, vI (goN 1 (-1) (F 2 4) (F 2))), (2, vI (wfB (F 2) k).1), (3, vI (wfB (F 2) k).2), (4, vI (k : Int))] [vI (F 2 3)] ((mW (vG X) ad (up (up (up (up F 0 (up (up (up (up (up (up (up (F 0) 0 0) 20 x2) 22 y2) 23 z2) 24 0) 25 a2) 26 b2)) 4 (f42)) 8 (f82)) 9 (f92))))
              refine v_iload C dX8_worstFrame_83 5 rfl ?_
              refine v_iadd C dX8_worstFrame_85 ?_
              refine v_istore_n C M dX8_worstFrame_86 rfl (by decide) (L' := [(2, vI ((F 2 3) + (k : Int))), (5, vI (deF ((F 2 3) + (k : Int)) (F 2))), (0, .ref (ad 0)), (1, vI (goN 1 (-1) (F 2 4) (F 2))), (3, vI (wfB (F 2) k).2), (4, vI (k : Int))]) rfl ?_
              refine v_iload C dX8_worstFrame_87 1 rfl ?_
              refine v_istore_n C M dX8_worstFrame_89 rfl (by decide) (L' := [(3, vI (deF ((F 2 3) + (k : Int)) (F 2))), (2, vI ((F 2 3) + (k : Int))), (5, vI (deF ((F 2 3) + (k : Int)) (F 2))), (0, .ref (ad 0)), (1, vI (goN 1 (-1) (F 2 4) (F 2))), (4, vI (k : Int))]) rfl ?_
              refine v_iinc C M dX8_worstFrame_90 5 rfl (by decide) (z' := ((k : Int) + 1)) rfl (L' := [(4, vI ((k : Int) + 1)), (3, vI (deF ((F 2 3) + (k : Int)) (F 2))), (2, vI ((F 2 3) + (k : Int))), (5, vI (deF ((F 2 3) + (k : Int)) (F 2))), (0, .ref (ad 0)), (1, vI (goN 1 (-1) (F 2 4) (F 2)))]) rfl ?_
              refine v_goto (tgt := 34) C dX8_worstFrame_93 (by decide) ?_
              refine V.loc (L' := [(0, .ref (ad 0)), (1, vI (goN 1 (-1) (F 2 4) (F 2))), (2, vI ((F 2 3) + (k : Int))), (3, vI (deF ((F 2 3) + (k : Int)) (F 2))), (4, vI ((k : Int) + 1))]) [4, 5, 2, 1, 0] rfl ?_
              have key := fun x y z a b f4 f8 f9 => ih (k + 1) x y z a b f4 f8 f9 (by omega) (by omega)
              rw [show wfB (F 2) (k + 1) = (F 2 3 + (k : Int), (deF (F 2 3 + (k : Int)) (F 2))) from if_neg (fun h => h.elim c60 (fun g => g.1 c65))] at key
              exact key _ _ _ _ _ _ _ _
            · refine v_iload C dX8_worstFrame_68 0 rfl ?_
              refine v_iload_n C dX8_worstFrame_70 rfl 4 rfl ?_
              refine v_icmp_gt (tgt := 77) C dX8_worstFrame_71 (by decide) (by  first | assumption | exact ⟨by omega, by omega⟩) (by  first | assumption | exact ⟨by omega, by omega⟩) (fun c71 => ?_) (fun c71 => ?_)
              · skip
                refine v_aload_n C dX8_worstFrame_77 rfl 1 rfl ?_
                refine v_get (v := .ref (ad 2)) C inw_8 0 10 rfl (by decide) (List.mem_cons_of_mem _ mw_105) rfl rfl dX8_worstFrame_78 ?_
                refine v_iconst C dX8_worstFrame_81 ?_
                refine v_iald C 2 rfl (by decide) (by decide) (by decide) dX8_worstFrame_82 ?_
                show V X 0 0 83 [(5, vI (deF ((F 2 3) + (k : Int)) (F 2))), (0, .ref (ad 0)), (1, vI (goN 1 (-1) (F 2 4) (F 2))), (2, vI (wfB (F 2) k).1), (3, vI (wfB (F 2) k).2), (4, vI (k : Int))] [vI (F 2 3)] ((mW (vG X) ad (up (up (up (up F 0 (up (up (up (up (up (up (up (F 0) 0 0) 20 x2) 22 y2) 23 z2) 24 0) 25 a2) 26 b2)) 4 (f42)) 8 (f82)) 9 (f92))))
                refine v_iload C dX8_worstFrame_83 5 rfl ?_
                refine v_iadd C dX8_worstFrame_85 ?_
                refine v_istore_n C M dX8_worstFrame_86 rfl (by decide) (L' := [(2, vI ((F 2 3) + (k : Int))), (5, vI (deF ((F 2 3) + (k : Int)) (F 2))), (0, .ref (ad 0)), (1, vI (goN 1 (-1) (F 2 4) (F 2))), (3, vI (wfB (F 2) k).2), (4, vI (k : Int))]) rfl ?_
                refine v_iload C dX8_worstFrame_87 1 rfl ?_
                refine v_istore_n C M dX8_worstFrame_89 rfl (by decide) (L' := [(3, vI (deF ((F 2 3) + (k : Int)) (F 2))), (2, vI ((F 2 3) + (k : Int))), (5, vI (deF ((F 2 3) + (k : Int)) (F 2))), (0, .ref (ad 0)), (1, vI (goN 1 (-1) (F 2 4) (F 2))), (4, vI (k : Int))]) rfl ?_
                refine v_iinc C M dX8_worstFrame_90 5 rfl (by decide) (z' := ((k : Int) + 1)) rfl (L' := [(4, vI ((k : Int) + 1)), (3, vI (deF ((F 2 3) + (k : Int)) (F 2))), (2, vI ((F 2 3) + (k : Int))), (5, vI (deF ((F 2 3) + (k : Int)) (F 2))), (0, .ref (ad 0)), (1, vI (goN 1 (-1) (F 2 4) (F 2)))]) rfl ?_
                refine v_goto (tgt := 34) C dX8_worstFrame_93 (by decide) ?_
                refine V.loc (L' := [(0, .ref (ad 0)), (1, vI (goN 1 (-1) (F 2 4) (F 2))), (2, vI ((F 2 3) + (k : Int))), (3, vI (deF ((F 2 3) + (k : Int)) (F 2))), (4, vI ((k : Int) + 1))]) [4, 5, 2, 1, 0] rfl ?_
                have key := fun x y z a b f4 f8 f9 => ih (k + 1) x y z a b f4 f8 f9 (by omega) (by omega)
                rw [show wfB (F 2) (k + 1) = (F 2 3 + (k : Int), (deF (F 2 3 + (k : Int)) (F 2))) from if_neg (fun h => h.elim c60 (fun g => absurd c71 (by omega)))] at key
                exact key _ _ _ _ _ _ _ _
              · skip
                refine v_goto (tgt := 90) C dX8_worstFrame_74 (by decide) ?_
                refine v_iinc C M dX8_worstFrame_90 5 rfl (by decide) (z' := ((k : Int) + 1)) rfl (L' := [(4, vI ((k : Int) + 1)), (5, vI (deF ((F 2 3) + (k : Int)) (F 2))), (0, .ref (ad 0)), (1, vI (goN 1 (-1) (F 2 4) (F 2))), (2, vI (wfB (F 2) k).1), (3, vI (wfB (F 2) k).2)]) rfl ?_
                refine v_goto (tgt := 34) C dX8_worstFrame_93 (by decide) ?_
                refine V.loc (L' := [(0, .ref (ad 0)), (1, vI (goN 1 (-1) (F 2 4) (F 2))), (2, vI (wfB (F 2) k).1), (3, vI (wfB (F 2) k).2), (4, vI ((k : Int) + 1))]) [2, 3, 4, 5, 0] rfl ?_
                have key := fun x y z a b f4 f8 f9 => ih (k + 1) x y z a b f4 f8 f9 (by omega) (by omega)
                rw [show wfB (F 2) (k + 1) = wfB (F 2) k from if_pos (Or.inr ⟨c65, by omega⟩)] at key
                exact key _ _ _ _ _ _ _ _
    exact lp 601 0 _ _ _ _ _ _ _ _ (by omega) (by omega)
  · have c17 := bI_0.mp c17
    refine v_iconst C dX8_worstFrame_20 ?_
    exact v_iret C E rfl dX8_worstFrame_21 (by decide) (by decide) (⟨_, rfl, (if_neg c17).symm, _, _, _, _, _, _, _, _, rfl⟩)
set_option maxHeartbeats 4000000 in
set_option maxRecDepth 100000 in
theorem c_X8_bestBurst (G : GG) (l : Launch) (ad : Nat → Nat) (F : Int → Int → Int) (hB : sB 1000000 (F 2)) (h70 : 0 ≤ F 2 7) (h7 : F 2 7 ≤ 40) (h4 : 1 ≤ F 2 4 ∧ F 2 4 ≤ 7) (hgo : ∀ rd lost b : Int, (rd = 0 ∨ rd = 1) → (-1 ≤ lost ∧ lost ≤ 10000) → (0 ≤ b ∧ b ≤ 7) → GOk rd lost b (F 2)) (hr : F 0 24 = 0) : Ct G l yX8_bestBurst (Cond.code yX8_bestBurst cX8_bestBurst 4 (some .int) :: wsL_law) 7 159 0 0 [.ref (ad 0)] ((mW G ad F)) (fun r w => ∃ v : Int, r = some (vI v) ∧ v = (bbB (F 2) 7).1 ∧ ∃ (x y z a b : Int) (f4 f8 f9 : Int → Int), w = mW G ad (up (up (up (up F 0 (up (up (up (up (up (up (up (F 0) 0 0) 20 x) 22 y) 23 z) 24 0) 25 a) 26 b)) 4 f4) 8 f8) 9 f9)) := by
  refine Ct.of (own := RX8) (cc := cX8_bestBurst) (maxL := 4) (ret := (some .int)) (by decide) rfl rfl (Nat.le_of_ble_eq_true rfl) (fun X C E M hG hl => ?_)
  subst hG hl
  refine v_aload_n C dX8_bestBurst_0 rfl 0 rfl ?_
  refine v_iconst C dX8_bestBurst_1 ?_
  refine v_put C inw_8 tyX8 tyX8_ok nmX8 0 0 rfl (by decide) (List.mem_cons_of_mem _ mw_147) rfl rfl rfl rfl (Nat.le_of_ble_eq_true rfl) dX8_bestBurst_2 (ws' := (mW (vG X) ad (up F 0 (up (F 0) 0 0)))) rfl ?_
  refine v_iconst C dX8_bestBurst_5 ?_
  refine v_istore_n C M dX8_bestBurst_6 rfl (by decide) (L' := [(1, vI (-1)), (0, .ref (ad 0))]) rfl ?_
  refine v_iconst C dX8_bestBurst_7 ?_
  refine v_istore_n C M dX8_bestBurst_8 rfl (by decide) (L' := [(2, vI 0), (1, vI (-1)), (0, .ref (ad 0))]) rfl ?_
  refine v_iconst C dX8_bestBurst_9 ?_
  refine v_istore_n C M dX8_bestBurst_10 rfl (by decide) (L' := [(3, vI 1), (2, vI 0), (1, vI (-1)), (0, .ref (ad 0))]) rfl ?_
  refine V.loc (L' := [(0, .ref (ad 0)), (1, vI (-1)), (2, vI 0), (3, vI 1)]) [3, 2, 1, 0] rfl ?_
  have lp : ∀ (n : Nat) (k : Nat) (x : Int) (y : Int) (z : Int) (a : Int) (b : Int) (f4 : Int → Int) (f8 : Int → Int) (f9 : Int → Int) (hk : k ≤ 7) (hm : 7 - (k : Int) < (n : Int)), V X 0 0 11 [(0, .ref (ad 0)), (1, vI (bbB (F 2) k).1), (2, vI (bbB (F 2) k).2), (3, vI ((k : Int) + 1))] [] ((mW (vG X) ad (up (up (up (up F 0 (up (up (up (up (up (up (up (F 0) 0 0) 20 x) 22 y) 23 z) 24 0) 25 a) 26 b)) 4 (f4)) 8 (f8)) 9 (f9)))) := by
    intro n
    induction n with
    | zero => intro k x y z a b f4 f8 f9 hk hm; exact absurd hm (by omega)
    | succ n ih =>
      intro k x y z a b f4 f8 f9 hk hm
      have hbk := bbB_in (σ := F 2) hB hgo k (by omega)
      refine v_iload_n C dX8_bestBurst_11 rfl 3 rfl ?_
      refine v_bipush C dX8_bestBurst_12 (by decide +kernel) ?_
      refine v_icmp_gt (tgt := 56) C dX8_bestBurst_14 (by decide) (by  first | assumption | exact ⟨by omega, by omega⟩) (by decide) (fun c14 => ?_) (fun c14 => ?_)
      · obtain rfl : k = 7 := by omega
        refine v_iload_n C dX8_bestBurst_56 rfl 1 rfl ?_
        exact v_iret C E rfl dX8_bestBurst_57 (by decide) (by decide) (⟨_, rfl, rfl, _, _, _, _, _, _, _, _, rfl⟩)
      · refine v_aload_n C dX8_bestBurst_17 rfl 0 rfl ?_
        refine v_iconst C dX8_bestBurst_18 ?_
        refine v_iconst C dX8_bestBurst_19 ?_
        refine v_iload_n C dX8_bestBurst_20 rfl 3 rfl ?_
        refine v_callV (na := 3) (wy := (Cond.code yX8_goes cX8_goes 5 (some .boolean) :: wsL_law)) (wc := (mW (vG X) ad (up (up (up (up F 0 (up (up (up (up (up (up (up (F 0) 0 0) 20 x) 22 y) 23 z) 24 0) 25 a) 26 b)) 4 (f4)) 8 (f8)) 9 (f9)))) (wr := []) C [vI 1, vI (-1), vI ((k : Int) + 1)] [] (c_X8_goes _ _ ad (up (up (up (up F 0 (up (up (up (up (up (up (up (F 0) 0 0) 20 x) 22 y) 23 z) 24 0) 25 a) 26 b)) 4 (f4)) 8 (f8)) 9 (f9)) 1 (-1) ((k : Int) + 1) (by decide) (by decide) (show 0 ≤ ((k : Int) + 1) ∧ ((k : Int) + 1) ≤ 7 by omega) hB h70 h7 (hgo 1 (-1) ((k : Int) + 1) (by decide) (by decide) (show 0 ≤ ((k : Int) + 1) ∧ ((k : Int) + 1) ≤ 7 by omega)).1 (hgo 1 (-1) ((k : Int) + 1) (by decide) (by decide) (show 0 ≤ ((k : Int) + 1) ∧ ((k : Int) + 1) ≤ 7 by omega)).2.1 (hgo 1 (-1) ((k : Int) + 1) (by decide) (by decide) (show 0 ≤ ((k : Int) + 1) ∧ ((k : Int) + 1) ≤ 7 by omega)).2.2) rfl (gwV mw_645 mw_642 mw_643 mw_644 mw_5) rfl (by decide +kernel) 0 rfl rfl rfl rfl Sb.w rfl rfl dX8_bestBurst_21 (fun r w1 hp21_1 => ?_)
        obtain ⟨x1, y1, z1, f41, f81, f91, rfl, rfl⟩ := hp21_1
        show V X 0 0 24 [(0, .ref (ad 0)), (1, vI (bbB (F 2) k).1), (2, vI (bbB (F 2) k).2), (3, vI ((k : Int) + 1))] [vI (bI (goO 1 (-1) ((k : Int) + 1) (F 2)))] ((mW (vG X) ad (up (up (up (up F 0 (up (up (up (up (up (up (up (F 0) 0 0) 20 x1) 22 y1) 23 z1) 24 0) 25 (goT 1 (-1) ((k : Int) + 1) (F 2))) 26 (goN 1 (-1) ((k : Int) + 1) (F 2)))) 4 (f41)) 8 (f81)) 9 (f91))))
        have hgt := goT_in hB (hgo 1 (-1) ((k : Int) + 1) (by decide) (by decide) (by omega))
        refine v_if_eq (tgt := 50) C dX8_bestBurst_24 (by decide) sm_bI (fun c24 => ?_) (fun c24 => ?_)
        · have c24 := bI_0.mp c24
          refine v_iinc C M dX8_bestBurst_50 3 rfl (by decide) (z' := (((k : Int) + 1) + 1)) rfl (L' := [(3, vI (((k : Int) + 1) + 1)), (0, .ref (ad 0)), (1, vI (bbB (F 2) k).1), (2, vI (bbB (F 2) k).2)]) rfl ?_
          refine v_goto (tgt := 11) C dX8_bestBurst_53 (by decide) ?_
          refine V.loc (L' := [(0, .ref (ad 0)), (1, vI (bbB (F 2) k).1), (2, vI (bbB (F 2) k).2), (3, vI (((k : Int) + 1) + 1))]) [1, 2, 3, 0] rfl ?_
          have key := fun x y z a b f4 f8 f9 => ih (k + 1) x y z a b f4 f8 f9 (by omega) (by omega)
          rw [show bbB (F 2) (k + 1) = bbB (F 2) k from if_pos (Or.inl c24)] at key
          exact key _ _ _ _ _ _ _ _
        · have c24 := bI_n0.mp c24
          refine v_iload_n C dX8_bestBurst_27 rfl 1 rfl ?_
          refine v_iconst C dX8_bestBurst_28 ?_
          refine v_icmp_eq (tgt := 43) C dX8_bestBurst_29 (by decide) (by  first | assumption | exact ⟨by omega, by omega⟩) (by decide) (fun c29 => ?_) (fun c29 => ?_)
          · skip
            refine v_iload_n C dX8_bestBurst_43 rfl 3 rfl ?_
            refine v_istore_n C M dX8_bestBurst_44 rfl (by decide) (L' := [(1, vI ((k : Int) + 1)), (0, .ref (ad 0)), (2, vI (bbB (F 2) k).2), (3, vI ((k : Int) + 1))]) rfl ?_
            refine v_aload_n C dX8_bestBurst_45 rfl 1 rfl ?_
            refine v_get (v := vI (goT 1 (-1) ((k : Int) + 1) (F 2))) C inw_8 0 25 rfl (by decide) (List.mem_cons_of_mem _ mw_640) rfl rfl dX8_bestBurst_46 ?_
            refine v_istore_n C M dX8_bestBurst_49 rfl (by decide) (L' := [(2, vI (goT 1 (-1) ((k : Int) + 1) (F 2))), (1, vI ((k : Int) + 1)), (0, .ref (ad 0)), (3, vI ((k : Int) + 1))]) rfl ?_
            refine v_iinc C M dX8_bestBurst_50 3 rfl (by decide) (z' := (((k : Int) + 1) + 1)) rfl (L' := [(3, vI (((k : Int) + 1) + 1)), (2, vI (goT 1 (-1) ((k : Int) + 1) (F 2))), (1, vI ((k : Int) + 1)), (0, .ref (ad 0))]) rfl ?_
            refine v_goto (tgt := 11) C dX8_bestBurst_53 (by decide) ?_
            refine V.loc (L' := [(0, .ref (ad 0)), (1, vI ((k : Int) + 1)), (2, vI (goT 1 (-1) ((k : Int) + 1) (F 2))), (3, vI (((k : Int) + 1) + 1))]) [3, 2, 1, 0] rfl ?_
            have key := fun x y z a b f4 f8 f9 => ih (k + 1) x y z a b f4 f8 f9 (by omega) (by omega)
            rw [show bbB (F 2) (k + 1) = ((k : Int) + 1, goT 1 (-1) ((k : Int) + 1) (F 2)) from if_neg (fun h => h.elim (fun g => g c24) (fun g => g.1 c29))] at key
            exact key _ _ _ _ _ _ _ _
          · refine v_aload_n C dX8_bestBurst_32 rfl 0 rfl ?_
            refine v_get (v := vI (goT 1 (-1) ((k : Int) + 1) (F 2))) C inw_8 0 25 rfl (by decide) (List.mem_cons_of_mem _ mw_640) rfl rfl dX8_bestBurst_33 ?_
            refine v_iload_n C dX8_bestBurst_36 rfl 2 rfl ?_
            refine v_icmp_lt (tgt := 43) C dX8_bestBurst_37 (by decide) (by  first | assumption | exact ⟨by omega, by omega⟩) (by  first | assumption | exact ⟨by omega, by omega⟩) (fun c37 => ?_) (fun c37 => ?_)
            · skip
              refine v_iload_n C dX8_bestBurst_43 rfl 3 rfl ?_
              refine v_istore_n C M dX8_bestBurst_44 rfl (by decide) (L' := [(1, vI ((k : Int) + 1)), (0, .ref (ad 0)), (2, vI (bbB (F 2) k).2), (3, vI ((k : Int) + 1))]) rfl ?_
              refine v_aload_n C dX8_bestBurst_45 rfl 1 rfl ?_
              refine v_get (v := vI (goT 1 (-1) ((k : Int) + 1) (F 2))) C inw_8 0 25 rfl (by decide) (List.mem_cons_of_mem _ mw_640) rfl rfl dX8_bestBurst_46 ?_
              refine v_istore_n C M dX8_bestBurst_49 rfl (by decide) (L' := [(2, vI (goT 1 (-1) ((k : Int) + 1) (F 2))), (1, vI ((k : Int) + 1)), (0, .ref (ad 0)), (3, vI ((k : Int) + 1))]) rfl ?_
              refine v_iinc C M dX8_bestBurst_50 3 rfl (by decide) (z' := (((k : Int) + 1) + 1)) rfl (L' := [(3, vI (((k : Int) + 1) + 1)), (2, vI (goT 1 (-1) ((k : Int) + 1) (F 2))), (1, vI ((k : Int) + 1)), (0, .ref (ad 0))]) rfl ?_
              refine v_goto (tgt := 11) C dX8_bestBurst_53 (by decide) ?_
              refine V.loc (L' := [(0, .ref (ad 0)), (1, vI ((k : Int) + 1)), (2, vI (goT 1 (-1) ((k : Int) + 1) (F 2))), (3, vI (((k : Int) + 1) + 1))]) [3, 2, 1, 0] rfl ?_
              have key := fun x y z a b f4 f8 f9 => ih (k + 1) x y z a b f4 f8 f9 (by omega) (by omega)
              rw [show bbB (F 2) (k + 1) = ((k : Int) + 1, goT 1 (-1) ((k : Int) + 1) (F 2)) from if_neg (fun h => h.elim (fun g => g c24) (fun g => absurd c37 (by omega)))] at key
              exact key _ _ _ _ _ _ _ _
            · skip
              refine v_goto (tgt := 50) C dX8_bestBurst_40 (by decide) ?_
              refine v_iinc C M dX8_bestBurst_50 3 rfl (by decide) (z' := (((k : Int) + 1) + 1)) rfl (L' := [(3, vI (((k : Int) + 1) + 1)), (0, .ref (ad 0)), (1, vI (bbB (F 2) k).1), (2, vI (bbB (F 2) k).2)]) rfl ?_
              refine v_goto (tgt := 11) C dX8_bestBurst_53 (by decide) ?_
              refine V.loc (L' := [(0, .ref (ad 0)), (1, vI (bbB (F 2) k).1), (2, vI (bbB (F 2) k).2), (3, vI (((k : Int) + 1) + 1))]) [1, 2, 3, 0] rfl ?_
              have key := fun x y z a b f4 f8 f9 => ih (k + 1) x y z a b f4 f8 f9 (by omega) (by omega)
              rw [show bbB (F 2) (k + 1) = bbB (F 2) k from if_pos (Or.inr ⟨c29, by omega⟩)] at key
              exact key _ _ _ _ _ _ _ _
  refine V.wld (ws' := mW (vG X) ad (up F 0 (up (up (F 0) 0 0) 24 0))) (by rw [up_id (f := up (F 0) 0 0) (i := 24) (v := 0) hr]) ?_
  exact lp 8 0 (F 0 20) (F 0 22) (F 0 23) (F 0 25) (F 0 26) (F 4) (F 8) (F 9) (by omega) (by omega)
end M6
