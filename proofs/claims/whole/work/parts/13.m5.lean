section M5
set_option maxHeartbeats 4000000 in
set_option maxRecDepth 100000 in
theorem c_X8_size (G : GG) (l : Launch) (ad : Nat → Nat) (F : Int → Int → Int) (q : Int) (hq : sm q) : Ct G l yX8_size (Cond.code yX8_size cX8_size 2 (some .int) :: wsL_law) 1 22 0 0 [.ref (ad 0), vI q] ((mW G ad F)) (fun r w => ∃ v : Int, r = some (vI v) ∧ (((¬ (0 ≤ q ∧ q ≤ 6)) ∧ w = mW G ad (up F 0 (up (F 0) 0 1))) ∨ ((0 ≤ q ∧ q ≤ 6) ∧ v = szF (F 2) (F 0 14) q ∧ w = mW G ad (up F 0 (up (F 0) 0 0))))) := by
  refine Ct.of (own := RX8) (cc := cX8_size) (maxL := 2) (ret := (some .int)) (by decide) rfl rfl (Nat.le_of_ble_eq_true rfl) (fun X C E M hG hl => ?_)
  subst hG hl
  refine v_aload_n C dX8_size_0 rfl 0 rfl ?_
  refine v_iload_n C dX8_size_1 rfl 1 rfl ?_
  refine v_iconst C dX8_size_2 ?_
  refine v_bipush C dX8_size_3 (by decide +kernel) ?_
  refine v_callS (na := 3) (wy := (Cond.code yX8_within cX8_within 3 (some .boolean) :: wsL_law)) (wc := []) (wr := (mW (vG X) ad F)) C [vI q, vI 0, vI 6] [.ref (ad 0)] (c_X8_within _ _ q 0 6 (by first | assumption | exact ⟨by omega, by omega⟩) (by decide) (by decide)) rfl (gwS mw_343 mw_341 mw_342 mw_5) (by decide +kernel) rfl rfl Sb.rf rfl rfl dX8_size_5 (fun r w1 hp5_1 => ?_)
  obtain ⟨rfl, rfl⟩ := hp5_1
  show V X 0 0 8 [(0, .ref (ad 0)), (1, vI q)] [vI (bI (0 ≤ q ∧ q ≤ 6)), .ref (ad 0)] ((mW (vG X) ad F))
  refine v_if_eq (tgt := 15) C dX8_size_8 (by decide) sm_bI (fun c8 => ?_) (fun c8 => ?_)
  · have c8 := bI_0.mp c8
    refine v_iconst C dX8_size_15 ?_
    refine v_put C inw_8 tyX8 tyX8_ok nmX8 0 0 rfl (by decide) (List.mem_cons_of_mem _ mw_147) rfl rfl rfl rfl (Nat.le_of_ble_eq_true rfl) dX8_size_16 (ws' := (mW (vG X) ad (up F 0 (up (F 0) 0 1)))) rfl ?_
    refine v_aload_n C dX8_size_19 rfl 0 rfl ?_
    refine v_get (v := vI 1) C inw_8 0 0 rfl (by decide) (List.mem_cons_of_mem _ mw_147) rfl rfl dX8_size_20 ?_
    refine v_if_le (tgt := 28) C dX8_size_23 (by decide) (by decide) (fun c => absurd c (by decide)) (fun _ => ?_)
    refine v_iconst C dX8_size_26 ?_
    exact v_iret C E rfl dX8_size_27 (by decide) (by decide) (⟨_, rfl, Or.inl ⟨by omega, rfl⟩⟩)
  · have c8 := bI_n0.mp c8
    refine v_iconst C dX8_size_11 ?_
    refine v_goto (tgt := 16) C dX8_size_12 (by decide) ?_
    refine v_put C inw_8 tyX8 tyX8_ok nmX8 0 0 rfl (by decide) (List.mem_cons_of_mem _ mw_147) rfl rfl rfl rfl (Nat.le_of_ble_eq_true rfl) dX8_size_16 (ws' := (mW (vG X) ad (up F 0 (up (F 0) 0 0)))) rfl ?_
    refine v_aload_n C dX8_size_19 rfl 0 rfl ?_
    refine v_get (v := vI 0) C inw_8 0 0 rfl (by decide) (List.mem_cons_of_mem _ mw_147) rfl rfl dX8_size_20 ?_
    refine v_if_le (tgt := 28) C dX8_size_23 (by decide) (by decide) (fun _ => ?_) (fun c => absurd (by decide) c)
    rcases (show q = 0 ∨ q = 1 ∨ q = 2 ∨ q = 3 ∨ q = 4 ∨ q = 5 ∨ q = 6 by omega) with rfl | rfl | rfl | rfl | rfl | rfl | rfl
    · skip
      refine v_iload_n C dX8_size_28 rfl 1 rfl ?_
      refine v_tabIn (tgt := 68) C dX8_size_29 (by decide) (by decide) (by decide) rfl (by decide) ?_
      refine v_aload_n C dX8_size_68 rfl 0 rfl ?_
      refine v_get (v := .ref (ad 2)) C inw_8 0 10 rfl (by decide) (List.mem_cons_of_mem _ mw_105) rfl rfl dX8_size_69 ?_
      refine v_iconst C dX8_size_72 ?_
      refine v_iald C 2 rfl (by decide) (by decide) (by decide) dX8_size_73 ?_
      show V X 0 0 74 [(0, .ref (ad 0)), (1, vI 0)] [vI (F 2 4)] ((mW (vG X) ad (up F 0 (up (F 0) 0 0))))
      exact v_iret C E rfl dX8_size_74 (by decide) (by decide) (⟨_, rfl, Or.inr (⟨by omega, rfl, rfl⟩)⟩)
    · skip
      refine v_iload_n C dX8_size_28 rfl 1 rfl ?_
      refine v_tabIn (tgt := 75) C dX8_size_29 (by decide) (by decide) (by decide) rfl (by decide) ?_
      refine v_aload_n C dX8_size_75 rfl 0 rfl ?_
      refine v_get (v := .ref (ad 2)) C inw_8 0 10 rfl (by decide) (List.mem_cons_of_mem _ mw_105) rfl rfl dX8_size_76 ?_
      refine v_iconst C dX8_size_79 ?_
      refine v_iald C 2 rfl (by decide) (by decide) (by decide) dX8_size_80 ?_
      show V X 0 0 81 [(0, .ref (ad 0)), (1, vI 1)] [vI (F 2 5)] ((mW (vG X) ad (up F 0 (up (F 0) 0 0))))
      exact v_iret C E rfl dX8_size_81 (by decide) (by decide) (⟨_, rfl, Or.inr (⟨by omega, rfl, rfl⟩)⟩)
    · skip
      refine v_iload_n C dX8_size_28 rfl 1 rfl ?_
      refine v_tabIn (tgt := 82) C dX8_size_29 (by decide) (by decide) (by decide) rfl (by decide) ?_
      refine v_aload_n C dX8_size_82 rfl 0 rfl ?_
      refine v_get (v := .ref (ad 2)) C inw_8 0 10 rfl (by decide) (List.mem_cons_of_mem _ mw_105) rfl rfl dX8_size_83 ?_
      refine v_iconst C dX8_size_86 ?_
      refine v_iald C 2 rfl (by decide) (by decide) (by decide) dX8_size_87 ?_
      show V X 0 0 88 [(0, .ref (ad 0)), (1, vI 2)] [vI (F 2 0)] ((mW (vG X) ad (up F 0 (up (F 0) 0 0))))
      exact v_iret C E rfl dX8_size_88 (by decide) (by decide) (⟨_, rfl, Or.inr (⟨by omega, rfl, rfl⟩)⟩)
    · skip
      refine v_iload_n C dX8_size_28 rfl 1 rfl ?_
      refine v_tabIn (tgt := 89) C dX8_size_29 (by decide) (by decide) (by decide) rfl (by decide) ?_
      refine v_aload_n C dX8_size_89 rfl 0 rfl ?_
      refine v_get (v := .ref (ad 2)) C inw_8 0 10 rfl (by decide) (List.mem_cons_of_mem _ mw_105) rfl rfl dX8_size_90 ?_
      refine v_iconst C dX8_size_93 ?_
      refine v_iald C 2 rfl (by decide) (by decide) (by decide) dX8_size_94 ?_
      show V X 0 0 95 [(0, .ref (ad 0)), (1, vI 3)] [vI (F 2 1)] ((mW (vG X) ad (up F 0 (up (F 0) 0 0))))
      exact v_iret C E rfl dX8_size_95 (by decide) (by decide) (⟨_, rfl, Or.inr (⟨by omega, rfl, rfl⟩)⟩)
    · skip
      refine v_iload_n C dX8_size_28 rfl 1 rfl ?_
      refine v_tabIn (tgt := 96) C dX8_size_29 (by decide) (by decide) (by decide) rfl (by decide) ?_
      refine v_aload_n C dX8_size_96 rfl 0 rfl ?_
      refine v_get (v := .ref (ad 2)) C inw_8 0 10 rfl (by decide) (List.mem_cons_of_mem _ mw_105) rfl rfl dX8_size_97 ?_
      refine v_iconst C dX8_size_100 ?_
      refine v_iald C 2 rfl (by decide) (by decide) (by decide) dX8_size_101 ?_
      show V X 0 0 102 [(0, .ref (ad 0)), (1, vI 4)] [vI (F 2 2)] ((mW (vG X) ad (up F 0 (up (F 0) 0 0))))
      exact v_iret C E rfl dX8_size_102 (by decide) (by decide) (⟨_, rfl, Or.inr (⟨by omega, rfl, rfl⟩)⟩)
    · skip
      refine v_iload_n C dX8_size_28 rfl 1 rfl ?_
      refine v_tabIn (tgt := 103) C dX8_size_29 (by decide) (by decide) (by decide) rfl (by decide) ?_
      refine v_aload_n C dX8_size_103 rfl 0 rfl ?_
      refine v_get (v := .ref (ad 2)) C inw_8 0 10 rfl (by decide) (List.mem_cons_of_mem _ mw_105) rfl rfl dX8_size_104 ?_
      refine v_bipush C dX8_size_107 (by decide +kernel) ?_
      refine v_iald C 2 rfl (by decide) (by decide) (by decide) dX8_size_109 ?_
      show V X 0 0 110 [(0, .ref (ad 0)), (1, vI 5)] [vI (F 2 7)] ((mW (vG X) ad (up F 0 (up (F 0) 0 0))))
      exact v_iret C E rfl dX8_size_110 (by decide) (by decide) (⟨_, rfl, Or.inr (⟨by omega, rfl, rfl⟩)⟩)
    · skip
      refine v_iload_n C dX8_size_28 rfl 1 rfl ?_
      refine v_tabOut (tgt := 111) C dX8_size_29 (by decide) (by decide) (by decide) ?_
      refine v_aload_n C dX8_size_111 rfl 0 rfl ?_
      refine v_get (v := vI (F 0 14)) C inw_8 0 14 rfl (by decide) (List.mem_cons_of_mem _ mw_125) rfl rfl dX8_size_112 ?_
      exact v_iret C E rfl dX8_size_115 (by decide) (by decide) (⟨_, rfl, Or.inr (⟨by omega, rfl, rfl⟩)⟩)
set_option maxHeartbeats 4000000 in
set_option maxRecDepth 100000 in
theorem c_X8_station (G : GG) (l : Launch) (ad : Nat → Nat) (F : Int → Int → Int) (s q : Int) (hs : sm s) (hq : sm q) : Ct G l yX8_station (Cond.code yX8_station cX8_station 3 (some .int) :: wsL_law) 2 43 0 0 [.ref (ad 0), vI s, vI q] ((mW G ad F)) (fun r w => ∃ v : Int, r = some (vI v) ∧ (((¬ (0 ≤ s ∧ s ≤ 1)) ∧ w = mW G ad (up F 0 (up (F 0) 0 1))) ∨ (((0 ≤ s ∧ s ≤ 1) ∧ ¬ (0 ≤ q ∧ q ≤ 9)) ∧ w = mW G ad (up F 0 (up (F 0) 0 2))) ∨ (((0 ≤ s ∧ s ≤ 1) ∧ 0 ≤ q ∧ q ≤ 9) ∧ v = (F 2 ((18 + (11 * s)) + q)) ∧ w = (mW G ad (up F 0 (up (F 0) 0 0)))))) := by
  refine Ct.of (own := RX8) (cc := cX8_station) (maxL := 3) (ret := (some .int)) (by decide) rfl rfl (Nat.le_of_ble_eq_true rfl) (fun X C E M hG hl => ?_)
  subst hG hl
  refine v_aload_n C dX8_station_0 rfl 0 rfl ?_
  refine v_iload_n C dX8_station_1 rfl 1 rfl ?_
  refine v_callS (na := 1) (wy := (Cond.code yX8_isStation cX8_isStation 1 (some .boolean) :: wsL_law)) (wc := []) (wr := (mW (vG X) ad F)) C [vI s] [.ref (ad 0)] (c_X8_isStation _ _ s (by first | assumption | exact ⟨by omega, by omega⟩)) rfl (gwS mw_452 mw_450 mw_451 mw_5) (by decide +kernel) rfl rfl Sb.rf rfl rfl dX8_station_2 (fun r w1 hp2_1 => ?_)
  obtain ⟨rfl, rfl⟩ := hp2_1
  show V X 0 0 5 [(0, .ref (ad 0)), (1, vI s), (2, vI q)] [vI (bI (0 ≤ s ∧ s ≤ 1)), .ref (ad 0)] ((mW (vG X) ad F))
  refine v_if_ne (tgt := 12) C dX8_station_5 (by decide) sm_bI (fun c5 => ?_) (fun c5 => ?_)
  · have c5 := bI_n0.mp c5
    refine v_iload_n C dX8_station_12 rfl 2 rfl ?_
    refine v_iconst C dX8_station_13 ?_
    refine v_bipush C dX8_station_14 (by decide +kernel) ?_
    refine v_callS (na := 3) (wy := (Cond.code yX8_within cX8_within 3 (some .boolean) :: wsL_law)) (wc := []) (wr := (mW (vG X) ad F)) C [vI q, vI 0, vI 9] [.ref (ad 0)] (c_X8_within _ _ q 0 9 (by first | assumption | exact ⟨by omega, by omega⟩) (by decide) (by decide)) rfl (gwS mw_343 mw_341 mw_342 mw_5) (by decide +kernel) rfl rfl Sb.rf rfl rfl dX8_station_16 (fun r w1 hp16_2 => ?_)
    obtain ⟨rfl, rfl⟩ := hp16_2
    show V X 0 0 19 [(0, .ref (ad 0)), (1, vI s), (2, vI q)] [vI (bI (0 ≤ q ∧ q ≤ 9)), .ref (ad 0)] ((mW (vG X) ad F))
    refine v_if_ne (tgt := 26) C dX8_station_19 (by decide) sm_bI (fun c19 => ?_) (fun c19 => ?_)
    · have c19 := bI_n0.mp c19
      refine v_iconst C dX8_station_26 ?_
      refine v_put C inw_8 tyX8 tyX8_ok nmX8 0 0 rfl (by decide) (List.mem_cons_of_mem _ mw_147) rfl rfl rfl rfl (Nat.le_of_ble_eq_true rfl) dX8_station_27 (ws' := (mW (vG X) ad (up F 0 (up (F 0) 0 0)))) rfl ?_
      refine v_aload_n C dX8_station_30 rfl 0 rfl ?_
      refine v_get (v := vI 0) C inw_8 0 0 rfl (by decide) (List.mem_cons_of_mem _ mw_147) rfl rfl dX8_station_31 ?_
      refine v_if_ne (tgt := 46) C dX8_station_34 (by decide) (by decide) (fun c => absurd (by decide) c) (fun _ => ?_)
      refine v_aload_n C dX8_station_37 rfl 0 rfl ?_
      refine v_iload_n C dX8_station_38 rfl 1 rfl ?_
      refine v_iload_n C dX8_station_39 rfl 2 rfl ?_
      refine v_callV (na := 2) (wy := (Cond.code yX8_of cX8_of 3 (some .int) :: wsL_law)) (wc := (mW (vG X) ad (up F 0 (up (F 0) 0 0)))) (wr := []) C [vI s, vI q] [] (c_X8_of _ _ ad (up F 0 (up (F 0) 0 0)) s q (by omega) (by omega)) rfl (gwV mw_129 mw_126 mw_127 mw_128 mw_5) rfl (by decide +kernel) 0 rfl rfl rfl rfl Sb.w rfl rfl dX8_station_40 (fun r w1 hp40_3 => ?_)
      obtain ⟨rfl, rfl⟩ := hp40_3
      show V X 0 0 43 [(0, .ref (ad 0)), (1, vI s), (2, vI q)] [vI (F 2 ((18 + (11 * s)) + q))] ((mW (vG X) ad (up F 0 (up (F 0) 0 0))))
      refine v_goto (tgt := 47) C dX8_station_43 (by decide) ?_
      exact v_iret C E rfl dX8_station_47 (by decide) (by decide) (⟨_, rfl, Or.inr (Or.inr (⟨by omega, rfl, rfl⟩))⟩)
    · have c19 := bI_0.mp c19
      refine v_iconst C dX8_station_22 ?_
      refine v_goto (tgt := 27) C dX8_station_23 (by decide) ?_
      refine v_put C inw_8 tyX8 tyX8_ok nmX8 0 0 rfl (by decide) (List.mem_cons_of_mem _ mw_147) rfl rfl rfl rfl (Nat.le_of_ble_eq_true rfl) dX8_station_27 (ws' := (mW (vG X) ad (up F 0 (up (F 0) 0 2)))) rfl ?_
      refine v_aload_n C dX8_station_30 rfl 0 rfl ?_
      refine v_get (v := vI 2) C inw_8 0 0 rfl (by decide) (List.mem_cons_of_mem _ mw_147) rfl rfl dX8_station_31 ?_
      refine v_if_ne (tgt := 46) C dX8_station_34 (by decide) (by decide) (fun _ => ?_) (fun c => absurd c (by decide))
      refine v_iconst C dX8_station_46 ?_
      exact v_iret C E rfl dX8_station_47 (by decide) (by decide) (⟨_, rfl, Or.inr (Or.inl ⟨by omega, rfl⟩)⟩)
  · have c5 := bI_0.mp c5
    refine v_iconst C dX8_station_8 ?_
    refine v_goto (tgt := 27) C dX8_station_9 (by decide) ?_
    refine v_put C inw_8 tyX8 tyX8_ok nmX8 0 0 rfl (by decide) (List.mem_cons_of_mem _ mw_147) rfl rfl rfl rfl (Nat.le_of_ble_eq_true rfl) dX8_station_27 (ws' := (mW (vG X) ad (up F 0 (up (F 0) 0 1)))) rfl ?_
    refine v_aload_n C dX8_station_30 rfl 0 rfl ?_
    refine v_get (v := vI 1) C inw_8 0 0 rfl (by decide) (List.mem_cons_of_mem _ mw_147) rfl rfl dX8_station_31 ?_
    refine v_if_ne (tgt := 46) C dX8_station_34 (by decide) (by decide) (fun _ => ?_) (fun c => absurd c (by decide))
    refine v_iconst C dX8_station_46 ?_
    exact v_iret C E rfl dX8_station_47 (by decide) (by decide) (⟨_, rfl, Or.inl ⟨by omega, rfl⟩⟩)
set_option maxHeartbeats 4000000 in
set_option maxRecDepth 100000 in
theorem c_X8_isTold (G : GG) (l : Launch) (ad : Nat → Nat) (F : Int → Int → Int) (f : Int) (hf : sm f) (hB : sB 1000000 (F 2)) (h70 : 0 ≤ F 2 7) (h7 : F 2 7 ≤ 40) : Ct G l yX8_isTold (Cond.code yX8_isTold cX8_isTold 2 (some .boolean) :: wsL_law) 1 23 0 0 [.ref (ad 0), vI f] ((mW G ad F)) (fun r w => ∃ v : Int, r = some (vI v) ∧ ((v = (lz (F 2) f) ∧ w = (mW G ad (up F 0 (up (F 0) 0 0)))))) := by
  refine Ct.of (own := RX8) (cc := cX8_isTold) (maxL := 2) (ret := (some .boolean)) (by decide) rfl rfl (Nat.le_of_ble_eq_true rfl) (fun X C E M hG hl => ?_)
  subst hG hl
  have h7 : F 2 7 ≤ 41 := by omega
  refine v_aload_n C dX8_isTold_0 rfl 0 rfl ?_
  refine v_iconst C dX8_isTold_1 ?_
  refine v_put C inw_8 tyX8 tyX8_ok nmX8 0 0 rfl (by decide) (List.mem_cons_of_mem _ mw_147) rfl rfl rfl rfl (Nat.le_of_ble_eq_true rfl) dX8_isTold_2 (ws' := (mW (vG X) ad (up F 0 (up (F 0) 0 0)))) rfl ?_
  refine v_aload_n C dX8_isTold_5 rfl 0 rfl ?_
  refine v_iload_n C dX8_isTold_6 rfl 1 rfl ?_
  refine v_callV (na := 1) (wy := (Cond.code yX8_isLost cX8_isLost 4 (some .boolean) :: wsL_law)) (wc := (mW (vG X) ad (up F 0 (up (F 0) 0 0)))) (wr := []) C [vI f] [] (c_X8_isLost _ _ ad (up F 0 (up (F 0) 0 0)) f (sB_mono (by decide) hB) (by first | assumption | exact ⟨by omega, by omega⟩) h70 h7) rfl (gwV mw_408 mw_405 mw_406 mw_407 mw_5) rfl (by decide +kernel) 0 rfl rfl rfl rfl Sb.w rfl rfl dX8_isTold_7 (fun r w1 hp7_1 => ?_)
  obtain ⟨rfl, rfl⟩ := hp7_1
  have hlz7 := lz_01 (F 2) f
  show V X 0 0 10 [(0, .ref (ad 0)), (1, vI f)] [vI (lz (F 2) f)] ((mW (vG X) ad (up F 0 (up (F 0) 0 0))))
  exact v_zret C E rfl (nb_01 (lz_01 _ _)) dX8_isTold_10 (by decide) (by decide) (⟨_, rfl, ⟨rfl, rfl⟩⟩)
set_option maxHeartbeats 4000000 in
set_option maxRecDepth 100000 in
theorem c_X8_account (G : GG) (l : Launch) (ad : Nat → Nat) (F : Int → Int → Int) (q : Int) (hq : sm q) : Ct G l yX8_account (Cond.code yX8_account cX8_account 2 (some .int) :: wsL_law) 1 22 0 0 [.ref (ad 0), vI q] ((mW G ad F)) (fun r w => ∃ v : Int, r = some (vI v) ∧ (((¬ (0 ≤ q ∧ q ≤ 9)) ∧ w = mW G ad (up F 0 (up (F 0) 0 1))) ∨ ((0 ≤ q ∧ q ≤ 9) ∧ v = (F 2 (8 + q)) ∧ w = (mW G ad (up F 0 (up (F 0) 0 0)))))) := by
  refine Ct.of (own := RX8) (cc := cX8_account) (maxL := 2) (ret := (some .int)) (by decide) rfl rfl (Nat.le_of_ble_eq_true rfl) (fun X C E M hG hl => ?_)
  subst hG hl
  refine v_aload_n C dX8_account_0 rfl 0 rfl ?_
  refine v_iload_n C dX8_account_1 rfl 1 rfl ?_
  refine v_iconst C dX8_account_2 ?_
  refine v_bipush C dX8_account_3 (by decide +kernel) ?_
  refine v_callS (na := 3) (wy := (Cond.code yX8_within cX8_within 3 (some .boolean) :: wsL_law)) (wc := []) (wr := (mW (vG X) ad F)) C [vI q, vI 0, vI 9] [.ref (ad 0)] (c_X8_within _ _ q 0 9 (by first | assumption | exact ⟨by omega, by omega⟩) (by decide) (by decide)) rfl (gwS mw_343 mw_341 mw_342 mw_5) (by decide +kernel) rfl rfl Sb.rf rfl rfl dX8_account_5 (fun r w1 hp5_1 => ?_)
  obtain ⟨rfl, rfl⟩ := hp5_1
  show V X 0 0 8 [(0, .ref (ad 0)), (1, vI q)] [vI (bI (0 ≤ q ∧ q ≤ 9)), .ref (ad 0)] ((mW (vG X) ad F))
  refine v_if_eq (tgt := 15) C dX8_account_8 (by decide) sm_bI (fun c8 => ?_) (fun c8 => ?_)
  · have c8 := bI_0.mp c8
    refine v_iconst C dX8_account_15 ?_
    refine v_put C inw_8 tyX8 tyX8_ok nmX8 0 0 rfl (by decide) (List.mem_cons_of_mem _ mw_147) rfl rfl rfl rfl (Nat.le_of_ble_eq_true rfl) dX8_account_16 (ws' := (mW (vG X) ad (up F 0 (up (F 0) 0 1)))) rfl ?_
    refine v_aload_n C dX8_account_19 rfl 0 rfl ?_
    refine v_get (v := vI 1) C inw_8 0 0 rfl (by decide) (List.mem_cons_of_mem _ mw_147) rfl rfl dX8_account_20 ?_
    refine v_if_ne (tgt := 38) C dX8_account_23 (by decide) (by decide) (fun _ => ?_) (fun c => absurd c (by decide))
    refine v_iconst C dX8_account_38 ?_
    exact v_iret C E rfl dX8_account_39 (by decide) (by decide) (⟨_, rfl, Or.inl ⟨by omega, rfl⟩⟩)
  · have c8 := bI_n0.mp c8
    refine v_iconst C dX8_account_11 ?_
    refine v_goto (tgt := 16) C dX8_account_12 (by decide) ?_
    refine v_put C inw_8 tyX8 tyX8_ok nmX8 0 0 rfl (by decide) (List.mem_cons_of_mem _ mw_147) rfl rfl rfl rfl (Nat.le_of_ble_eq_true rfl) dX8_account_16 (ws' := (mW (vG X) ad (up F 0 (up (F 0) 0 0)))) rfl ?_
    refine v_aload_n C dX8_account_19 rfl 0 rfl ?_
    refine v_get (v := vI 0) C inw_8 0 0 rfl (by decide) (List.mem_cons_of_mem _ mw_147) rfl rfl dX8_account_20 ?_
    refine v_if_ne (tgt := 38) C dX8_account_23 (by decide) (by decide) (fun c => absurd (by decide) c) (fun _ => ?_)
    refine v_aload_n C dX8_account_26 rfl 0 rfl ?_
    refine v_get (v := .ref (ad 2)) C inw_8 0 10 rfl (by decide) (List.mem_cons_of_mem _ mw_105) rfl rfl dX8_account_27 ?_
    refine v_bipush C dX8_account_30 (by decide +kernel) ?_
    refine v_iload_n C dX8_account_32 rfl 1 rfl ?_
    refine v_iadd C dX8_account_33 ?_
    refine v_iald C 2 rfl (by  omega) (by  omega) (by decide) dX8_account_34 ?_
    show V X 0 0 35 [(0, .ref (ad 0)), (1, vI q)] [vI (F 2 (8 + q))] ((mW (vG X) ad (up F 0 (up (F 0) 0 0))))
    refine v_goto (tgt := 39) C dX8_account_35 (by decide) ?_
    exact v_iret C E rfl dX8_account_39 (by decide) (by decide) (⟨_, rfl, Or.inr (⟨by omega, rfl, rfl⟩)⟩)
set_option maxHeartbeats 4000000 in
set_option maxRecDepth 100000 in
theorem c_X8_read (G : GG) (l : Launch) (ad : Nat → Nat) (F : Int → Int → Int) (s q : Int) (hs : sm s) (hq : sm q) (hB : sB 1000000 (F 2)) (d0 : 0 ≤ F 0 14) (d1 : F 0 14 ≤ 10) : Ct G l yX8_read (Cond.code yX8_read cX8_read 3 (some .int) :: wsL_law) 3 64 0 0 [.ref (ad 0), vI s, vI q] ((mW G ad F)) (fun r w => ∃ v : Int, r = some (vI v) ∧ (((¬ (0 ≤ s ∧ s ≤ 1)) ∧ w = mW G ad (up F 0 (up (F 0) 0 1))) ∨ (((0 ≤ s ∧ s ≤ 1) ∧ ¬ (1 ≤ q ∧ q ≤ 20)) ∧ w = mW G ad (up F 0 (up (F 0) 0 2))) ∨ (((0 ≤ s ∧ s ≤ 1) ∧ (1 ≤ q ∧ q ≤ 20) ∧ F 2 (18 + 11 * s + 1) - F 2 (18 + 11 * s + 2) < q) ∧ w = mW G ad (up F 0 (up (F 0) 0 3))) ∨ (((0 ≤ s ∧ s ≤ 1) ∧ (1 ≤ q ∧ q ≤ 20) ∧ q ≤ F 2 (18 + 11 * s + 1) - F 2 (18 + 11 * s + 2)) ∧ v = ((F 2 ((18 + (11 * s)) + 1)) - ((F 2 ((18 + (11 * s)) + 2)) + q)) ∧ w = (mW G ad (up (up (up F 0 (up (up (F 0) 0 0) 14 (kpD (F 0 14) + 1))) 2 (up (F 2) ((18 + (11 * s)) + 2) ((F 2 ((18 + (11 * s)) + 2)) + q))) 5 (cpF (F 2) (kpH (F 0 14) (F 5)) 0 (kpD (F 0 14)) 441)))))) := by
  refine Ct.of (own := RX8) (cc := cX8_read) (maxL := 3) (ret := (some .int)) (by decide) rfl rfl (Nat.le_of_ble_eq_true rfl) (fun X C E M hG hl => ?_)
  subst hG hl
  refine v_aload_n C dX8_read_0 rfl 0 rfl ?_
  refine v_iload_n C dX8_read_1 rfl 1 rfl ?_
  refine v_callS (na := 1) (wy := (Cond.code yX8_isStation cX8_isStation 1 (some .boolean) :: wsL_law)) (wc := []) (wr := (mW (vG X) ad F)) C [vI s] [.ref (ad 0)] (c_X8_isStation _ _ s (by first | assumption | exact ⟨by omega, by omega⟩)) rfl (gwS mw_452 mw_450 mw_451 mw_5) (by decide +kernel) rfl rfl Sb.rf rfl rfl dX8_read_2 (fun r w1 hp2_1 => ?_)
  obtain ⟨rfl, rfl⟩ := hp2_1
  show V X 0 0 5 [(0, .ref (ad 0)), (1, vI s), (2, vI q)] [vI (bI (0 ≤ s ∧ s ≤ 1)), .ref (ad 0)] ((mW (vG X) ad F))
  refine v_if_ne (tgt := 12) C dX8_read_5 (by decide) sm_bI (fun c5 => ?_) (fun c5 => ?_)
  · have c5 := bI_n0.mp c5
    refine v_iload_n C dX8_read_12 rfl 2 rfl ?_
    refine v_iconst C dX8_read_13 ?_
    refine v_bipush C dX8_read_14 (by decide +kernel) ?_
    refine v_callS (na := 3) (wy := (Cond.code yX8_within cX8_within 3 (some .boolean) :: wsL_law)) (wc := []) (wr := (mW (vG X) ad F)) C [vI q, vI 1, vI 20] [.ref (ad 0)] (c_X8_within _ _ q 1 20 (by first | assumption | exact ⟨by omega, by omega⟩) (by decide) (by decide)) rfl (gwS mw_343 mw_341 mw_342 mw_5) (by decide +kernel) rfl rfl Sb.rf rfl rfl dX8_read_16 (fun r w1 hp16_2 => ?_)
    obtain ⟨rfl, rfl⟩ := hp16_2
    show V X 0 0 19 [(0, .ref (ad 0)), (1, vI s), (2, vI q)] [vI (bI (1 ≤ q ∧ q ≤ 20)), .ref (ad 0)] ((mW (vG X) ad F))
    refine v_if_ne (tgt := 26) C dX8_read_19 (by decide) sm_bI (fun c19 => ?_) (fun c19 => ?_)
    · have c19 := bI_n0.mp c19
      refine v_iload_n C dX8_read_26 rfl 2 rfl ?_
      refine v_aload_n C dX8_read_27 rfl 0 rfl ?_
      refine v_iload_n C dX8_read_28 rfl 1 rfl ?_
      refine v_callV (na := 1) (wy := (Cond.code yX8_buffered cX8_buffered 2 (some .int) :: wsL_law)) (wc := (mW (vG X) ad F)) (wr := []) C [vI s] [vI q, .ref (ad 0)] (c_X8_buffered _ _ ad F s (by omega)) rfl (gwV mw_798 mw_795 mw_796 mw_797 mw_5) rfl (by decide +kernel) 0 rfl rfl rfl rfl Sb.w rfl rfl dX8_read_29 (fun r w1 hp29_3 => ?_)
      obtain ⟨rfl, rfl⟩ := hp29_3
      show V X 0 0 32 [(0, .ref (ad 0)), (1, vI s), (2, vI q)] [vI ((F 2 ((18 + (11 * s)) + 1)) - (F 2 ((18 + (11 * s)) + 2))), vI q, .ref (ad 0)] ((mW (vG X) ad F))
      refine v_icmp_le (tgt := 39) C dX8_read_32 (by decide) (by  first | assumption | exact ⟨by omega, by omega⟩) (by have := hB ((18 + (11 * s)) + 1); have := hB ((18 + (11 * s)) + 2); first | assumption | exact ⟨by omega, by omega⟩) (fun c32 => ?_) (fun c32 => ?_)
      · skip
        refine v_iconst C dX8_read_39 ?_
        refine v_put C inw_8 tyX8 tyX8_ok nmX8 0 0 rfl (by decide) (List.mem_cons_of_mem _ mw_147) rfl rfl rfl rfl (Nat.le_of_ble_eq_true rfl) dX8_read_40 (ws' := (mW (vG X) ad (up F 0 (up (F 0) 0 0)))) rfl ?_
        refine v_aload_n C dX8_read_43 rfl 0 rfl ?_
        refine v_get (v := vI 0) C inw_8 0 0 rfl (by decide) (List.mem_cons_of_mem _ mw_147) rfl rfl dX8_read_44 ?_
        refine v_if_le (tgt := 52) C dX8_read_47 (by decide) (by decide) (fun _ => ?_) (fun c => absurd (by decide) c)
        refine v_aload_n C dX8_read_52 rfl 0 rfl ?_
        refine v_callV (na := 0) (wy := (Cond.code yX8_keep cX8_keep 2 none :: wsL_law)) (wc := (mW (vG X) ad (up F 0 (up (F 0) 0 0)))) (wr := []) C [] [] (c_X8_keep _ _ ad (up F 0 (up (F 0) 0 0)) d0 d1) rfl (gwV mw_776 mw_773 mw_774 mw_775 mw_5) rfl (by decide +kernel) 0 rfl rfl rfl rfl Sb.w rfl rfl dX8_read_53 (fun r w1 hp53_4 => ?_)
        obtain ⟨rfl, rfl⟩ := hp53_4
        show V X 0 0 56 [(0, .ref (ad 0)), (1, vI s), (2, vI q)] [] ((mW (vG X) ad (up (up F 0 (up (up (F 0) 0 0) 14 (kpD (F 0 14) + 1))) 5 (cpF (F 2) (kpH (F 0 14) (F 5)) 0 (kpD (F 0 14)) 441))))
        refine v_aload_n C dX8_read_56 rfl 0 rfl ?_
        refine v_get (v := .ref (ad 2)) C inw_8 0 10 rfl (by decide) (List.mem_cons_of_mem _ mw_105) rfl rfl dX8_read_57 ?_
        refine v_iload_n C dX8_read_60 rfl 1 rfl ?_
        refine v_iconst C dX8_read_61 ?_
        refine v_callS (na := 2) (wy := (Cond.code yX8_at cX8_at 2 (some .int) :: wsL_law)) (wc := []) (wr := (mW (vG X) ad (up (up F 0 (up (up (F 0) 0 0) 14 (kpD (F 0 14) + 1))) 5 (cpF (F 2) (kpH (F 0 14) (F 5)) 0 (kpD (F 0 14)) 441)))) C [vI s, vI 2] [.ref (ad 2)] (c_X8_at _ _ s 2 ) rfl (gwS mw_120 mw_118 mw_119 mw_5) (by decide +kernel) rfl rfl Sb.rf rfl rfl dX8_read_62 (fun r w1 hp62_5 => ?_)
        obtain ⟨rfl, rfl⟩ := hp62_5
        show V X 0 0 65 [(0, .ref (ad 0)), (1, vI s), (2, vI q)] [vI ((18 + (11 * s)) + 2), .ref (ad 2)] ((mW (vG X) ad (up (up F 0 (up (up (F 0) 0 0) 14 (kpD (F 0 14) + 1))) 5 (cpF (F 2) (kpH (F 0 14) (F 5)) 0 (kpD (F 0 14)) 441))))
        refine v_dup2 C dX8_read_65 rfl rfl ?_
        refine v_iald C 2 rfl (by  omega) (by  omega) (by decide) dX8_read_66 ?_
        show V X 0 0 67 [(0, .ref (ad 0)), (1, vI s), (2, vI q)] [vI (F 2 ((18 + (11 * s)) + 2)), vI ((18 + (11 * s)) + 2), .ref (ad 2)] ((mW (vG X) ad (up (up F 0 (up (up (F 0) 0 0) 14 (kpD (F 0 14) + 1))) 5 (cpF (F 2) (kpH (F 0 14) (F 5)) 0 (kpD (F 0 14)) 441))))
        refine v_iload_n C dX8_read_67 rfl 2 rfl ?_
        refine v_iadd C dX8_read_68 ?_
        refine v_iast C 2 rfl (by  omega) (by  omega) (by decide) dX8_read_69 (ws' := (mW (vG X) ad (up (up (up F 0 (up (up (F 0) 0 0) 14 (kpD (F 0 14) + 1))) 2 (up (F 2) ((18 + (11 * s)) + 2) ((F 2 ((18 + (11 * s)) + 2)) + q))) 5 (cpF (F 2) (kpH (F 0 14) (F 5)) 0 (kpD (F 0 14)) 441)))) rfl ?_
        refine v_aload_n C dX8_read_70 rfl 0 rfl ?_
        refine v_iload_n C dX8_read_71 rfl 1 rfl ?_
        refine v_callV (na := 1) (wy := (Cond.code yX8_buffered cX8_buffered 2 (some .int) :: wsL_law)) (wc := (mW (vG X) ad (up (up (up F 0 (up (up (F 0) 0 0) 14 (kpD (F 0 14) + 1))) 2 (up (F 2) ((18 + (11 * s)) + 2) ((F 2 ((18 + (11 * s)) + 2)) + q))) 5 (cpF (F 2) (kpH (F 0 14) (F 5)) 0 (kpD (F 0 14)) 441)))) (wr := []) C [vI s] [] (c_X8_buffered _ _ ad (up (up (up F 0 (up (up (F 0) 0 0) 14 (kpD (F 0 14) + 1))) 2 (up (F 2) ((18 + (11 * s)) + 2) ((F 2 ((18 + (11 * s)) + 2)) + q))) 5 (cpF (F 2) (kpH (F 0 14) (F 5)) 0 (kpD (F 0 14)) 441)) s (by omega)) rfl (gwV mw_798 mw_795 mw_796 mw_797 mw_5) rfl (by decide +kernel) 0 rfl rfl rfl rfl Sb.w rfl rfl dX8_read_72 (fun r w1 hp72_6 => ?_)
        obtain ⟨rfl, rfl⟩ := hp72_6
        show V X 0 0 75 [(0, .ref (ad 0)), (1, vI s), (2, vI q)] [vI (((up (F 2) ((18 + (11 * s)) + 2) ((F 2 ((18 + (11 * s)) + 2)) + q)) ((18 + (11 * s)) + 1)) - ((up (F 2) ((18 + (11 * s)) + 2) ((F 2 ((18 + (11 * s)) + 2)) + q)) ((18 + (11 * s)) + 2)))] ((mW (vG X) ad (up (up (up F 0 (up (up (F 0) 0 0) 14 (kpD (F 0 14) + 1))) 2 (up (F 2) ((18 + (11 * s)) + 2) ((F 2 ((18 + (11 * s)) + 2)) + q))) 5 (cpF (F 2) (kpH (F 0 14) (F 5)) 0 (kpD (F 0 14)) 441))))
        rw [up_n (show (((18 + (11 * s)) + 1) : Int) ≠ ((18 + (11 * s)) + 2) by omega)]
        rw [up_s]
        exact v_iret C E rfl dX8_read_75 (by decide) (by decide) (⟨_, rfl, Or.inr (Or.inr (Or.inr (⟨by omega, rfl, rfl⟩)))⟩)
      · skip
        refine v_iconst C dX8_read_35 ?_
        refine v_goto (tgt := 40) C dX8_read_36 (by decide) ?_
        refine v_put C inw_8 tyX8 tyX8_ok nmX8 0 0 rfl (by decide) (List.mem_cons_of_mem _ mw_147) rfl rfl rfl rfl (Nat.le_of_ble_eq_true rfl) dX8_read_40 (ws' := (mW (vG X) ad (up F 0 (up (F 0) 0 3)))) rfl ?_
        refine v_aload_n C dX8_read_43 rfl 0 rfl ?_
        refine v_get (v := vI 3) C inw_8 0 0 rfl (by decide) (List.mem_cons_of_mem _ mw_147) rfl rfl dX8_read_44 ?_
        refine v_if_le (tgt := 52) C dX8_read_47 (by decide) (by decide) (fun c => absurd c (by decide)) (fun _ => ?_)
        refine v_iconst C dX8_read_50 ?_
        exact v_iret C E rfl dX8_read_51 (by decide) (by decide) (⟨_, rfl, Or.inr (Or.inr (Or.inl ⟨by omega, rfl⟩))⟩)
    · have c19 := bI_0.mp c19
      refine v_iconst C dX8_read_22 ?_
      refine v_goto (tgt := 40) C dX8_read_23 (by decide) ?_
      refine v_put C inw_8 tyX8 tyX8_ok nmX8 0 0 rfl (by decide) (List.mem_cons_of_mem _ mw_147) rfl rfl rfl rfl (Nat.le_of_ble_eq_true rfl) dX8_read_40 (ws' := (mW (vG X) ad (up F 0 (up (F 0) 0 2)))) rfl ?_
      refine v_aload_n C dX8_read_43 rfl 0 rfl ?_
      refine v_get (v := vI 2) C inw_8 0 0 rfl (by decide) (List.mem_cons_of_mem _ mw_147) rfl rfl dX8_read_44 ?_
      refine v_if_le (tgt := 52) C dX8_read_47 (by decide) (by decide) (fun c => absurd c (by decide)) (fun _ => ?_)
      refine v_iconst C dX8_read_50 ?_
      exact v_iret C E rfl dX8_read_51 (by decide) (by decide) (⟨_, rfl, Or.inr (Or.inl ⟨by omega, rfl⟩)⟩)
  · have c5 := bI_0.mp c5
    refine v_iconst C dX8_read_8 ?_
    refine v_goto (tgt := 40) C dX8_read_9 (by decide) ?_
    refine v_put C inw_8 tyX8 tyX8_ok nmX8 0 0 rfl (by decide) (List.mem_cons_of_mem _ mw_147) rfl rfl rfl rfl (Nat.le_of_ble_eq_true rfl) dX8_read_40 (ws' := (mW (vG X) ad (up F 0 (up (F 0) 0 1)))) rfl ?_
    refine v_aload_n C dX8_read_43 rfl 0 rfl ?_
    refine v_get (v := vI 1) C inw_8 0 0 rfl (by decide) (List.mem_cons_of_mem _ mw_147) rfl rfl dX8_read_44 ?_
    refine v_if_le (tgt := 52) C dX8_read_47 (by decide) (by decide) (fun c => absurd c (by decide)) (fun _ => ?_)
    refine v_iconst C dX8_read_50 ?_
    exact v_iret C E rfl dX8_read_51 (by decide) (by decide) (⟨_, rfl, Or.inl ⟨by omega, rfl⟩⟩)
set_option maxHeartbeats 4000000 in
set_option maxRecDepth 100000 in
theorem c_X8_askBack (G : GG) (l : Launch) (ad : Nat → Nat) (F : Int → Int → Int) (s q : Int) (hs : sm s) (hq : sm q) (hB : sB 1000000 (F 2)) (d0 : 0 ≤ F 0 14) (d1 : F 0 14 ≤ 10) : Ct G l yX8_askBack (Cond.code yX8_askBack cX8_askBack 3 (some .int) :: wsL_law) 2 45 0 0 [.ref (ad 0), vI s, vI q] ((mW G ad F)) (fun r w => ∃ v : Int, r = some (vI v) ∧ (((¬ (0 ≤ s ∧ s ≤ 1)) ∧ w = mW G ad (up F 0 (up (F 0) 0 1))) ∨ (((0 ≤ s ∧ s ≤ 1) ∧ ¬ (1 ≤ q ∧ q ≤ 9)) ∧ w = mW G ad (up F 0 (up (F 0) 0 2))) ∨ (((0 ≤ s ∧ s ≤ 1) ∧ (1 ≤ q ∧ q ≤ 9) ∧ F 2 (18 + 11 * s + 3) - F 2 (18 + 11 * s + 4) - q < 1) ∧ w = mW G ad (up F 0 (up (F 0) 0 3))) ∨ (((0 ≤ s ∧ s ≤ 1) ∧ (1 ≤ q ∧ q ≤ 9) ∧ ¬ F 2 (18 + 11 * s + 3) - F 2 (18 + 11 * s + 4) - q < 1) ∧ v = ((F 2 ((18 + (11 * s)) + 4)) + q) ∧ w = (mW G ad (up (up (up F 0 (up (up (F 0) 0 0) 14 (kpD (F 0 14) + 1))) 2 (up (F 2) ((18 + (11 * s)) + 4) ((F 2 ((18 + (11 * s)) + 4)) + q))) 5 (cpF (F 2) (kpH (F 0 14) (F 5)) 0 (kpD (F 0 14)) 441)))))) := by
  refine Ct.of (own := RX8) (cc := cX8_askBack) (maxL := 3) (ret := (some .int)) (by decide) rfl rfl (Nat.le_of_ble_eq_true rfl) (fun X C E M hG hl => ?_)
  subst hG hl
  refine v_aload_n C dX8_askBack_0 rfl 0 rfl ?_
  refine v_iload_n C dX8_askBack_1 rfl 1 rfl ?_
  refine v_callS (na := 1) (wy := (Cond.code yX8_isStation cX8_isStation 1 (some .boolean) :: wsL_law)) (wc := []) (wr := (mW (vG X) ad F)) C [vI s] [.ref (ad 0)] (c_X8_isStation _ _ s (by first | assumption | exact ⟨by omega, by omega⟩)) rfl (gwS mw_452 mw_450 mw_451 mw_5) (by decide +kernel) rfl rfl Sb.rf rfl rfl dX8_askBack_2 (fun r w1 hp2_1 => ?_)
  obtain ⟨rfl, rfl⟩ := hp2_1
  show V X 0 0 5 [(0, .ref (ad 0)), (1, vI s), (2, vI q)] [vI (bI (0 ≤ s ∧ s ≤ 1)), .ref (ad 0)] ((mW (vG X) ad F))
  refine v_if_ne (tgt := 12) C dX8_askBack_5 (by decide) sm_bI (fun c5 => ?_) (fun c5 => ?_)
  · have c5 := bI_n0.mp c5
    refine v_iload_n C dX8_askBack_12 rfl 2 rfl ?_
    refine v_iconst C dX8_askBack_13 ?_
    refine v_bipush C dX8_askBack_14 (by decide +kernel) ?_
    refine v_callS (na := 3) (wy := (Cond.code yX8_within cX8_within 3 (some .boolean) :: wsL_law)) (wc := []) (wr := (mW (vG X) ad F)) C [vI q, vI 1, vI 9] [.ref (ad 0)] (c_X8_within _ _ q 1 9 (by first | assumption | exact ⟨by omega, by omega⟩) (by decide) (by decide)) rfl (gwS mw_343 mw_341 mw_342 mw_5) (by decide +kernel) rfl rfl Sb.rf rfl rfl dX8_askBack_16 (fun r w1 hp16_2 => ?_)
    obtain ⟨rfl, rfl⟩ := hp16_2
    show V X 0 0 19 [(0, .ref (ad 0)), (1, vI s), (2, vI q)] [vI (bI (1 ≤ q ∧ q ≤ 9)), .ref (ad 0)] ((mW (vG X) ad F))
    refine v_if_ne (tgt := 26) C dX8_askBack_19 (by decide) sm_bI (fun c19 => ?_) (fun c19 => ?_)
    · have c19 := bI_n0.mp c19
      refine v_aload_n C dX8_askBack_26 rfl 0 rfl ?_
      refine v_iload_n C dX8_askBack_27 rfl 1 rfl ?_
      refine v_iconst C dX8_askBack_28 ?_
      refine v_callV (na := 2) (wy := (Cond.code yX8_of cX8_of 3 (some .int) :: wsL_law)) (wc := (mW (vG X) ad F)) (wr := []) C [vI s, vI 3] [.ref (ad 0)] (c_X8_of _ _ ad F s 3 (by omega) (by omega)) rfl (gwV mw_129 mw_126 mw_127 mw_128 mw_5) rfl (by decide +kernel) 0 rfl rfl rfl rfl Sb.w rfl rfl dX8_askBack_29 (fun r w1 hp29_3 => ?_)
      obtain ⟨rfl, rfl⟩ := hp29_3
      show V X 0 0 32 [(0, .ref (ad 0)), (1, vI s), (2, vI q)] [vI (F 2 ((18 + (11 * s)) + 3)), .ref (ad 0)] ((mW (vG X) ad F))
      refine v_aload_n C dX8_askBack_32 rfl 0 rfl ?_
      refine v_iload_n C dX8_askBack_33 rfl 1 rfl ?_
      refine v_iconst C dX8_askBack_34 ?_
      refine v_callV (na := 2) (wy := (Cond.code yX8_of cX8_of 3 (some .int) :: wsL_law)) (wc := (mW (vG X) ad F)) (wr := []) C [vI s, vI 4] [vI (F 2 ((18 + (11 * s)) + 3)), .ref (ad 0)] (c_X8_of _ _ ad F s 4 (by omega) (by omega)) rfl (gwV mw_129 mw_126 mw_127 mw_128 mw_5) rfl (by decide +kernel) 0 rfl rfl rfl rfl Sb.w rfl rfl dX8_askBack_35 (fun r w1 hp35_4 => ?_)
      obtain ⟨rfl, rfl⟩ := hp35_4
      show V X 0 0 38 [(0, .ref (ad 0)), (1, vI s), (2, vI q)] [vI (F 2 ((18 + (11 * s)) + 4)), vI (F 2 ((18 + (11 * s)) + 3)), .ref (ad 0)] ((mW (vG X) ad F))
      refine v_isub C dX8_askBack_38 ?_
      refine v_iload_n C dX8_askBack_39 rfl 2 rfl ?_
      refine v_isub C dX8_askBack_40 ?_
      refine v_iconst C dX8_askBack_41 ?_
      refine v_icmp_ge (tgt := 49) C dX8_askBack_42 (by decide) (by have := hB ((18 + (11 * s)) + 3); have := hB ((18 + (11 * s)) + 4); first | assumption | exact ⟨by omega, by omega⟩) (by decide) (fun c42 => ?_) (fun c42 => ?_)
      · skip
        refine v_iconst C dX8_askBack_49 ?_
        refine v_put C inw_8 tyX8 tyX8_ok nmX8 0 0 rfl (by decide) (List.mem_cons_of_mem _ mw_147) rfl rfl rfl rfl (Nat.le_of_ble_eq_true rfl) dX8_askBack_50 (ws' := (mW (vG X) ad (up F 0 (up (F 0) 0 0)))) rfl ?_
        refine v_aload_n C dX8_askBack_53 rfl 0 rfl ?_
        refine v_get (v := vI 0) C inw_8 0 0 rfl (by decide) (List.mem_cons_of_mem _ mw_147) rfl rfl dX8_askBack_54 ?_
        refine v_if_le (tgt := 62) C dX8_askBack_57 (by decide) (by decide) (fun _ => ?_) (fun c => absurd (by decide) c)
        refine v_aload_n C dX8_askBack_62 rfl 0 rfl ?_
        refine v_callV (na := 0) (wy := (Cond.code yX8_keep cX8_keep 2 none :: wsL_law)) (wc := (mW (vG X) ad (up F 0 (up (F 0) 0 0)))) (wr := []) C [] [] (c_X8_keep _ _ ad (up F 0 (up (F 0) 0 0)) d0 d1) rfl (gwV mw_776 mw_773 mw_774 mw_775 mw_5) rfl (by decide +kernel) 0 rfl rfl rfl rfl Sb.w rfl rfl dX8_askBack_63 (fun r w1 hp63_5 => ?_)
        obtain ⟨rfl, rfl⟩ := hp63_5
        show V X 0 0 66 [(0, .ref (ad 0)), (1, vI s), (2, vI q)] [] ((mW (vG X) ad (up (up F 0 (up (up (F 0) 0 0) 14 (kpD (F 0 14) + 1))) 5 (cpF (F 2) (kpH (F 0 14) (F 5)) 0 (kpD (F 0 14)) 441))))
        refine v_aload_n C dX8_askBack_66 rfl 0 rfl ?_
        refine v_get (v := .ref (ad 2)) C inw_8 0 10 rfl (by decide) (List.mem_cons_of_mem _ mw_105) rfl rfl dX8_askBack_67 ?_
        refine v_iload_n C dX8_askBack_70 rfl 1 rfl ?_
        refine v_iconst C dX8_askBack_71 ?_
        refine v_callS (na := 2) (wy := (Cond.code yX8_at cX8_at 2 (some .int) :: wsL_law)) (wc := []) (wr := (mW (vG X) ad (up (up F 0 (up (up (F 0) 0 0) 14 (kpD (F 0 14) + 1))) 5 (cpF (F 2) (kpH (F 0 14) (F 5)) 0 (kpD (F 0 14)) 441)))) C [vI s, vI 4] [.ref (ad 2)] (c_X8_at _ _ s 4 ) rfl (gwS mw_120 mw_118 mw_119 mw_5) (by decide +kernel) rfl rfl Sb.rf rfl rfl dX8_askBack_72 (fun r w1 hp72_6 => ?_)
        obtain ⟨rfl, rfl⟩ := hp72_6
        show V X 0 0 75 [(0, .ref (ad 0)), (1, vI s), (2, vI q)] [vI ((18 + (11 * s)) + 4), .ref (ad 2)] ((mW (vG X) ad (up (up F 0 (up (up (F 0) 0 0) 14 (kpD (F 0 14) + 1))) 5 (cpF (F 2) (kpH (F 0 14) (F 5)) 0 (kpD (F 0 14)) 441))))
        refine v_dup2 C dX8_askBack_75 rfl rfl ?_
        refine v_iald C 2 rfl (by  omega) (by  omega) (by decide) dX8_askBack_76 ?_
        show V X 0 0 77 [(0, .ref (ad 0)), (1, vI s), (2, vI q)] [vI (F 2 ((18 + (11 * s)) + 4)), vI ((18 + (11 * s)) + 4), .ref (ad 2)] ((mW (vG X) ad (up (up F 0 (up (up (F 0) 0 0) 14 (kpD (F 0 14) + 1))) 5 (cpF (F 2) (kpH (F 0 14) (F 5)) 0 (kpD (F 0 14)) 441))))
        refine v_iload_n C dX8_askBack_77 rfl 2 rfl ?_
        refine v_iadd C dX8_askBack_78 ?_
        refine v_iast C 2 rfl (by  omega) (by  omega) (by decide) dX8_askBack_79 (ws' := (mW (vG X) ad (up (up (up F 0 (up (up (F 0) 0 0) 14 (kpD (F 0 14) + 1))) 2 (up (F 2) ((18 + (11 * s)) + 4) ((F 2 ((18 + (11 * s)) + 4)) + q))) 5 (cpF (F 2) (kpH (F 0 14) (F 5)) 0 (kpD (F 0 14)) 441)))) rfl ?_
        refine v_aload_n C dX8_askBack_80 rfl 0 rfl ?_
        refine v_iload_n C dX8_askBack_81 rfl 1 rfl ?_
        refine v_iconst C dX8_askBack_82 ?_
        refine v_callV (na := 2) (wy := (Cond.code yX8_of cX8_of 3 (some .int) :: wsL_law)) (wc := (mW (vG X) ad (up (up (up F 0 (up (up (F 0) 0 0) 14 (kpD (F 0 14) + 1))) 2 (up (F 2) ((18 + (11 * s)) + 4) ((F 2 ((18 + (11 * s)) + 4)) + q))) 5 (cpF (F 2) (kpH (F 0 14) (F 5)) 0 (kpD (F 0 14)) 441)))) (wr := []) C [vI s, vI 4] [] (c_X8_of _ _ ad (up (up (up F 0 (up (up (F 0) 0 0) 14 (kpD (F 0 14) + 1))) 2 (up (F 2) ((18 + (11 * s)) + 4) ((F 2 ((18 + (11 * s)) + 4)) + q))) 5 (cpF (F 2) (kpH (F 0 14) (F 5)) 0 (kpD (F 0 14)) 441)) s 4 (by omega) (by omega)) rfl (gwV mw_129 mw_126 mw_127 mw_128 mw_5) rfl (by decide +kernel) 0 rfl rfl rfl rfl Sb.w rfl rfl dX8_askBack_83 (fun r w1 hp83_7 => ?_)
        obtain ⟨rfl, rfl⟩ := hp83_7
        show V X 0 0 86 [(0, .ref (ad 0)), (1, vI s), (2, vI q)] [vI ((up (F 2) ((18 + (11 * s)) + 4) ((F 2 ((18 + (11 * s)) + 4)) + q)) ((18 + (11 * s)) + 4))] ((mW (vG X) ad (up (up (up F 0 (up (up (F 0) 0 0) 14 (kpD (F 0 14) + 1))) 2 (up (F 2) ((18 + (11 * s)) + 4) ((F 2 ((18 + (11 * s)) + 4)) + q))) 5 (cpF (F 2) (kpH (F 0 14) (F 5)) 0 (kpD (F 0 14)) 441))))
        rw [up_s]
        exact v_iret C E rfl dX8_askBack_86 (by decide) (by decide) (⟨_, rfl, Or.inr (Or.inr (Or.inr (⟨by omega, rfl, rfl⟩)))⟩)
      · skip
        refine v_iconst C dX8_askBack_45 ?_
        refine v_goto (tgt := 50) C dX8_askBack_46 (by decide) ?_
        refine v_put C inw_8 tyX8 tyX8_ok nmX8 0 0 rfl (by decide) (List.mem_cons_of_mem _ mw_147) rfl rfl rfl rfl (Nat.le_of_ble_eq_true rfl) dX8_askBack_50 (ws' := (mW (vG X) ad (up F 0 (up (F 0) 0 3)))) rfl ?_
        refine v_aload_n C dX8_askBack_53 rfl 0 rfl ?_
        refine v_get (v := vI 3) C inw_8 0 0 rfl (by decide) (List.mem_cons_of_mem _ mw_147) rfl rfl dX8_askBack_54 ?_
        refine v_if_le (tgt := 62) C dX8_askBack_57 (by decide) (by decide) (fun c => absurd c (by decide)) (fun _ => ?_)
        refine v_iconst C dX8_askBack_60 ?_
        exact v_iret C E rfl dX8_askBack_61 (by decide) (by decide) (⟨_, rfl, Or.inr (Or.inr (Or.inl ⟨by omega, rfl⟩))⟩)
    · have c19 := bI_0.mp c19
      refine v_iconst C dX8_askBack_22 ?_
      refine v_goto (tgt := 50) C dX8_askBack_23 (by decide) ?_
      refine v_put C inw_8 tyX8 tyX8_ok nmX8 0 0 rfl (by decide) (List.mem_cons_of_mem _ mw_147) rfl rfl rfl rfl (Nat.le_of_ble_eq_true rfl) dX8_askBack_50 (ws' := (mW (vG X) ad (up F 0 (up (F 0) 0 2)))) rfl ?_
      refine v_aload_n C dX8_askBack_53 rfl 0 rfl ?_
      refine v_get (v := vI 2) C inw_8 0 0 rfl (by decide) (List.mem_cons_of_mem _ mw_147) rfl rfl dX8_askBack_54 ?_
      refine v_if_le (tgt := 62) C dX8_askBack_57 (by decide) (by decide) (fun c => absurd c (by decide)) (fun _ => ?_)
      refine v_iconst C dX8_askBack_60 ?_
      exact v_iret C E rfl dX8_askBack_61 (by decide) (by decide) (⟨_, rfl, Or.inr (Or.inl ⟨by omega, rfl⟩)⟩)
  · have c5 := bI_0.mp c5
    refine v_iconst C dX8_askBack_8 ?_
    refine v_goto (tgt := 50) C dX8_askBack_9 (by decide) ?_
    refine v_put C inw_8 tyX8 tyX8_ok nmX8 0 0 rfl (by decide) (List.mem_cons_of_mem _ mw_147) rfl rfl rfl rfl (Nat.le_of_ble_eq_true rfl) dX8_askBack_50 (ws' := (mW (vG X) ad (up F 0 (up (F 0) 0 1)))) rfl ?_
    refine v_aload_n C dX8_askBack_53 rfl 0 rfl ?_
    refine v_get (v := vI 1) C inw_8 0 0 rfl (by decide) (List.mem_cons_of_mem _ mw_147) rfl rfl dX8_askBack_54 ?_
    refine v_if_le (tgt := 62) C dX8_askBack_57 (by decide) (by decide) (fun c => absurd c (by decide)) (fun _ => ?_)
    refine v_iconst C dX8_askBack_60 ?_
    exact v_iret C E rfl dX8_askBack_61 (by decide) (by decide) (⟨_, rfl, Or.inl ⟨by omega, rfl⟩⟩)
set_option maxHeartbeats 4000000 in
set_option maxRecDepth 100000 in
theorem c_X8_grow (G : GG) (l : Launch) (ad : Nat → Nat) (F : Int → Int → Int) (s q : Int) (hs : sm s) (hq : sm q) (hB : sB 1000000 (F 2)) (d0 : 0 ≤ F 0 14) (d1 : F 0 14 ≤ 10) : Ct G l yX8_grow (Cond.code yX8_grow cX8_grow 3 (some .int) :: wsL_law) 2 45 0 0 [.ref (ad 0), vI s, vI q] ((mW G ad F)) (fun r w => ∃ v : Int, r = some (vI v) ∧ (((¬ (0 ≤ s ∧ s ≤ 1)) ∧ w = mW G ad (up F 0 (up (F 0) 0 1))) ∨ (((0 ≤ s ∧ s ≤ 1) ∧ ¬ (1 ≤ q ∧ q ≤ 9)) ∧ w = mW G ad (up F 0 (up (F 0) 0 2))) ∨ (((0 ≤ s ∧ s ≤ 1) ∧ (1 ≤ q ∧ q ≤ 9) ∧ (9 < F 2 (18 + 11 * s + 3) + q ∨ 0 < F 2 (18 + 11 * s + 4))) ∧ w = mW G ad (up F 0 (up (F 0) 0 3))) ∨ (((0 ≤ s ∧ s ≤ 1) ∧ (1 ≤ q ∧ q ≤ 9) ∧ ¬ (9 < F 2 (18 + 11 * s + 3) + q ∨ 0 < F 2 (18 + 11 * s + 4))) ∧ v = ((F 2 ((18 + (11 * s)) + 3)) + q) ∧ w = (mW G ad (up (up (up F 0 (up (up (F 0) 0 0) 14 (kpD (F 0 14) + 1))) 2 (up (F 2) ((18 + (11 * s)) + 3) ((F 2 ((18 + (11 * s)) + 3)) + q))) 5 (cpF (F 2) (kpH (F 0 14) (F 5)) 0 (kpD (F 0 14)) 441)))))) := by
  refine Ct.of (own := RX8) (cc := cX8_grow) (maxL := 3) (ret := (some .int)) (by decide) rfl rfl (Nat.le_of_ble_eq_true rfl) (fun X C E M hG hl => ?_)
  subst hG hl
  refine v_aload_n C dX8_grow_0 rfl 0 rfl ?_
  refine v_iload_n C dX8_grow_1 rfl 1 rfl ?_
  refine v_callS (na := 1) (wy := (Cond.code yX8_isStation cX8_isStation 1 (some .boolean) :: wsL_law)) (wc := []) (wr := (mW (vG X) ad F)) C [vI s] [.ref (ad 0)] (c_X8_isStation _ _ s (by first | assumption | exact ⟨by omega, by omega⟩)) rfl (gwS mw_452 mw_450 mw_451 mw_5) (by decide +kernel) rfl rfl Sb.rf rfl rfl dX8_grow_2 (fun r w1 hp2_1 => ?_)
  obtain ⟨rfl, rfl⟩ := hp2_1
  show V X 0 0 5 [(0, .ref (ad 0)), (1, vI s), (2, vI q)] [vI (bI (0 ≤ s ∧ s ≤ 1)), .ref (ad 0)] ((mW (vG X) ad F))
  refine v_if_ne (tgt := 12) C dX8_grow_5 (by decide) sm_bI (fun c5 => ?_) (fun c5 => ?_)
  · have c5 := bI_n0.mp c5
    refine v_iload_n C dX8_grow_12 rfl 2 rfl ?_
    refine v_iconst C dX8_grow_13 ?_
    refine v_bipush C dX8_grow_14 (by decide +kernel) ?_
    refine v_callS (na := 3) (wy := (Cond.code yX8_within cX8_within 3 (some .boolean) :: wsL_law)) (wc := []) (wr := (mW (vG X) ad F)) C [vI q, vI 1, vI 9] [.ref (ad 0)] (c_X8_within _ _ q 1 9 (by first | assumption | exact ⟨by omega, by omega⟩) (by decide) (by decide)) rfl (gwS mw_343 mw_341 mw_342 mw_5) (by decide +kernel) rfl rfl Sb.rf rfl rfl dX8_grow_16 (fun r w1 hp16_2 => ?_)
    obtain ⟨rfl, rfl⟩ := hp16_2
    show V X 0 0 19 [(0, .ref (ad 0)), (1, vI s), (2, vI q)] [vI (bI (1 ≤ q ∧ q ≤ 9)), .ref (ad 0)] ((mW (vG X) ad F))
    refine v_if_ne (tgt := 26) C dX8_grow_19 (by decide) sm_bI (fun c19 => ?_) (fun c19 => ?_)
    · have c19 := bI_n0.mp c19
      refine v_aload_n C dX8_grow_26 rfl 0 rfl ?_
      refine v_iload_n C dX8_grow_27 rfl 1 rfl ?_
      refine v_iconst C dX8_grow_28 ?_
      refine v_callV (na := 2) (wy := (Cond.code yX8_of cX8_of 3 (some .int) :: wsL_law)) (wc := (mW (vG X) ad F)) (wr := []) C [vI s, vI 3] [.ref (ad 0)] (c_X8_of _ _ ad F s 3 (by omega) (by omega)) rfl (gwV mw_129 mw_126 mw_127 mw_128 mw_5) rfl (by decide +kernel) 0 rfl rfl rfl rfl Sb.w rfl rfl dX8_grow_29 (fun r w1 hp29_3 => ?_)
      obtain ⟨rfl, rfl⟩ := hp29_3
      show V X 0 0 32 [(0, .ref (ad 0)), (1, vI s), (2, vI q)] [vI (F 2 ((18 + (11 * s)) + 3)), .ref (ad 0)] ((mW (vG X) ad F))
      refine v_iload_n C dX8_grow_32 rfl 2 rfl ?_
      refine v_iadd C dX8_grow_33 ?_
      refine v_bipush C dX8_grow_34 (by decide +kernel) ?_
      refine v_icmp_gt (tgt := 48) C dX8_grow_36 (by decide) (by have := hB ((18 + (11 * s)) + 3); first | assumption | exact ⟨by omega, by omega⟩) (by decide) (fun c36 => ?_) (fun c36 => ?_)
      · skip
        refine v_iconst C dX8_grow_48 ?_
        refine v_goto (tgt := 53) C dX8_grow_49 (by decide) ?_
        refine v_put C inw_8 tyX8 tyX8_ok nmX8 0 0 rfl (by decide) (List.mem_cons_of_mem _ mw_147) rfl rfl rfl rfl (Nat.le_of_ble_eq_true rfl) dX8_grow_53 (ws' := (mW (vG X) ad (up F 0 (up (F 0) 0 3)))) rfl ?_
        refine v_aload_n C dX8_grow_56 rfl 0 rfl ?_
        refine v_get (v := vI 3) C inw_8 0 0 rfl (by decide) (List.mem_cons_of_mem _ mw_147) rfl rfl dX8_grow_57 ?_
        refine v_if_le (tgt := 65) C dX8_grow_60 (by decide) (by decide) (fun c => absurd c (by decide)) (fun _ => ?_)
        refine v_iconst C dX8_grow_63 ?_
        exact v_iret C E rfl dX8_grow_64 (by decide) (by decide) (⟨_, rfl, Or.inr (Or.inr (Or.inl ⟨by omega, rfl⟩))⟩)
      · skip
        refine v_aload_n C dX8_grow_39 rfl 0 rfl ?_
        refine v_iload_n C dX8_grow_40 rfl 1 rfl ?_
        refine v_iconst C dX8_grow_41 ?_
        refine v_callV (na := 2) (wy := (Cond.code yX8_of cX8_of 3 (some .int) :: wsL_law)) (wc := (mW (vG X) ad F)) (wr := []) C [vI s, vI 4] [.ref (ad 0)] (c_X8_of _ _ ad F s 4 (by omega) (by omega)) rfl (gwV mw_129 mw_126 mw_127 mw_128 mw_5) rfl (by decide +kernel) 0 rfl rfl rfl rfl Sb.w rfl rfl dX8_grow_42 (fun r w1 hp42_4 => ?_)
        obtain ⟨rfl, rfl⟩ := hp42_4
        show V X 0 0 45 [(0, .ref (ad 0)), (1, vI s), (2, vI q)] [vI (F 2 ((18 + (11 * s)) + 4)), .ref (ad 0)] ((mW (vG X) ad F))
        refine v_if_le (tgt := 52) C dX8_grow_45 (by decide) (by have := hB ((18 + (11 * s)) + 4); first | assumption | exact ⟨by omega, by omega⟩) (fun c45 => ?_) (fun c45 => ?_)
        · skip
          refine v_iconst C dX8_grow_52 ?_
          refine v_put C inw_8 tyX8 tyX8_ok nmX8 0 0 rfl (by decide) (List.mem_cons_of_mem _ mw_147) rfl rfl rfl rfl (Nat.le_of_ble_eq_true rfl) dX8_grow_53 (ws' := (mW (vG X) ad (up F 0 (up (F 0) 0 0)))) rfl ?_
          refine v_aload_n C dX8_grow_56 rfl 0 rfl ?_
          refine v_get (v := vI 0) C inw_8 0 0 rfl (by decide) (List.mem_cons_of_mem _ mw_147) rfl rfl dX8_grow_57 ?_
          refine v_if_le (tgt := 65) C dX8_grow_60 (by decide) (by decide) (fun _ => ?_) (fun c => absurd (by decide) c)
          refine v_aload_n C dX8_grow_65 rfl 0 rfl ?_
          refine v_callV (na := 0) (wy := (Cond.code yX8_keep cX8_keep 2 none :: wsL_law)) (wc := (mW (vG X) ad (up F 0 (up (F 0) 0 0)))) (wr := []) C [] [] (c_X8_keep _ _ ad (up F 0 (up (F 0) 0 0)) d0 d1) rfl (gwV mw_776 mw_773 mw_774 mw_775 mw_5) rfl (by decide +kernel) 0 rfl rfl rfl rfl Sb.w rfl rfl dX8_grow_66 (fun r w1 hp66_5 => ?_)
          obtain ⟨rfl, rfl⟩ := hp66_5
          show V X 0 0 69 [(0, .ref (ad 0)), (1, vI s), (2, vI q)] [] ((mW (vG X) ad (up (up F 0 (up (up (F 0) 0 0) 14 (kpD (F 0 14) + 1))) 5 (cpF (F 2) (kpH (F 0 14) (F 5)) 0 (kpD (F 0 14)) 441))))
          refine v_aload_n C dX8_grow_69 rfl 0 rfl ?_
          refine v_get (v := .ref (ad 2)) C inw_8 0 10 rfl (by decide) (List.mem_cons_of_mem _ mw_105) rfl rfl dX8_grow_70 ?_
          refine v_iload_n C dX8_grow_73 rfl 1 rfl ?_
          refine v_iconst C dX8_grow_74 ?_
          refine v_callS (na := 2) (wy := (Cond.code yX8_at cX8_at 2 (some .int) :: wsL_law)) (wc := []) (wr := (mW (vG X) ad (up (up F 0 (up (up (F 0) 0 0) 14 (kpD (F 0 14) + 1))) 5 (cpF (F 2) (kpH (F 0 14) (F 5)) 0 (kpD (F 0 14)) 441)))) C [vI s, vI 3] [.ref (ad 2)] (c_X8_at _ _ s 3 ) rfl (gwS mw_120 mw_118 mw_119 mw_5) (by decide +kernel) rfl rfl Sb.rf rfl rfl dX8_grow_75 (fun r w1 hp75_6 => ?_)
          obtain ⟨rfl, rfl⟩ := hp75_6
          show V X 0 0 78 [(0, .ref (ad 0)), (1, vI s), (2, vI q)] [vI ((18 + (11 * s)) + 3), .ref (ad 2)] ((mW (vG X) ad (up (up F 0 (up (up (F 0) 0 0) 14 (kpD (F 0 14) + 1))) 5 (cpF (F 2) (kpH (F 0 14) (F 5)) 0 (kpD (F 0 14)) 441))))
          refine v_dup2 C dX8_grow_78 rfl rfl ?_
          refine v_iald C 2 rfl (by  omega) (by  omega) (by decide) dX8_grow_79 ?_
          show V X 0 0 80 [(0, .ref (ad 0)), (1, vI s), (2, vI q)] [vI (F 2 ((18 + (11 * s)) + 3)), vI ((18 + (11 * s)) + 3), .ref (ad 2)] ((mW (vG X) ad (up (up F 0 (up (up (F 0) 0 0) 14 (kpD (F 0 14) + 1))) 5 (cpF (F 2) (kpH (F 0 14) (F 5)) 0 (kpD (F 0 14)) 441))))
          refine v_iload_n C dX8_grow_80 rfl 2 rfl ?_
          refine v_iadd C dX8_grow_81 ?_
          refine v_iast C 2 rfl (by  omega) (by  omega) (by decide) dX8_grow_82 (ws' := (mW (vG X) ad (up (up (up F 0 (up (up (F 0) 0 0) 14 (kpD (F 0 14) + 1))) 2 (up (F 2) ((18 + (11 * s)) + 3) ((F 2 ((18 + (11 * s)) + 3)) + q))) 5 (cpF (F 2) (kpH (F 0 14) (F 5)) 0 (kpD (F 0 14)) 441)))) rfl ?_
          refine v_aload_n C dX8_grow_83 rfl 0 rfl ?_
          refine v_iload_n C dX8_grow_84 rfl 1 rfl ?_
          refine v_iconst C dX8_grow_85 ?_
          refine v_callV (na := 2) (wy := (Cond.code yX8_of cX8_of 3 (some .int) :: wsL_law)) (wc := (mW (vG X) ad (up (up (up F 0 (up (up (F 0) 0 0) 14 (kpD (F 0 14) + 1))) 2 (up (F 2) ((18 + (11 * s)) + 3) ((F 2 ((18 + (11 * s)) + 3)) + q))) 5 (cpF (F 2) (kpH (F 0 14) (F 5)) 0 (kpD (F 0 14)) 441)))) (wr := []) C [vI s, vI 3] [] (c_X8_of _ _ ad (up (up (up F 0 (up (up (F 0) 0 0) 14 (kpD (F 0 14) + 1))) 2 (up (F 2) ((18 + (11 * s)) + 3) ((F 2 ((18 + (11 * s)) + 3)) + q))) 5 (cpF (F 2) (kpH (F 0 14) (F 5)) 0 (kpD (F 0 14)) 441)) s 3 (by omega) (by omega)) rfl (gwV mw_129 mw_126 mw_127 mw_128 mw_5) rfl (by decide +kernel) 0 rfl rfl rfl rfl Sb.w rfl rfl dX8_grow_86 (fun r w1 hp86_7 => ?_)
          obtain ⟨rfl, rfl⟩ := hp86_7
          show V X 0 0 89 [(0, .ref (ad 0)), (1, vI s), (2, vI q)] [vI ((up (F 2) ((18 + (11 * s)) + 3) ((F 2 ((18 + (11 * s)) + 3)) + q)) ((18 + (11 * s)) + 3))] ((mW (vG X) ad (up (up (up F 0 (up (up (F 0) 0 0) 14 (kpD (F 0 14) + 1))) 2 (up (F 2) ((18 + (11 * s)) + 3) ((F 2 ((18 + (11 * s)) + 3)) + q))) 5 (cpF (F 2) (kpH (F 0 14) (F 5)) 0 (kpD (F 0 14)) 441))))
          rw [up_s]
          exact v_iret C E rfl dX8_grow_89 (by decide) (by decide) (⟨_, rfl, Or.inr (Or.inr (Or.inr (⟨by omega, rfl, rfl⟩)))⟩)
        · skip
          refine v_iconst C dX8_grow_48 ?_
          refine v_goto (tgt := 53) C dX8_grow_49 (by decide) ?_
          refine v_put C inw_8 tyX8 tyX8_ok nmX8 0 0 rfl (by decide) (List.mem_cons_of_mem _ mw_147) rfl rfl rfl rfl (Nat.le_of_ble_eq_true rfl) dX8_grow_53 (ws' := (mW (vG X) ad (up F 0 (up (F 0) 0 3)))) rfl ?_
          refine v_aload_n C dX8_grow_56 rfl 0 rfl ?_
          refine v_get (v := vI 3) C inw_8 0 0 rfl (by decide) (List.mem_cons_of_mem _ mw_147) rfl rfl dX8_grow_57 ?_
          refine v_if_le (tgt := 65) C dX8_grow_60 (by decide) (by decide) (fun c => absurd c (by decide)) (fun _ => ?_)
          refine v_iconst C dX8_grow_63 ?_
          exact v_iret C E rfl dX8_grow_64 (by decide) (by decide) (⟨_, rfl, Or.inr (Or.inr (Or.inl ⟨by omega, rfl⟩))⟩)
    · have c19 := bI_0.mp c19
      refine v_iconst C dX8_grow_22 ?_
      refine v_goto (tgt := 53) C dX8_grow_23 (by decide) ?_
      refine v_put C inw_8 tyX8 tyX8_ok nmX8 0 0 rfl (by decide) (List.mem_cons_of_mem _ mw_147) rfl rfl rfl rfl (Nat.le_of_ble_eq_true rfl) dX8_grow_53 (ws' := (mW (vG X) ad (up F 0 (up (F 0) 0 2)))) rfl ?_
      refine v_aload_n C dX8_grow_56 rfl 0 rfl ?_
      refine v_get (v := vI 2) C inw_8 0 0 rfl (by decide) (List.mem_cons_of_mem _ mw_147) rfl rfl dX8_grow_57 ?_
      refine v_if_le (tgt := 65) C dX8_grow_60 (by decide) (by decide) (fun c => absurd c (by decide)) (fun _ => ?_)
      refine v_iconst C dX8_grow_63 ?_
      exact v_iret C E rfl dX8_grow_64 (by decide) (by decide) (⟨_, rfl, Or.inr (Or.inl ⟨by omega, rfl⟩)⟩)
  · have c5 := bI_0.mp c5
    refine v_iconst C dX8_grow_8 ?_
    refine v_goto (tgt := 53) C dX8_grow_9 (by decide) ?_
    refine v_put C inw_8 tyX8 tyX8_ok nmX8 0 0 rfl (by decide) (List.mem_cons_of_mem _ mw_147) rfl rfl rfl rfl (Nat.le_of_ble_eq_true rfl) dX8_grow_53 (ws' := (mW (vG X) ad (up F 0 (up (F 0) 0 1)))) rfl ?_
    refine v_aload_n C dX8_grow_56 rfl 0 rfl ?_
    refine v_get (v := vI 1) C inw_8 0 0 rfl (by decide) (List.mem_cons_of_mem _ mw_147) rfl rfl dX8_grow_57 ?_
    refine v_if_le (tgt := 65) C dX8_grow_60 (by decide) (by decide) (fun c => absurd c (by decide)) (fun _ => ?_)
    refine v_iconst C dX8_grow_63 ?_
    exact v_iret C E rfl dX8_grow_64 (by decide) (by decide) (⟨_, rfl, Or.inl ⟨by omega, rfl⟩⟩)
set_option maxHeartbeats 4000000 in
set_option maxRecDepth 100000 in
theorem c_X8_lose (G : GG) (l : Launch) (ad : Nat → Nat) (F : Int → Int → Int) (f : Int) (hf : sm f) (hB : sB 1000000 (F 2)) (h70 : 0 ≤ F 2 7) (h7 : F 2 7 ≤ 40) (d0 : 0 ≤ F 0 14) (d1 : F 0 14 ≤ 10) : Ct G l yX8_lose (Cond.code yX8_lose cX8_lose 2 (some .int) :: wsL_law) 2 45 0 0 [.ref (ad 0), vI f] ((mW G ad F)) (fun r w => ∃ v : Int, r = some (vI v) ∧ (((¬ (0 ≤ f ∧ f ≤ 1999)) ∧ w = mW G ad (up F 0 (up (F 0) 0 1))) ∨ (((0 ≤ f ∧ f ≤ 1999) ∧ (f < F 2 3 ∨ ¬ lz (F 2) f = 0 ∨ F 2 7 = 40)) ∧ w = mW G ad (up F 0 (up (F 0) 0 2))) ∨ (((0 ≤ f ∧ f ≤ 1999) ∧ ¬ (f < F 2 3 ∨ ¬ lz (F 2) f = 0 ∨ F 2 7 = 40)) ∧ v = ((F 2 7) + 1) ∧ w = (mW G ad (up (up (up F 0 (up (up (F 0) 0 0) 14 (kpD (F 0 14) + 1))) 2 (up (up (F 2) (400 + (F 2 7)) f) 7 ((F 2 7) + 1))) 5 (cpF (F 2) (kpH (F 0 14) (F 5)) 0 (kpD (F 0 14)) 441)))))) := by
  refine Ct.of (own := RX8) (cc := cX8_lose) (maxL := 2) (ret := (some .int)) (by decide) rfl rfl (Nat.le_of_ble_eq_true rfl) (fun X C E M hG hl => ?_)
  subst hG hl
  have h74 := h7
  have h7 : F 2 7 ≤ 41 := by omega
  refine v_aload_n C dX8_lose_0 rfl 0 rfl ?_
  refine v_iload_n C dX8_lose_1 rfl 1 rfl ?_
  refine v_iconst C dX8_lose_2 ?_
  refine v_sipush C dX8_lose_3 (by decide +kernel) ?_
  refine v_callS (na := 3) (wy := (Cond.code yX8_within cX8_within 3 (some .boolean) :: wsL_law)) (wc := []) (wr := (mW (vG X) ad F)) C [vI f, vI 0, vI 1999] [.ref (ad 0)] (c_X8_within _ _ f 0 1999 (by first | assumption | exact ⟨by omega, by omega⟩) (by decide) (by decide)) rfl (gwS mw_343 mw_341 mw_342 mw_5) (by decide +kernel) rfl rfl Sb.rf rfl rfl dX8_lose_6 (fun r w1 hp6_1 => ?_)
  obtain ⟨rfl, rfl⟩ := hp6_1
  show V X 0 0 9 [(0, .ref (ad 0)), (1, vI f)] [vI (bI (0 ≤ f ∧ f ≤ 1999)), .ref (ad 0)] ((mW (vG X) ad F))
  refine v_if_ne (tgt := 16) C dX8_lose_9 (by decide) sm_bI (fun c9 => ?_) (fun c9 => ?_)
  · have c9 := bI_n0.mp c9
    refine v_iload_n C dX8_lose_16 rfl 1 rfl ?_
    refine v_aload_n C dX8_lose_17 rfl 0 rfl ?_
    refine v_get (v := .ref (ad 2)) C inw_8 0 10 rfl (by decide) (List.mem_cons_of_mem _ mw_105) rfl rfl dX8_lose_18 ?_
    refine v_iconst C dX8_lose_21 ?_
    refine v_iald C 2 rfl (by decide) (by decide) (by decide) dX8_lose_22 ?_
    refine v_icmp_lt (tgt := 46) C dX8_lose_23 (by decide) (by  first | assumption | exact ⟨by omega, by omega⟩) (by have := hB 3; first | assumption | exact ⟨by omega, by omega⟩) (fun c23 => ?_) (fun c23 => ?_)
    · skip
      refine v_iconst C dX8_lose_46 ?_
      refine v_goto (tgt := 51) C dX8_lose_47 (by decide) ?_
      refine v_put C inw_8 tyX8 tyX8_ok nmX8 0 0 rfl (by decide) (List.mem_cons_of_mem _ mw_147) rfl rfl rfl rfl (Nat.le_of_ble_eq_true rfl) dX8_lose_51 (ws' := (mW (vG X) ad (up F 0 (up (F 0) 0 2)))) rfl ?_
      refine v_aload_n C dX8_lose_54 rfl 0 rfl ?_
      refine v_get (v := vI 2) C inw_8 0 0 rfl (by decide) (List.mem_cons_of_mem _ mw_147) rfl rfl dX8_lose_55 ?_
      refine v_if_le (tgt := 63) C dX8_lose_58 (by decide) (by decide) (fun c => absurd c (by decide)) (fun _ => ?_)
      refine v_iconst C dX8_lose_61 ?_
      exact v_iret C E rfl dX8_lose_62 (by decide) (by decide) (⟨_, rfl, Or.inr (Or.inl ⟨by omega, rfl⟩)⟩)
    · skip
      refine v_aload_n C dX8_lose_26 rfl 0 rfl ?_
      refine v_iload_n C dX8_lose_27 rfl 1 rfl ?_
      refine v_callV (na := 1) (wy := (Cond.code yX8_isLost cX8_isLost 4 (some .boolean) :: wsL_law)) (wc := (mW (vG X) ad F)) (wr := []) C [vI f] [.ref (ad 0)] (c_X8_isLost _ _ ad F f (sB_mono (by decide) hB) (by first | assumption | exact ⟨by omega, by omega⟩) h70 h7) rfl (gwV mw_408 mw_405 mw_406 mw_407 mw_5) rfl (by decide +kernel) 0 rfl rfl rfl rfl Sb.w rfl rfl dX8_lose_28 (fun r w1 hp28_2 => ?_)
      obtain ⟨rfl, rfl⟩ := hp28_2
      have hlz28 := lz_01 (F 2) f
      show V X 0 0 31 [(0, .ref (ad 0)), (1, vI f)] [vI (lz (F 2) f), .ref (ad 0)] ((mW (vG X) ad F))
      refine v_if_ne (tgt := 46) C dX8_lose_31 (by decide) (by  first | assumption | exact ⟨by omega, by omega⟩) (fun c31 => ?_) (fun c31 => ?_)
      · skip
        refine v_iconst C dX8_lose_46 ?_
        refine v_goto (tgt := 51) C dX8_lose_47 (by decide) ?_
        refine v_put C inw_8 tyX8 tyX8_ok nmX8 0 0 rfl (by decide) (List.mem_cons_of_mem _ mw_147) rfl rfl rfl rfl (Nat.le_of_ble_eq_true rfl) dX8_lose_51 (ws' := (mW (vG X) ad (up F 0 (up (F 0) 0 2)))) rfl ?_
        refine v_aload_n C dX8_lose_54 rfl 0 rfl ?_
        refine v_get (v := vI 2) C inw_8 0 0 rfl (by decide) (List.mem_cons_of_mem _ mw_147) rfl rfl dX8_lose_55 ?_
        refine v_if_le (tgt := 63) C dX8_lose_58 (by decide) (by decide) (fun c => absurd c (by decide)) (fun _ => ?_)
        refine v_iconst C dX8_lose_61 ?_
        exact v_iret C E rfl dX8_lose_62 (by decide) (by decide) (⟨_, rfl, Or.inr (Or.inl ⟨by omega, rfl⟩)⟩)
      · skip
        refine v_aload_n C dX8_lose_34 rfl 0 rfl ?_
        refine v_get (v := .ref (ad 2)) C inw_8 0 10 rfl (by decide) (List.mem_cons_of_mem _ mw_105) rfl rfl dX8_lose_35 ?_
        refine v_bipush C dX8_lose_38 (by decide +kernel) ?_
        refine v_iald C 2 rfl (by decide) (by decide) (by decide) dX8_lose_40 ?_
        refine v_bipush C dX8_lose_41 (by decide +kernel) ?_
        refine v_icmp_ne (tgt := 50) C dX8_lose_43 (by decide) (by have := hB 7; first | assumption | exact ⟨by omega, by omega⟩) (by decide) (fun c43 => ?_) (fun c43 => ?_)
        · skip
          refine v_iconst C dX8_lose_50 ?_
          refine v_put C inw_8 tyX8 tyX8_ok nmX8 0 0 rfl (by decide) (List.mem_cons_of_mem _ mw_147) rfl rfl rfl rfl (Nat.le_of_ble_eq_true rfl) dX8_lose_51 (ws' := (mW (vG X) ad (up F 0 (up (F 0) 0 0)))) rfl ?_
          refine v_aload_n C dX8_lose_54 rfl 0 rfl ?_
          refine v_get (v := vI 0) C inw_8 0 0 rfl (by decide) (List.mem_cons_of_mem _ mw_147) rfl rfl dX8_lose_55 ?_
          refine v_if_le (tgt := 63) C dX8_lose_58 (by decide) (by decide) (fun _ => ?_) (fun c => absurd (by decide) c)
          refine v_aload_n C dX8_lose_63 rfl 0 rfl ?_
          refine v_callV (na := 0) (wy := (Cond.code yX8_keep cX8_keep 2 none :: wsL_law)) (wc := (mW (vG X) ad (up F 0 (up (F 0) 0 0)))) (wr := []) C [] [] (c_X8_keep _ _ ad (up F 0 (up (F 0) 0 0)) d0 d1) rfl (gwV mw_776 mw_773 mw_774 mw_775 mw_5) rfl (by decide +kernel) 0 rfl rfl rfl rfl Sb.w rfl rfl dX8_lose_64 (fun r w1 hp64_3 => ?_)
          obtain ⟨rfl, rfl⟩ := hp64_3
          show V X 0 0 67 [(0, .ref (ad 0)), (1, vI f)] [] ((mW (vG X) ad (up (up F 0 (up (up (F 0) 0 0) 14 (kpD (F 0 14) + 1))) 5 (cpF (F 2) (kpH (F 0 14) (F 5)) 0 (kpD (F 0 14)) 441))))
          refine v_aload_n C dX8_lose_67 rfl 0 rfl ?_
          refine v_get (v := .ref (ad 2)) C inw_8 0 10 rfl (by decide) (List.mem_cons_of_mem _ mw_105) rfl rfl dX8_lose_68 ?_
          refine v_sipush C dX8_lose_71 (by decide +kernel) ?_
          refine v_aload_n C dX8_lose_74 rfl 0 rfl ?_
          refine v_get (v := .ref (ad 2)) C inw_8 0 10 rfl (by decide) (List.mem_cons_of_mem _ mw_105) rfl rfl dX8_lose_75 ?_
          refine v_bipush C dX8_lose_78 (by decide +kernel) ?_
          refine v_iald C 2 rfl (by decide) (by decide) (by decide) dX8_lose_80 ?_
          show V X 0 0 81 [(0, .ref (ad 0)), (1, vI f)] [vI (F 2 7), vI 400, .ref (ad 2)] ((mW (vG X) ad (up (up F 0 (up (up (F 0) 0 0) 14 (kpD (F 0 14) + 1))) 5 (cpF (F 2) (kpH (F 0 14) (F 5)) 0 (kpD (F 0 14)) 441))))
          refine v_iadd C dX8_lose_81 ?_
          refine v_iload_n C dX8_lose_82 rfl 1 rfl ?_
          refine v_iast C 2 rfl (by have := hB 7; omega) (by have := hB 7; omega) (by decide) dX8_lose_83 (ws' := (mW (vG X) ad (up (up (up F 0 (up (up (F 0) 0 0) 14 (kpD (F 0 14) + 1))) 2 (up (F 2) (400 + (F 2 7)) f)) 5 (cpF (F 2) (kpH (F 0 14) (F 5)) 0 (kpD (F 0 14)) 441)))) rfl ?_
          refine v_aload_n C dX8_lose_84 rfl 0 rfl ?_
          refine v_get (v := .ref (ad 2)) C inw_8 0 10 rfl (by decide) (List.mem_cons_of_mem _ mw_105) rfl rfl dX8_lose_85 ?_
          refine v_bipush C dX8_lose_88 (by decide +kernel) ?_
          refine v_dup2 C dX8_lose_90 rfl rfl ?_
          refine v_iald C 2 rfl (by decide) (by decide) (by decide) dX8_lose_91 ?_
          show V X 0 0 92 [(0, .ref (ad 0)), (1, vI f)] [vI ((up (F 2) (400 + (F 2 7)) f) 7), vI 7, .ref (ad 2)] ((mW (vG X) ad (up (up (up F 0 (up (up (F 0) 0 0) 14 (kpD (F 0 14) + 1))) 2 (up (F 2) (400 + (F 2 7)) f)) 5 (cpF (F 2) (kpH (F 0 14) (F 5)) 0 (kpD (F 0 14)) 441))))
          rw [up_n (show (7 : Int) ≠ (400 + (F 2 7)) by have := hB 7; omega)]
          refine v_iconst C dX8_lose_92 ?_
          refine v_iadd C dX8_lose_93 ?_
          refine v_iast C 2 rfl (by decide) (by decide) (by decide) dX8_lose_94 (ws' := (mW (vG X) ad (up (up (up F 0 (up (up (F 0) 0 0) 14 (kpD (F 0 14) + 1))) 2 (up (up (F 2) (400 + (F 2 7)) f) 7 ((F 2 7) + 1))) 5 (cpF (F 2) (kpH (F 0 14) (F 5)) 0 (kpD (F 0 14)) 441)))) rfl ?_
          refine v_aload_n C dX8_lose_95 rfl 0 rfl ?_
          refine v_get (v := .ref (ad 2)) C inw_8 0 10 rfl (by decide) (List.mem_cons_of_mem _ mw_105) rfl rfl dX8_lose_96 ?_
          refine v_bipush C dX8_lose_99 (by decide +kernel) ?_
          refine v_iald C 2 rfl (by decide) (by decide) (by decide) dX8_lose_101 ?_
          show V X 0 0 102 [(0, .ref (ad 0)), (1, vI f)] [vI ((up (up (F 2) (400 + (F 2 7)) f) 7 ((F 2 7) + 1)) 7)] ((mW (vG X) ad (up (up (up F 0 (up (up (F 0) 0 0) 14 (kpD (F 0 14) + 1))) 2 (up (up (F 2) (400 + (F 2 7)) f) 7 ((F 2 7) + 1))) 5 (cpF (F 2) (kpH (F 0 14) (F 5)) 0 (kpD (F 0 14)) 441))))
          rw [up_s]
          exact v_iret C E rfl dX8_lose_102 (by decide) (by decide) (⟨_, rfl, Or.inr (Or.inr (⟨by omega, rfl, rfl⟩))⟩)
        · skip
          refine v_iconst C dX8_lose_46 ?_
          refine v_goto (tgt := 51) C dX8_lose_47 (by decide) ?_
          refine v_put C inw_8 tyX8 tyX8_ok nmX8 0 0 rfl (by decide) (List.mem_cons_of_mem _ mw_147) rfl rfl rfl rfl (Nat.le_of_ble_eq_true rfl) dX8_lose_51 (ws' := (mW (vG X) ad (up F 0 (up (F 0) 0 2)))) rfl ?_
          refine v_aload_n C dX8_lose_54 rfl 0 rfl ?_
          refine v_get (v := vI 2) C inw_8 0 0 rfl (by decide) (List.mem_cons_of_mem _ mw_147) rfl rfl dX8_lose_55 ?_
          refine v_if_le (tgt := 63) C dX8_lose_58 (by decide) (by decide) (fun c => absurd c (by decide)) (fun _ => ?_)
          refine v_iconst C dX8_lose_61 ?_
          exact v_iret C E rfl dX8_lose_62 (by decide) (by decide) (⟨_, rfl, Or.inr (Or.inl ⟨by omega, rfl⟩)⟩)
  · have c9 := bI_0.mp c9
    refine v_iconst C dX8_lose_12 ?_
    refine v_goto (tgt := 51) C dX8_lose_13 (by decide) ?_
    refine v_put C inw_8 tyX8 tyX8_ok nmX8 0 0 rfl (by decide) (List.mem_cons_of_mem _ mw_147) rfl rfl rfl rfl (Nat.le_of_ble_eq_true rfl) dX8_lose_51 (ws' := (mW (vG X) ad (up F 0 (up (F 0) 0 1)))) rfl ?_
    refine v_aload_n C dX8_lose_54 rfl 0 rfl ?_
    refine v_get (v := vI 1) C inw_8 0 0 rfl (by decide) (List.mem_cons_of_mem _ mw_147) rfl rfl dX8_lose_55 ?_
    refine v_if_le (tgt := 63) C dX8_lose_58 (by decide) (by decide) (fun c => absurd c (by decide)) (fun _ => ?_)
    refine v_iconst C dX8_lose_61 ?_
    exact v_iret C E rfl dX8_lose_62 (by decide) (by decide) (⟨_, rfl, Or.inl ⟨by omega, rfl⟩⟩)
set_option maxHeartbeats 4000000 in
set_option maxRecDepth 100000 in
theorem c_X8_set (G : GG) (l : Launch) (ad : Nat → Nat) (F : Int → Int → Int) (s q : Int) (hs : sm s) (hq : sm q) (d0 : 0 ≤ F 0 14) (d1 : F 0 14 ≤ 10) : Ct G l yX8_set (Cond.code yX8_set cX8_set 4 (some .int) :: wsL_law) 2 45 0 0 [.ref (ad 0), vI s, vI q] ((mW G ad F)) (fun r w => ∃ v : Int, r = some (vI v) ∧ (((¬ ((1 ≤ s ∧ s ≤ 7) ∧ (1 ≤ q ∧ q ≤ 99))) ∧ w = mW G ad (up F 0 (up (F 0) 0 1))) ∨ (((1 ≤ s ∧ s ≤ 7) ∧ (1 ≤ q ∧ q ≤ 99)) ∧ v = (F 2 4) ∧ w = (mW G ad (up (up (up F 0 (up (up (F 0) 0 0) 14 (kpD (F 0 14) + 1))) 2 (up (up (F 2) 4 s) 5 q)) 5 (cpF (F 2) (kpH (F 0 14) (F 5)) 0 (kpD (F 0 14)) 441)))))) := by
  refine Ct.of (own := RX8) (cc := cX8_set) (maxL := 4) (ret := (some .int)) (by decide) rfl rfl (Nat.le_of_ble_eq_true rfl) (fun X C E M hG hl => ?_)
  subst hG hl
  refine v_aload_n C dX8_set_0 rfl 0 rfl ?_
  refine v_iload_n C dX8_set_1 rfl 1 rfl ?_
  refine v_iconst C dX8_set_2 ?_
  refine v_bipush C dX8_set_3 (by decide +kernel) ?_
  refine v_callS (na := 3) (wy := (Cond.code yX8_within cX8_within 3 (some .boolean) :: wsL_law)) (wc := []) (wr := (mW (vG X) ad F)) C [vI s, vI 1, vI 7] [.ref (ad 0)] (c_X8_within _ _ s 1 7 (by first | assumption | exact ⟨by omega, by omega⟩) (by decide) (by decide)) rfl (gwS mw_343 mw_341 mw_342 mw_5) (by decide +kernel) rfl rfl Sb.rf rfl rfl dX8_set_5 (fun r w1 hp5_1 => ?_)
  obtain ⟨rfl, rfl⟩ := hp5_1
  show V X 0 0 8 [(0, .ref (ad 0)), (1, vI s), (2, vI q)] [vI (bI (1 ≤ s ∧ s ≤ 7)), .ref (ad 0)] ((mW (vG X) ad F))
  refine v_if_eq (tgt := 25) C dX8_set_8 (by decide) sm_bI (fun c8 => ?_) (fun c8 => ?_)
  · have c8 := bI_0.mp c8
    refine v_iconst C dX8_set_25 ?_
    refine v_put C inw_8 tyX8 tyX8_ok nmX8 0 0 rfl (by decide) (List.mem_cons_of_mem _ mw_147) rfl rfl rfl rfl (Nat.le_of_ble_eq_true rfl) dX8_set_26 (ws' := (mW (vG X) ad (up F 0 (up (F 0) 0 1)))) rfl ?_
    refine v_aload_n C dX8_set_29 rfl 0 rfl ?_
    refine v_get (v := vI 1) C inw_8 0 0 rfl (by decide) (List.mem_cons_of_mem _ mw_147) rfl rfl dX8_set_30 ?_
    refine v_if_le (tgt := 38) C dX8_set_33 (by decide) (by decide) (fun c => absurd c (by decide)) (fun _ => ?_)
    refine v_iconst C dX8_set_36 ?_
    exact v_iret C E rfl dX8_set_37 (by decide) (by decide) (⟨_, rfl, Or.inl ⟨by omega, rfl⟩⟩)
  · have c8 := bI_n0.mp c8
    refine v_iload_n C dX8_set_11 rfl 2 rfl ?_
    refine v_iconst C dX8_set_12 ?_
    refine v_bipush C dX8_set_13 (by decide +kernel) ?_
    refine v_callS (na := 3) (wy := (Cond.code yX8_within cX8_within 3 (some .boolean) :: wsL_law)) (wc := []) (wr := (mW (vG X) ad F)) C [vI q, vI 1, vI 99] [.ref (ad 0)] (c_X8_within _ _ q 1 99 (by first | assumption | exact ⟨by omega, by omega⟩) (by decide) (by decide)) rfl (gwS mw_343 mw_341 mw_342 mw_5) (by decide +kernel) rfl rfl Sb.rf rfl rfl dX8_set_15 (fun r w1 hp15_2 => ?_)
    obtain ⟨rfl, rfl⟩ := hp15_2
    show V X 0 0 18 [(0, .ref (ad 0)), (1, vI s), (2, vI q)] [vI (bI (1 ≤ q ∧ q ≤ 99)), .ref (ad 0)] ((mW (vG X) ad F))
    refine v_if_eq (tgt := 25) C dX8_set_18 (by decide) sm_bI (fun c18 => ?_) (fun c18 => ?_)
    · have c18 := bI_0.mp c18
      refine v_iconst C dX8_set_25 ?_
      refine v_put C inw_8 tyX8 tyX8_ok nmX8 0 0 rfl (by decide) (List.mem_cons_of_mem _ mw_147) rfl rfl rfl rfl (Nat.le_of_ble_eq_true rfl) dX8_set_26 (ws' := (mW (vG X) ad (up F 0 (up (F 0) 0 1)))) rfl ?_
      refine v_aload_n C dX8_set_29 rfl 0 rfl ?_
      refine v_get (v := vI 1) C inw_8 0 0 rfl (by decide) (List.mem_cons_of_mem _ mw_147) rfl rfl dX8_set_30 ?_
      refine v_if_le (tgt := 38) C dX8_set_33 (by decide) (by decide) (fun c => absurd c (by decide)) (fun _ => ?_)
      refine v_iconst C dX8_set_36 ?_
      exact v_iret C E rfl dX8_set_37 (by decide) (by decide) (⟨_, rfl, Or.inl ⟨by omega, rfl⟩⟩)
    · have c18 := bI_n0.mp c18
      refine v_iconst C dX8_set_21 ?_
      refine v_goto (tgt := 26) C dX8_set_22 (by decide) ?_
      refine v_put C inw_8 tyX8 tyX8_ok nmX8 0 0 rfl (by decide) (List.mem_cons_of_mem _ mw_147) rfl rfl rfl rfl (Nat.le_of_ble_eq_true rfl) dX8_set_26 (ws' := (mW (vG X) ad (up F 0 (up (F 0) 0 0)))) rfl ?_
      refine v_aload_n C dX8_set_29 rfl 0 rfl ?_
      refine v_get (v := vI 0) C inw_8 0 0 rfl (by decide) (List.mem_cons_of_mem _ mw_147) rfl rfl dX8_set_30 ?_
      refine v_if_le (tgt := 38) C dX8_set_33 (by decide) (by decide) (fun _ => ?_) (fun c => absurd (by decide) c)
      refine v_aload_n C dX8_set_38 rfl 0 rfl ?_
      refine v_callV (na := 0) (wy := (Cond.code yX8_keep cX8_keep 2 none :: wsL_law)) (wc := (mW (vG X) ad (up F 0 (up (F 0) 0 0)))) (wr := []) C [] [] (c_X8_keep _ _ ad (up F 0 (up (F 0) 0 0)) d0 d1) rfl (gwV mw_776 mw_773 mw_774 mw_775 mw_5) rfl (by decide +kernel) 0 rfl rfl rfl rfl Sb.w rfl rfl dX8_set_39 (fun r w1 hp39_3 => ?_)
      obtain ⟨rfl, rfl⟩ := hp39_3
      show V X 0 0 42 [(0, .ref (ad 0)), (1, vI s), (2, vI q)] [] ((mW (vG X) ad (up (up F 0 (up (up (F 0) 0 0) 14 (kpD (F 0 14) + 1))) 5 (cpF (F 2) (kpH (F 0 14) (F 5)) 0 (kpD (F 0 14)) 441))))
      refine v_aload_n C dX8_set_42 rfl 0 rfl ?_
      refine v_get (v := .ref (ad 2)) C inw_8 0 10 rfl (by decide) (List.mem_cons_of_mem _ mw_105) rfl rfl dX8_set_43 ?_
      refine v_iconst C dX8_set_46 ?_
      refine v_iald C 2 rfl (by decide) (by decide) (by decide) dX8_set_47 ?_
      show V X 0 0 48 [(0, .ref (ad 0)), (1, vI s), (2, vI q)] [vI (F 2 4)] ((mW (vG X) ad (up (up F 0 (up (up (F 0) 0 0) 14 (kpD (F 0 14) + 1))) 5 (cpF (F 2) (kpH (F 0 14) (F 5)) 0 (kpD (F 0 14)) 441))))
      refine v_istore_n C M dX8_set_48 rfl (by decide) (L' := [(3, vI (F 2 4)), (0, .ref (ad 0)), (1, vI s), (2, vI q)]) rfl ?_
      refine v_aload_n C dX8_set_49 rfl 1 rfl ?_
      refine v_get (v := .ref (ad 2)) C inw_8 0 10 rfl (by decide) (List.mem_cons_of_mem _ mw_105) rfl rfl dX8_set_50 ?_
      refine v_iconst C dX8_set_53 ?_
      refine v_iload_n C dX8_set_54 rfl 2 rfl ?_
      refine v_iast C 2 rfl (by decide) (by decide) (by decide) dX8_set_55 (ws' := (mW (vG X) ad (up (up (up F 0 (up (up (F 0) 0 0) 14 (kpD (F 0 14) + 1))) 2 (up (F 2) 4 s)) 5 (cpF (F 2) (kpH (F 0 14) (F 5)) 0 (kpD (F 0 14)) 441)))) rfl ?_
      refine v_aload_n C dX8_set_56 rfl 1 rfl ?_
      refine v_get (v := .ref (ad 2)) C inw_8 0 10 rfl (by decide) (List.mem_cons_of_mem _ mw_105) rfl rfl dX8_set_57 ?_
      refine v_iconst C dX8_set_60 ?_
      refine v_iload_n C dX8_set_61 rfl 3 rfl ?_
      refine v_iast C 2 rfl (by decide) (by decide) (by decide) dX8_set_62 (ws' := (mW (vG X) ad (up (up (up F 0 (up (up (F 0) 0 0) 14 (kpD (F 0 14) + 1))) 2 (up (up (F 2) 4 s) 5 q)) 5 (cpF (F 2) (kpH (F 0 14) (F 5)) 0 (kpD (F 0 14)) 441)))) rfl ?_
      refine v_iload_n C dX8_set_63 rfl 0 rfl ?_
      exact v_iret C E rfl dX8_set_64 (by decide) (by decide) (⟨_, rfl, Or.inr (⟨by omega, rfl, rfl⟩)⟩)
end M5
