section M9
set_option maxHeartbeats 4000000 in
set_option maxRecDepth 100000 in
theorem c_X5_init (G : GG) (l : Launch) (a : Nat)  : Ct G l yX5_init (Cond.code yX5_init cX5_init 1 none :: wsL_law) 1 24 2 40 [.ref a] ([(a, .inr (5, [.null, .null, vI 0, vI 0, vI 0, vI 0, vI 0, vI 0, vI 0, vI 0, vI 0, vI 0, vI 0]))]) (fun r w => r = none ∧ ∃ b c : Nat, w = stW G a b c stI (fun _ => 0) (fun _ => 0)) := by
  refine Ct.ofI (own := RX5) (cc := cX5_init) (maxL := 1) (ret := none) (by decide) rfl rfl (Nat.le_of_ble_eq_true rfl) (fun X C E M I hG hl => ?_)
  subst hG hl
  refine v_aload_n C dX5_init_0 rfl 0 rfl ?_
  refine v_objInit C (List.mem_cons_of_mem _ mw_65) (List.mem_cons_of_mem _ mw_12) (List.mem_cons_of_mem _ mw_13) (by decide) (by decide) dX5_init_1 ?_
  refine v_aload_n C dX5_init_4 rfl 0 rfl ?_
  refine v_bipush C dX5_init_5 (by decide +kernel) ?_
  refine v_newI C (List.mem_cons_of_mem _ mw_56) (by decide) (by decide) (N' := 20) rfl rfl rfl rfl dX5_init_7 (fun a1 => ?_)
  show V X 1 20 9 [(0, .ref a)] [.ref a1, .ref a] ([(a, .inr (5, [.null, .null, vI 0, vI 0, vI 0, vI 0, vI 0, vI 0, vI 0, vI 0, vI 0, vI 0, vI 0])), (a1, .inl ((vG X).2 1, 20, .inl (fI (fun _ => 0))))])
  refine v_putF C I inw_5 tyX5 tyX5_ok nmX5 0 0 rfl (by decide) (List.mem_cons_of_mem _ mw_66) rfl rfl rfl rfl rfl (Nat.le_of_ble_eq_true rfl) dX5_init_9 (ws' := [(a, .inr (5, [.ref a1, .null, vI 0, vI 0, vI 0, vI 0, vI 0, vI 0, vI 0, vI 0, vI 0, vI 0, vI 0])), (a1, .inl ((vG X).2 1, 20, .inl (fI (fun _ => 0))))]) rfl ?_
  refine v_aload_n C dX5_init_12 rfl 0 rfl ?_
  refine v_bipush C dX5_init_13 (by decide +kernel) ?_
  refine v_newJ C (List.mem_cons_of_mem _ mw_6) (by decide) (by decide) (N' := 20) rfl rfl rfl rfl dX5_init_15 (fun a2 => ?_)
  show V X 2 40 17 [(0, .ref a)] [.ref a2, .ref a] ([(a, .inr (5, [.ref a1, .null, vI 0, vI 0, vI 0, vI 0, vI 0, vI 0, vI 0, vI 0, vI 0, vI 0, vI 0])), (a1, .inl ((vG X).2 1, 20, .inl (fI (fun _ => 0)))), (a2, .inl ((vG X).2 2, 20, .inr (.inl (fL (fun _ => 0)))))])
  refine v_putF C I inw_5 tyX5 tyX5_ok nmX5 0 1 rfl (by decide) (List.mem_cons_of_mem _ mw_67) rfl rfl rfl rfl rfl (Nat.le_of_ble_eq_true rfl) dX5_init_17 (ws' := [(a, .inr (5, [.ref a1, .ref a2, vI 0, vI 0, vI 0, vI 0, vI 0, vI 0, vI 0, vI 0, vI 0, vI 0, vI 0])), (a1, .inl ((vG X).2 1, 20, .inl (fI (fun _ => 0)))), (a2, .inl ((vG X).2 2, 20, .inr (.inl (fL (fun _ => 0)))))]) rfl ?_
  refine v_aload_n C dX5_init_20 rfl 0 rfl ?_
  refine v_iconst C dX5_init_21 ?_
  refine v_put C inw_5 tyX5 tyX5_ok nmX5 0 5 rfl (by decide) (List.mem_cons_of_mem _ mw_68) rfl rfl rfl rfl (Nat.le_of_ble_eq_true rfl) dX5_init_22 (ws' := [(a, .inr (5, [.ref a1, .ref a2, vI 0, vI 0, vI 0, vI 4, vI 0, vI 0, vI 0, vI 0, vI 0, vI 0, vI 0])), (a1, .inl ((vG X).2 1, 20, .inl (fI (fun _ => 0)))), (a2, .inl ((vG X).2 2, 20, .inr (.inl (fL (fun _ => 0)))))]) rfl ?_
  refine v_aload_n C dX5_init_25 rfl 0 rfl ?_
  refine v_iconst C dX5_init_26 ?_
  refine v_put C inw_5 tyX5 tyX5_ok nmX5 0 10 rfl (by decide) (List.mem_cons_of_mem _ mw_69) rfl rfl rfl rfl (Nat.le_of_ble_eq_true rfl) dX5_init_27 (ws' := [(a, .inr (5, [.ref a1, .ref a2, vI 0, vI 0, vI 0, vI 4, vI 0, vI 0, vI 0, vI 0, vI 4, vI 0, vI 0])), (a1, .inl ((vG X).2 1, 20, .inl (fI (fun _ => 0)))), (a2, .inl ((vG X).2 2, 20, .inr (.inl (fL (fun _ => 0)))))]) rfl ?_
  exact v_vret C E rfl dX5_init_30 (by decide) (by decide) (⟨rfl, _, _, rfl⟩)
set_option maxHeartbeats 4000000 in
set_option maxRecDepth 100000 in
theorem c_X8_init (G : GG) (l : Launch) (a : Nat)  : Ct G l yX8_init (Cond.code yX8_init cX8_init 1 none :: wsL_law) 3 63 9 7372 [.ref a] ([(a, .inr (8, [vI 0, .null, vI 0, vI 0, vI 0, vI 0, vI 0, vI 0, vI 0, vI 0, .null, .null, .null, .null, vI 0, .null, .null, vI 0, vI 0, .null, vI 0, .null, vI 0, vI 0, vI 0, vI 0, vI 0]))]) (fun r w => r = none ∧ ∃ a1 a2 a3 a4 a5 a6 a7 a8 a9 : Nat, w = (mW G (adM a a1 a2 a3 a4 a5 a6 a7 a8 a9) (up (up (up Z0 0 (up (Z0 0) 14 0)) 2 (up (up (up (up (emF (Z0 2)) 4 3) 5 20) 25 ((up (up (emF (Z0 2)) 4 3) 5 20) 32)) 36 ((up (up (emF (Z0 2)) 4 3) 5 20) 21))) 7 (up (up (Z0 7) 0 0) 1 0)))) := by
  refine Ct.ofI (own := RX8) (cc := cX8_init) (maxL := 1) (ret := none) (by decide) rfl rfl (Nat.le_of_ble_eq_true rfl) (fun X C E M I hG hl => ?_)
  subst hG hl
  refine v_aload_n C dX8_init_0 rfl 0 rfl ?_
  refine v_objInit C (List.mem_cons_of_mem _ mw_103) (List.mem_cons_of_mem _ mw_12) (List.mem_cons_of_mem _ mw_13) (by decide) (by decide) dX8_init_1 ?_
  refine v_aload_n C dX8_init_4 rfl 0 rfl ?_
  refine v_sipush C dX8_init_5 (by decide +kernel) ?_
  refine v_newB C (List.mem_cons_of_mem _ mw_45) (by decide) (by decide) (N' := 700) rfl rfl rfl rfl dX8_init_8 (fun a1 => ?_)
  show V X 1 700 10 [(0, .ref a)] [.ref a1, .ref a] ([(a, .inr (8, [vI 0, .null, vI 0, vI 0, vI 0, vI 0, vI 0, vI 0, vI 0, vI 0, .null, .null, .null, .null, vI 0, .null, .null, vI 0, vI 0, .null, vI 0, .null, vI 0, vI 0, vI 0, vI 0, vI 0])), (a1, .inl ((vG X).2 0, 700, .inl (fI (fun _ => 0))))])
  refine v_putF C I inw_8 tyX8 tyX8_ok nmX8 0 1 rfl (by decide) (List.mem_cons_of_mem _ mw_104) rfl rfl rfl rfl rfl (Nat.le_of_ble_eq_true rfl) dX8_init_10 (ws' := [(a, .inr (8, [vI 0, .ref a1, vI 0, vI 0, vI 0, vI 0, vI 0, vI 0, vI 0, vI 0, .null, .null, .null, .null, vI 0, .null, .null, vI 0, vI 0, .null, vI 0, .null, vI 0, vI 0, vI 0, vI 0, vI 0])), (a1, .inl ((vG X).2 0, 700, .inl (fI (fun _ => 0))))]) rfl ?_
  refine v_aload_n C dX8_init_13 rfl 0 rfl ?_
  refine v_sipush C dX8_init_14 (by decide +kernel) ?_
  refine v_newI C (List.mem_cons_of_mem _ mw_56) (by decide) (by decide) (N' := 441) rfl rfl rfl rfl dX8_init_17 (fun a2 => ?_)
  show V X 2 1141 19 [(0, .ref a)] [.ref a2, .ref a] ([(a, .inr (8, [vI 0, .ref a1, vI 0, vI 0, vI 0, vI 0, vI 0, vI 0, vI 0, vI 0, .null, .null, .null, .null, vI 0, .null, .null, vI 0, vI 0, .null, vI 0, .null, vI 0, vI 0, vI 0, vI 0, vI 0])), (a1, .inl ((vG X).2 0, 700, .inl (fI (fun _ => 0)))), (a2, .inl ((vG X).2 1, 441, .inl (fI (fun _ => 0))))])
  refine v_putF C I inw_8 tyX8 tyX8_ok nmX8 0 10 rfl (by decide) (List.mem_cons_of_mem _ mw_105) rfl rfl rfl rfl rfl (Nat.le_of_ble_eq_true rfl) dX8_init_19 (ws' := [(a, .inr (8, [vI 0, .ref a1, vI 0, vI 0, vI 0, vI 0, vI 0, vI 0, vI 0, vI 0, .ref a2, .null, .null, .null, vI 0, .null, .null, vI 0, vI 0, .null, vI 0, .null, vI 0, vI 0, vI 0, vI 0, vI 0])), (a1, .inl ((vG X).2 0, 700, .inl (fI (fun _ => 0)))), (a2, .inl ((vG X).2 1, 441, .inl (fI (fun _ => 0))))]) rfl ?_
  refine v_aload_n C dX8_init_22 rfl 0 rfl ?_
  refine v_sipush C dX8_init_23 (by decide +kernel) ?_
  refine v_newI C (List.mem_cons_of_mem _ mw_56) (by decide) (by decide) (N' := 441) rfl rfl rfl rfl dX8_init_26 (fun a3 => ?_)
  show V X 3 1582 28 [(0, .ref a)] [.ref a3, .ref a] ([(a, .inr (8, [vI 0, .ref a1, vI 0, vI 0, vI 0, vI 0, vI 0, vI 0, vI 0, vI 0, .ref a2, .null, .null, .null, vI 0, .null, .null, vI 0, vI 0, .null, vI 0, .null, vI 0, vI 0, vI 0, vI 0, vI 0])), (a1, .inl ((vG X).2 0, 700, .inl (fI (fun _ => 0)))), (a2, .inl ((vG X).2 1, 441, .inl (fI (fun _ => 0)))), (a3, .inl ((vG X).2 1, 441, .inl (fI (fun _ => 0))))])
  refine v_putF C I inw_8 tyX8 tyX8_ok nmX8 0 11 rfl (by decide) (List.mem_cons_of_mem _ mw_106) rfl rfl rfl rfl rfl (Nat.le_of_ble_eq_true rfl) dX8_init_28 (ws' := [(a, .inr (8, [vI 0, .ref a1, vI 0, vI 0, vI 0, vI 0, vI 0, vI 0, vI 0, vI 0, .ref a2, .ref a3, .null, .null, vI 0, .null, .null, vI 0, vI 0, .null, vI 0, .null, vI 0, vI 0, vI 0, vI 0, vI 0])), (a1, .inl ((vG X).2 0, 700, .inl (fI (fun _ => 0)))), (a2, .inl ((vG X).2 1, 441, .inl (fI (fun _ => 0)))), (a3, .inl ((vG X).2 1, 441, .inl (fI (fun _ => 0))))]) rfl ?_
  refine v_aload_n C dX8_init_31 rfl 0 rfl ?_
  refine v_sipush C dX8_init_32 (by decide +kernel) ?_
  refine v_newI C (List.mem_cons_of_mem _ mw_56) (by decide) (by decide) (N' := 441) rfl rfl rfl rfl dX8_init_35 (fun a4 => ?_)
  show V X 4 2023 37 [(0, .ref a)] [.ref a4, .ref a] ([(a, .inr (8, [vI 0, .ref a1, vI 0, vI 0, vI 0, vI 0, vI 0, vI 0, vI 0, vI 0, .ref a2, .ref a3, .null, .null, vI 0, .null, .null, vI 0, vI 0, .null, vI 0, .null, vI 0, vI 0, vI 0, vI 0, vI 0])), (a1, .inl ((vG X).2 0, 700, .inl (fI (fun _ => 0)))), (a2, .inl ((vG X).2 1, 441, .inl (fI (fun _ => 0)))), (a3, .inl ((vG X).2 1, 441, .inl (fI (fun _ => 0)))), (a4, .inl ((vG X).2 1, 441, .inl (fI (fun _ => 0))))])
  refine v_putF C I inw_8 tyX8 tyX8_ok nmX8 0 12 rfl (by decide) (List.mem_cons_of_mem _ mw_107) rfl rfl rfl rfl rfl (Nat.le_of_ble_eq_true rfl) dX8_init_37 (ws' := [(a, .inr (8, [vI 0, .ref a1, vI 0, vI 0, vI 0, vI 0, vI 0, vI 0, vI 0, vI 0, .ref a2, .ref a3, .ref a4, .null, vI 0, .null, .null, vI 0, vI 0, .null, vI 0, .null, vI 0, vI 0, vI 0, vI 0, vI 0])), (a1, .inl ((vG X).2 0, 700, .inl (fI (fun _ => 0)))), (a2, .inl ((vG X).2 1, 441, .inl (fI (fun _ => 0)))), (a3, .inl ((vG X).2 1, 441, .inl (fI (fun _ => 0)))), (a4, .inl ((vG X).2 1, 441, .inl (fI (fun _ => 0))))]) rfl ?_
  refine v_aload_n C dX8_init_40 rfl 0 rfl ?_
  refine v_sipush C dX8_init_41 (by decide +kernel) ?_
  refine v_newI C (List.mem_cons_of_mem _ mw_56) (by decide) (by decide) (N' := 4410) rfl rfl rfl rfl dX8_init_44 (fun a5 => ?_)
  show V X 5 6433 46 [(0, .ref a)] [.ref a5, .ref a] ([(a, .inr (8, [vI 0, .ref a1, vI 0, vI 0, vI 0, vI 0, vI 0, vI 0, vI 0, vI 0, .ref a2, .ref a3, .ref a4, .null, vI 0, .null, .null, vI 0, vI 0, .null, vI 0, .null, vI 0, vI 0, vI 0, vI 0, vI 0])), (a1, .inl ((vG X).2 0, 700, .inl (fI (fun _ => 0)))), (a2, .inl ((vG X).2 1, 441, .inl (fI (fun _ => 0)))), (a3, .inl ((vG X).2 1, 441, .inl (fI (fun _ => 0)))), (a4, .inl ((vG X).2 1, 441, .inl (fI (fun _ => 0)))), (a5, .inl ((vG X).2 1, 4410, .inl (fI (fun _ => 0))))])
  refine v_putF C I inw_8 tyX8 tyX8_ok nmX8 0 13 rfl (by decide) (List.mem_cons_of_mem _ mw_108) rfl rfl rfl rfl rfl (Nat.le_of_ble_eq_true rfl) dX8_init_46 (ws' := [(a, .inr (8, [vI 0, .ref a1, vI 0, vI 0, vI 0, vI 0, vI 0, vI 0, vI 0, vI 0, .ref a2, .ref a3, .ref a4, .ref a5, vI 0, .null, .null, vI 0, vI 0, .null, vI 0, .null, vI 0, vI 0, vI 0, vI 0, vI 0])), (a1, .inl ((vG X).2 0, 700, .inl (fI (fun _ => 0)))), (a2, .inl ((vG X).2 1, 441, .inl (fI (fun _ => 0)))), (a3, .inl ((vG X).2 1, 441, .inl (fI (fun _ => 0)))), (a4, .inl ((vG X).2 1, 441, .inl (fI (fun _ => 0)))), (a5, .inl ((vG X).2 1, 4410, .inl (fI (fun _ => 0))))]) rfl ?_
  refine v_aload_n C dX8_init_49 rfl 0 rfl ?_
  refine v_sipush C dX8_init_50 (by decide +kernel) ?_
  refine v_newI C (List.mem_cons_of_mem _ mw_56) (by decide) (by decide) (N' := 882) rfl rfl rfl rfl dX8_init_53 (fun a6 => ?_)
  show V X 6 7315 55 [(0, .ref a)] [.ref a6, .ref a] ([(a, .inr (8, [vI 0, .ref a1, vI 0, vI 0, vI 0, vI 0, vI 0, vI 0, vI 0, vI 0, .ref a2, .ref a3, .ref a4, .ref a5, vI 0, .null, .null, vI 0, vI 0, .null, vI 0, .null, vI 0, vI 0, vI 0, vI 0, vI 0])), (a1, .inl ((vG X).2 0, 700, .inl (fI (fun _ => 0)))), (a2, .inl ((vG X).2 1, 441, .inl (fI (fun _ => 0)))), (a3, .inl ((vG X).2 1, 441, .inl (fI (fun _ => 0)))), (a4, .inl ((vG X).2 1, 441, .inl (fI (fun _ => 0)))), (a5, .inl ((vG X).2 1, 4410, .inl (fI (fun _ => 0)))), (a6, .inl ((vG X).2 1, 882, .inl (fI (fun _ => 0))))])
  refine v_putF C I inw_8 tyX8 tyX8_ok nmX8 0 15 rfl (by decide) (List.mem_cons_of_mem _ mw_109) rfl rfl rfl rfl rfl (Nat.le_of_ble_eq_true rfl) dX8_init_55 (ws' := [(a, .inr (8, [vI 0, .ref a1, vI 0, vI 0, vI 0, vI 0, vI 0, vI 0, vI 0, vI 0, .ref a2, .ref a3, .ref a4, .ref a5, vI 0, .ref a6, .null, vI 0, vI 0, .null, vI 0, .null, vI 0, vI 0, vI 0, vI 0, vI 0])), (a1, .inl ((vG X).2 0, 700, .inl (fI (fun _ => 0)))), (a2, .inl ((vG X).2 1, 441, .inl (fI (fun _ => 0)))), (a3, .inl ((vG X).2 1, 441, .inl (fI (fun _ => 0)))), (a4, .inl ((vG X).2 1, 441, .inl (fI (fun _ => 0)))), (a5, .inl ((vG X).2 1, 4410, .inl (fI (fun _ => 0)))), (a6, .inl ((vG X).2 1, 882, .inl (fI (fun _ => 0))))]) rfl ?_
  refine v_aload_n C dX8_init_58 rfl 0 rfl ?_
  refine v_iconst C dX8_init_59 ?_
  refine v_newZ C (List.mem_cons_of_mem _ mw_110) (by decide) (by decide) (N' := 2) rfl rfl rfl rfl dX8_init_60 (fun a7 => ?_)
  show V X 7 7317 62 [(0, .ref a)] [.ref a7, .ref a] ([(a, .inr (8, [vI 0, .ref a1, vI 0, vI 0, vI 0, vI 0, vI 0, vI 0, vI 0, vI 0, .ref a2, .ref a3, .ref a4, .ref a5, vI 0, .ref a6, .null, vI 0, vI 0, .null, vI 0, .null, vI 0, vI 0, vI 0, vI 0, vI 0])), (a1, .inl ((vG X).2 0, 700, .inl (fI (fun _ => 0)))), (a2, .inl ((vG X).2 1, 441, .inl (fI (fun _ => 0)))), (a3, .inl ((vG X).2 1, 441, .inl (fI (fun _ => 0)))), (a4, .inl ((vG X).2 1, 441, .inl (fI (fun _ => 0)))), (a5, .inl ((vG X).2 1, 4410, .inl (fI (fun _ => 0)))), (a6, .inl ((vG X).2 1, 882, .inl (fI (fun _ => 0)))), (a7, .inl ((vG X).2 3, 2, .inl (fI (fun _ => 0))))])
  refine v_putF C I inw_8 tyX8 tyX8_ok nmX8 0 16 rfl (by decide) (List.mem_cons_of_mem _ mw_111) rfl rfl rfl rfl rfl (Nat.le_of_ble_eq_true rfl) dX8_init_62 (ws' := [(a, .inr (8, [vI 0, .ref a1, vI 0, vI 0, vI 0, vI 0, vI 0, vI 0, vI 0, vI 0, .ref a2, .ref a3, .ref a4, .ref a5, vI 0, .ref a6, .ref a7, vI 0, vI 0, .null, vI 0, .null, vI 0, vI 0, vI 0, vI 0, vI 0])), (a1, .inl ((vG X).2 0, 700, .inl (fI (fun _ => 0)))), (a2, .inl ((vG X).2 1, 441, .inl (fI (fun _ => 0)))), (a3, .inl ((vG X).2 1, 441, .inl (fI (fun _ => 0)))), (a4, .inl ((vG X).2 1, 441, .inl (fI (fun _ => 0)))), (a5, .inl ((vG X).2 1, 4410, .inl (fI (fun _ => 0)))), (a6, .inl ((vG X).2 1, 882, .inl (fI (fun _ => 0)))), (a7, .inl ((vG X).2 3, 2, .inl (fI (fun _ => 0))))]) rfl ?_
  refine v_aload_n C dX8_init_65 rfl 0 rfl ?_
  refine v_bipush C dX8_init_66 (by decide +kernel) ?_
  refine v_newI C (List.mem_cons_of_mem _ mw_56) (by decide) (by decide) (N' := 15) rfl rfl rfl rfl dX8_init_68 (fun a8 => ?_)
  show V X 8 7332 70 [(0, .ref a)] [.ref a8, .ref a] ([(a, .inr (8, [vI 0, .ref a1, vI 0, vI 0, vI 0, vI 0, vI 0, vI 0, vI 0, vI 0, .ref a2, .ref a3, .ref a4, .ref a5, vI 0, .ref a6, .ref a7, vI 0, vI 0, .null, vI 0, .null, vI 0, vI 0, vI 0, vI 0, vI 0])), (a1, .inl ((vG X).2 0, 700, .inl (fI (fun _ => 0)))), (a2, .inl ((vG X).2 1, 441, .inl (fI (fun _ => 0)))), (a3, .inl ((vG X).2 1, 441, .inl (fI (fun _ => 0)))), (a4, .inl ((vG X).2 1, 441, .inl (fI (fun _ => 0)))), (a5, .inl ((vG X).2 1, 4410, .inl (fI (fun _ => 0)))), (a6, .inl ((vG X).2 1, 882, .inl (fI (fun _ => 0)))), (a7, .inl ((vG X).2 3, 2, .inl (fI (fun _ => 0)))), (a8, .inl ((vG X).2 1, 15, .inl (fI (fun _ => 0))))])
  refine v_putF C I inw_8 tyX8 tyX8_ok nmX8 0 19 rfl (by decide) (List.mem_cons_of_mem _ mw_112) rfl rfl rfl rfl rfl (Nat.le_of_ble_eq_true rfl) dX8_init_70 (ws' := [(a, .inr (8, [vI 0, .ref a1, vI 0, vI 0, vI 0, vI 0, vI 0, vI 0, vI 0, vI 0, .ref a2, .ref a3, .ref a4, .ref a5, vI 0, .ref a6, .ref a7, vI 0, vI 0, .ref a8, vI 0, .null, vI 0, vI 0, vI 0, vI 0, vI 0])), (a1, .inl ((vG X).2 0, 700, .inl (fI (fun _ => 0)))), (a2, .inl ((vG X).2 1, 441, .inl (fI (fun _ => 0)))), (a3, .inl ((vG X).2 1, 441, .inl (fI (fun _ => 0)))), (a4, .inl ((vG X).2 1, 441, .inl (fI (fun _ => 0)))), (a5, .inl ((vG X).2 1, 4410, .inl (fI (fun _ => 0)))), (a6, .inl ((vG X).2 1, 882, .inl (fI (fun _ => 0)))), (a7, .inl ((vG X).2 3, 2, .inl (fI (fun _ => 0)))), (a8, .inl ((vG X).2 1, 15, .inl (fI (fun _ => 0))))]) rfl ?_
  refine v_aload_n C dX8_init_73 rfl 0 rfl ?_
  refine v_bipush C dX8_init_74 (by decide +kernel) ?_
  refine v_newI C (List.mem_cons_of_mem _ mw_56) (by decide) (by decide) (N' := 40) rfl rfl rfl rfl dX8_init_76 (fun a9 => ?_)
  show V X 9 7372 78 [(0, .ref a)] [.ref a9, .ref a] ([(a, .inr (8, [vI 0, .ref a1, vI 0, vI 0, vI 0, vI 0, vI 0, vI 0, vI 0, vI 0, .ref a2, .ref a3, .ref a4, .ref a5, vI 0, .ref a6, .ref a7, vI 0, vI 0, .ref a8, vI 0, .null, vI 0, vI 0, vI 0, vI 0, vI 0])), (a1, .inl ((vG X).2 0, 700, .inl (fI (fun _ => 0)))), (a2, .inl ((vG X).2 1, 441, .inl (fI (fun _ => 0)))), (a3, .inl ((vG X).2 1, 441, .inl (fI (fun _ => 0)))), (a4, .inl ((vG X).2 1, 441, .inl (fI (fun _ => 0)))), (a5, .inl ((vG X).2 1, 4410, .inl (fI (fun _ => 0)))), (a6, .inl ((vG X).2 1, 882, .inl (fI (fun _ => 0)))), (a7, .inl ((vG X).2 3, 2, .inl (fI (fun _ => 0)))), (a8, .inl ((vG X).2 1, 15, .inl (fI (fun _ => 0)))), (a9, .inl ((vG X).2 1, 40, .inl (fI (fun _ => 0))))])
  refine v_putF C I inw_8 tyX8 tyX8_ok nmX8 0 21 rfl (by decide) (List.mem_cons_of_mem _ mw_113) rfl rfl rfl rfl rfl (Nat.le_of_ble_eq_true rfl) dX8_init_78 (ws' := [(a, .inr (8, [vI 0, .ref a1, vI 0, vI 0, vI 0, vI 0, vI 0, vI 0, vI 0, vI 0, .ref a2, .ref a3, .ref a4, .ref a5, vI 0, .ref a6, .ref a7, vI 0, vI 0, .ref a8, vI 0, .ref a9, vI 0, vI 0, vI 0, vI 0, vI 0])), (a1, .inl ((vG X).2 0, 700, .inl (fI (fun _ => 0)))), (a2, .inl ((vG X).2 1, 441, .inl (fI (fun _ => 0)))), (a3, .inl ((vG X).2 1, 441, .inl (fI (fun _ => 0)))), (a4, .inl ((vG X).2 1, 441, .inl (fI (fun _ => 0)))), (a5, .inl ((vG X).2 1, 4410, .inl (fI (fun _ => 0)))), (a6, .inl ((vG X).2 1, 882, .inl (fI (fun _ => 0)))), (a7, .inl ((vG X).2 3, 2, .inl (fI (fun _ => 0)))), (a8, .inl ((vG X).2 1, 15, .inl (fI (fun _ => 0)))), (a9, .inl ((vG X).2 1, 40, .inl (fI (fun _ => 0))))]) rfl ?_
  show V X 9 7372 81 [(0, .ref a)] [] ((mW (vG X) (adM a a1 a2 a3 a4 a5 a6 a7 a8 a9) Z0))
  refine v_aload_n C dX8_init_81 rfl 0 rfl ?_
  refine v_callV (na := 0) (wy := (Cond.code yX8_empties cX8_empties 2 none :: wsL_law)) (wc := (mW (vG X) (adM a a1 a2 a3 a4 a5 a6 a7 a8 a9) Z0)) (wr := []) C [] [] (c_X8_empties _ _ (adM a a1 a2 a3 a4 a5 a6 a7 a8 a9) Z0) rfl (gwV mw_117 mw_114 mw_115 mw_116 mw_5) rfl (by decide +kernel) 0 rfl rfl rfl rfl Sb.w rfl rfl dX8_init_82 (fun r w1 hp82_10 => ?_)
  obtain ⟨rfl, rfl⟩ := hp82_10
  show V X 9 7372 85 [(0, .ref a)] [] ((mW (vG X) (adM a a1 a2 a3 a4 a5 a6 a7 a8 a9) (up Z0 2 (emF (Z0 2)))))
  refine v_aload_n C dX8_init_85 rfl 0 rfl ?_
  refine v_get (v := .ref a2) C inw_8 0 10 rfl (by decide) (List.mem_cons_of_mem _ mw_105) rfl rfl dX8_init_86 ?_
  refine v_iconst C dX8_init_89 ?_
  refine v_iconst C dX8_init_90 ?_
  refine v_iast C 2 rfl (by decide) (by decide) (by decide) dX8_init_91 (ws' := (mW (vG X) (adM a a1 a2 a3 a4 a5 a6 a7 a8 a9) (up Z0 2 (up (emF (Z0 2)) 4 3)))) rfl ?_
  refine v_aload_n C dX8_init_92 rfl 0 rfl ?_
  refine v_get (v := .ref a2) C inw_8 0 10 rfl (by decide) (List.mem_cons_of_mem _ mw_105) rfl rfl dX8_init_93 ?_
  refine v_iconst C dX8_init_96 ?_
  refine v_bipush C dX8_init_97 (by decide +kernel) ?_
  refine v_iast C 2 rfl (by decide) (by decide) (by decide) dX8_init_99 (ws' := (mW (vG X) (adM a a1 a2 a3 a4 a5 a6 a7 a8 a9) (up Z0 2 (up (up (emF (Z0 2)) 4 3) 5 20)))) rfl ?_
  refine v_aload_n C dX8_init_100 rfl 0 rfl ?_
  refine v_callV (na := 0) (wy := (Cond.code yX8_begins cX8_begins 1 none :: wsL_law)) (wc := (mW (vG X) (adM a a1 a2 a3 a4 a5 a6 a7 a8 a9) (up Z0 2 (up (up (emF (Z0 2)) 4 3) 5 20)))) (wr := []) C [] [] (c_X8_begins _ _ (adM a a1 a2 a3 a4 a5 a6 a7 a8 a9) (up Z0 2 (up (up (emF (Z0 2)) 4 3) 5 20))) rfl (gwV mw_124 mw_121 mw_122 mw_123 mw_5) rfl (by decide +kernel) 0 rfl rfl rfl rfl Sb.w rfl rfl dX8_init_101 (fun r w1 hp101_11 => ?_)
  obtain ⟨rfl, rfl⟩ := hp101_11
  show V X 9 7372 104 [(0, .ref a)] [] ((mW (vG X) (adM a a1 a2 a3 a4 a5 a6 a7 a8 a9) (up (up (up Z0 0 (up (Z0 0) 14 0)) 2 (up (up (up (up (emF (Z0 2)) 4 3) 5 20) 25 ((up (up (emF (Z0 2)) 4 3) 5 20) 32)) 36 ((up (up (emF (Z0 2)) 4 3) 5 20) 21))) 7 (up (up (Z0 7) 0 0) 1 0))))
  exact v_vret C E rfl dX8_init_104 (by decide) (by decide) (⟨rfl, _, _, _, _, _, _, _, _, _, rfl⟩)
end M9
