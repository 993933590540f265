section M9
set_option maxHeartbeats 4000000 in
set_option maxRecDepth 100000 in
theorem c_X5_init (G : GG) (l : Launch) (a : Nat)  : Ct G l yX5_init (Cond.code yX5_init cX5_init 1 none :: wsL_law) 1 24 2 40 [.ref a] ([(a, .inr (5, [.null, .null, vI 0, vI 0, vI 0, vI 0, vI 0, vI 0, vI 0, vI 0, vI 0, vI 0, vI 0]))]) (fun r w => r = none ∧ ∃ b c : Nat, w = stW G a b c stI (fun _ => 0) (fun _ => 0)) := by
  refine Ct.ofI (own := RX5) (cc := cX5_init) (maxL := 1) (ret := none) (by decide) rfl rfl (Nat.le_of_ble_eq_true rfl) (fun X C E M I hG hl => ?_)
  subst hG hl
  refine v_aload_n C dX5_init_0 rfl 0 rfl ?_
  refine v_objInit C (List.mem_cons_of_mem _ mw_61) (List.mem_cons_of_mem _ mw_7) (List.mem_cons_of_mem _ mw_8) (by decide) (by decide) dX5_init_1 ?_
  refine v_aload_n C dX5_init_4 rfl 0 rfl ?_
  refine v_bipush C dX5_init_5 (by decide +kernel) ?_
  refine v_newI C (List.mem_cons_of_mem _ mw_51) (by decide) (by decide) (N' := 20) rfl rfl rfl rfl dX5_init_7 (fun a1 => ?_)
  show V X 1 20 9 [(0, .ref a)] [.ref a1, .ref a] ([(a, .inr (5, [.null, .null, vI 0, vI 0, vI 0, vI 0, vI 0, vI 0, vI 0, vI 0, vI 0, vI 0, vI 0])), (a1, .inl ((vG X).2 1, 20, .inl (fI (fun _ => 0))))])
  refine v_putF C I inw_5 tyX5 tyX5_ok nmX5 0 0 rfl (by decide) (List.mem_cons_of_mem _ mw_62) rfl rfl rfl rfl rfl (Nat.le_of_ble_eq_true rfl) dX5_init_9 (ws' := [(a, .inr (5, [.ref a1, .null, vI 0, vI 0, vI 0, vI 0, vI 0, vI 0, vI 0, vI 0, vI 0, vI 0, vI 0])), (a1, .inl ((vG X).2 1, 20, .inl (fI (fun _ => 0))))]) rfl ?_
  refine v_aload_n C dX5_init_12 rfl 0 rfl ?_
  refine v_bipush C dX5_init_13 (by decide +kernel) ?_
  refine v_newJ C (List.mem_cons_of_mem _ mw_53) (by decide) (by decide) (N' := 20) rfl rfl rfl rfl dX5_init_15 (fun a2 => ?_)
  show V X 2 40 17 [(0, .ref a)] [.ref a2, .ref a] ([(a, .inr (5, [.ref a1, .null, vI 0, vI 0, vI 0, vI 0, vI 0, vI 0, vI 0, vI 0, vI 0, vI 0, vI 0])), (a1, .inl ((vG X).2 1, 20, .inl (fI (fun _ => 0)))), (a2, .inl ((vG X).2 2, 20, .inr (.inl (fL (fun _ => 0)))))])
  refine v_putF C I inw_5 tyX5 tyX5_ok nmX5 0 1 rfl (by decide) (List.mem_cons_of_mem _ mw_63) rfl rfl rfl rfl rfl (Nat.le_of_ble_eq_true rfl) dX5_init_17 (ws' := [(a, .inr (5, [.ref a1, .ref a2, vI 0, vI 0, vI 0, vI 0, vI 0, vI 0, vI 0, vI 0, vI 0, vI 0, vI 0])), (a1, .inl ((vG X).2 1, 20, .inl (fI (fun _ => 0)))), (a2, .inl ((vG X).2 2, 20, .inr (.inl (fL (fun _ => 0)))))]) rfl ?_
  refine v_aload_n C dX5_init_20 rfl 0 rfl ?_
  refine v_iconst C dX5_init_21 ?_
  refine v_put C inw_5 tyX5 tyX5_ok nmX5 0 5 rfl (by decide) (List.mem_cons_of_mem _ mw_64) rfl rfl rfl rfl (Nat.le_of_ble_eq_true rfl) dX5_init_22 (ws' := [(a, .inr (5, [.ref a1, .ref a2, vI 0, vI 0, vI 0, vI 4, vI 0, vI 0, vI 0, vI 0, vI 0, vI 0, vI 0])), (a1, .inl ((vG X).2 1, 20, .inl (fI (fun _ => 0)))), (a2, .inl ((vG X).2 2, 20, .inr (.inl (fL (fun _ => 0)))))]) rfl ?_
  refine v_aload_n C dX5_init_25 rfl 0 rfl ?_
  refine v_iconst C dX5_init_26 ?_
  refine v_put C inw_5 tyX5 tyX5_ok nmX5 0 10 rfl (by decide) (List.mem_cons_of_mem _ mw_65) rfl rfl rfl rfl (Nat.le_of_ble_eq_true rfl) dX5_init_27 (ws' := [(a, .inr (5, [.ref a1, .ref a2, vI 0, vI 0, vI 0, vI 4, vI 0, vI 0, vI 0, vI 0, vI 4, vI 0, vI 0])), (a1, .inl ((vG X).2 1, 20, .inl (fI (fun _ => 0)))), (a2, .inl ((vG X).2 2, 20, .inr (.inl (fL (fun _ => 0)))))]) rfl ?_
  exact v_vret C E rfl dX5_init_30 (by decide) (by decide) (⟨rfl, _, _, rfl⟩)
end M9
