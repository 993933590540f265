section K1
theorem dL_cell_0 : decode cL_cell 0 = .ok (.aload_n 0, 1) := by decide +kernel
theorem dL_cell_1 : decode cL_cell 1 = .ok (.arraylength, 1) := by decide +kernel
theorem dL_cell_2 : decode cL_cell 2 = .ok (.ifCond .ne 7, 3) := by decide +kernel
theorem dL_cell_5 : decode cL_cell 5 = .ok (.iconst 0, 1) := by decide +kernel
theorem dL_cell_6 : decode cL_cell 6 = .ok (.goto 17, 3) := by decide +kernel
theorem dL_cell_9 : decode cL_cell 9 = .ok (.aload_n 0, 1) := by decide +kernel
theorem dL_cell_10 : decode cL_cell 10 = .ok (.iload_n 1, 1) := by decide +kernel
theorem dL_cell_11 : decode cL_cell 11 = .ok (.aload_n 0, 1) := by decide +kernel
theorem dL_cell_12 : decode cL_cell 12 = .ok (.arraylength, 1) := by decide +kernel
theorem dL_cell_13 : decode cL_cell 13 = .ok (.irem, 1) := by decide +kernel
theorem dL_cell_14 : decode cL_cell 14 = .ok (.iaload, 1) := by decide +kernel
theorem dL_cell_15 : decode cL_cell 15 = .ok (.ldc 7, 2) := by decide +kernel
theorem dL_cell_17 : decode cL_cell 17 = .ok (.iload_n 1, 1) := by decide +kernel
theorem dL_cell_18 : decode cL_cell 18 = .ok (.aload_n 0, 1) := by decide +kernel
theorem dL_cell_19 : decode cL_cell 19 = .ok (.arraylength, 1) := by decide +kernel
theorem dL_cell_20 : decode cL_cell 20 = .ok (.idiv, 1) := by decide +kernel
theorem dL_cell_21 : decode cL_cell 21 = .ok (.imul, 1) := by decide +kernel
theorem dL_cell_22 : decode cL_cell 22 = .ok (.ixor, 1) := by decide +kernel
theorem dL_cell_23 : decode cL_cell 23 = .ok (.ireturn, 1) := by decide +kernel
theorem dL_pick_0 : decode cL_pick 0 = .ok (.aload_n 0, 1) := by decide +kernel
theorem dL_pick_1 : decode cL_pick 1 = .ok (.iload_n 1, 1) := by decide +kernel
theorem dL_pick_2 : decode cL_pick 2 = .ok (.invokestatic 8, 3) := by decide +kernel
theorem dL_pick_5 : decode cL_pick 5 = .ok (.ldc 14, 2) := by decide +kernel
theorem dL_pick_7 : decode cL_pick 7 = .ok (.iand, 1) := by decide +kernel
theorem dL_pick_8 : decode cL_pick 8 = .ok (.iload_n 2, 1) := by decide +kernel
theorem dL_pick_9 : decode cL_pick 9 = .ok (.irem, 1) := by decide +kernel
theorem dL_pick_10 : decode cL_pick 10 = .ok (.ireturn, 1) := by decide +kernel
set_option maxHeartbeats 4000000 in
set_option maxRecDepth 100000 in
theorem c_L_cell (G : GG) (l : Launch) (k : Int) (h0 : 0 ≤ k) (h1 : k < 1000) : Ct G l yL_cell (Cond.code yL_cell cL_cell 2 (some .int) :: wsL_law) 0 0 0 0 [.ref (G.1.2 300), vI k] ([]) (fun r w => ∃ x : Int, r = some (vI x) ∧ w = []) := by
  refine Ct.of (own := RL) (cc := cL_cell) (maxL := 2) (ret := (some .int)) (by decide) rfl rfl (Nat.le_of_ble_eq_true rfl) (fun X C E M hG hl => ?_)
  subst hG hl
  have hL := vC_len C
  refine v_aload_n C dL_cell_0 rfl 0 rfl ?_
  refine v_slen C dL_cell_1 ?_
  refine v_if_ne (tgt := 9) C dL_cell_2 (by decide) ⟨by omega, by omega⟩ (fun c2 => ?_) (fun c2 => ?_)
  · skip
    refine v_aload_n C dL_cell_9 rfl 0 rfl ?_
    refine v_iload_n C dL_cell_10 rfl 1 rfl ?_
    refine v_aload_n C dL_cell_11 rfl 0 rfl ?_
    refine v_slen C dL_cell_12 ?_
    refine v_irem C dL_cell_13 (iI_n0 (by omega) (by omega)) (iI_rem h0 (by omega) (by omega) (by omega)) ?_
    have hm : 0 ≤ k % (((vG X).1.2 301 : Nat) : Int) ∧ k % (((vG X).1.2 301 : Nat) : Int) < (((vG X).1.2 301 : Nat) : Int) := ⟨Int.emod_nonneg _ (by omega), Int.emod_lt_of_pos _ (by omega)⟩
    refine v_ialdS C hm.1 hm.2 dL_cell_14 ?_
    refine v_ldcI (z := 40503) C (List.mem_cons_of_mem _ mw_380) (by decide +kernel) dL_cell_15 ?_
    refine v_iload_n C dL_cell_17 rfl 1 rfl ?_
    refine v_aload_n C dL_cell_18 rfl 0 rfl ?_
    refine v_slen C dL_cell_19 ?_
    refine v_idiv C dL_cell_20 (iI_n0 (by omega) (by omega)) (iI_div h0 (by omega) (by omega) (by omega)) ?_
    refine v_imul C dL_cell_21 ?_
    refine v_ixor C dL_cell_22 (iI_of _).symm ?_
    exact v_iret C E rfl dL_cell_23 (by decide) (by decide) ⟨_, rfl, rfl⟩
  · skip
    refine v_iconst C dL_cell_5 ?_
    refine v_goto (tgt := 23) C dL_cell_6 (by decide) ?_
    exact v_iret C E rfl dL_cell_23 (by decide) (by decide) ⟨_, rfl, rfl⟩
set_option maxHeartbeats 4000000 in
set_option maxRecDepth 100000 in
theorem c_L_pick (G : GG) (l : Launch) (k q : Int) (h0 : 0 ≤ k) (h1 : k < 1000) (h2 : 1 ≤ q) (h3 : q ≤ 1000) : Ct G l yL_pick (Cond.code yL_pick cL_pick 3 (some .int) :: wsL_law) 1 21 0 0 [.ref (G.1.2 300), vI k, vI q] ([]) (fun r w => (∃ x : Int, r = some (vI x) ∧ 0 ≤ x ∧ x < q) ∧ w = []) := by
  refine Ct.of (own := RL) (cc := cL_pick) (maxL := 3) (ret := (some .int)) (by decide) rfl rfl (Nat.le_of_ble_eq_true rfl) (fun X C E M hG hl => ?_)
  subst hG hl
  refine v_aload_n C dL_pick_0 rfl 0 rfl ?_
  refine v_iload_n C dL_pick_1 rfl 1 rfl ?_
  refine v_callS (na := 2) (wy := (Cond.code yL_cell cL_cell 2 (some .int) :: wsL_law)) (wc := []) (wr := []) C [.ref ((vG X).1.2 300), vI k] [] (c_L_cell _ _ k h0 h1) rfl (gwS mw_379 mw_377 mw_378 mw_213) (by decide +kernel) rfl rfl Sb.rf rfl rfl dL_pick_2 (fun r w1 hp2 => ?_)
  obtain ⟨x, rfl, rfl⟩ := hp2
  show V X 0 0 5 [(0, .ref ((vG X).1.2 300)), (1, vI k), (2, vI q)] [vI x] ([])
  refine v_ldcI (z := 65535) C (List.mem_cons_of_mem _ mw_376) (by decide +kernel) dL_pick_5 ?_
  refine v_iand C dL_pick_7 (iI_andM x) ?_
  refine v_iload_n C dL_pick_8 rfl 2 rfl ?_
  refine v_irem C dL_pick_9 (iI_n0 (by omega) (by omega)) (iI_rem (by omega) (by omega) (by omega) (by omega)) ?_
  exact v_iret C E rfl dL_pick_10 (by decide) (by decide) ⟨⟨_, rfl, Int.emod_nonneg _ (by omega), Int.emod_lt_of_pos _ (by omega)⟩, rfl⟩
end K1
