section BeginL
set_option maxHeartbeats 4000000 in
set_option maxRecDepth 100000 in
theorem lw_begin {X : vCx} {c0 : Cond} (C : lwC X c0) (M9 : vM X 9) {b L : Nat} {xs : Nat → Int} (Sc : vScr X b L xs) (hxs : ∀ j, sm (xs j)) (hst : (vL X).stackTraces = false) (hL : L ≤ 3072)
    (fin : ∀ (k n : Nat) (L' : List (Nat × Value)) (ws : va_W), k ≤ 601024 → n ≤ 7293034 → V X k n 1420 L' [vI 1] ws) : V X 0 0 0 [(0, .ref b)] [] [] := by
  refine v_new (ci := 7) (fs := [.null, .null, .null, .null, .null, .null, .null, .null, .null]) C inw_7 tyX7 tyX7_ok rfl (List.mem_cons_of_mem _ mw_0) (List.mem_cons_of_mem _ mw_1) (List.mem_cons_of_mem _ mw_2) (fun j hj => by rcases (show j = 0 ∨ j = 1 ∨ j = 2 ∨ j = 3 ∨ j = 4 ∨ j = 5 ∨ j = 6 ∨ j = 7 ∨ j = 8 by omega) with rfl | rfl | rfl | rfl | rfl | rfl | rfl | rfl | rfl <;> rfl) rfl rfl dL_law_0 (fun x => ?_)
  show V X 1 9 3 [(0, .ref b)] [.ref x] [(x, .inr (7, [.null, .null, .null, .null, .null, .null, .null, .null, .null]))]
  refine v_dup C dL_law_3 rfl ?_
  refine v_callI (ret := none) (na := 0) (wy := (Cond.code yX7_init cX7_init 1 none :: wsL_law)) (wc := [(x, .inr (7, [.null, .null, .null, .null, .null, .null, .null, .null, .null]))]) (wr := []) C [] [.ref x] (c_X7_init (vG X) (vL X) x) rfl (gwI mw_10) (by decide +kernel) (List.mem_cons_of_mem _ mw_2) (List.mem_cons_of_mem _ mw_8) (List.mem_cons_of_mem _ mw_9) rfl rfl rfl Sb.w rfl rfl dL_law_4 (fun r w1 hp => ?_)
  obtain ⟨rfl, A, B, lads, hA0, rfl⟩ := hp
  subst hA0
  refine V.sb (ws' := (tlW (vG X) A B lads (fun _ => 0) (fun _ => 0) (fun _ => 0) (fun _ => 0) (fun _ => 0) (fun _ => 0) (fun _ => liI) (fun _ _ _ => 0) (fun _ => liI) (fun _ _ _ => 0) (fun _ => 0))) (Sb.bl [0] 1 (fl_app fl1 fl0) fl1 rfl rfl (by decide +kernel)) ?_
  show V X 165 3484 7 [(0, .ref b)] [.ref (A 0)] (tlW (vG X) A B lads (fun _ => 0) (fun _ => 0) (fun _ => 0) (fun _ => 0) (fun _ => 0) (fun _ => 0) (fun _ => liI) (fun _ _ _ => 0) (fun _ => liI) (fun _ _ _ => 0) (fun _ => 0))
  refine v_astore_n C M9 dL_law_7 rfl (by decide) (L' := [(1, .ref (A 0)), (0, .ref b)]) rfl ?_
  refine v_new (ci := 8) (fs := [vI 0, .null, vI 0, vI 0, vI 0, vI 0, vI 0, vI 0, vI 0, vI 0, .null, .null, .null, .null, vI 0, .null, .null, vI 0, vI 0, .null, vI 0, .null, vI 0, vI 0, vI 0, vI 0, vI 0]) C inw_8 tyX8 tyX8_ok rfl (List.mem_cons_of_mem _ mw_3) (List.mem_cons_of_mem _ mw_4) (List.mem_cons_of_mem _ mw_5) (fun j hj => by rcases (show j = 0 ∨ j = 1 ∨ j = 2 ∨ j = 3 ∨ j = 4 ∨ j = 5 ∨ j = 6 ∨ j = 7 ∨ j = 8 ∨ j = 9 ∨ j = 10 ∨ j = 11 ∨ j = 12 ∨ j = 13 ∨ j = 14 ∨ j = 15 ∨ j = 16 ∨ j = 17 ∨ j = 18 ∨ j = 19 ∨ j = 20 ∨ j = 21 ∨ j = 22 ∨ j = 23 ∨ j = 24 ∨ j = 25 ∨ j = 26 by omega) with rfl | rfl | rfl | rfl | rfl | rfl | rfl | rfl | rfl | rfl | rfl | rfl | rfl | rfl | rfl | rfl | rfl | rfl | rfl | rfl | rfl | rfl | rfl | rfl | rfl | rfl | rfl <;> rfl) rfl rfl dL_law_8 (fun y => ?_)
  show V X 166 3511 11 [(1, .ref (A 0)), (0, .ref b)] [.ref y] ((tlW (vG X) A B lads (fun _ => 0) (fun _ => 0) (fun _ => 0) (fun _ => 0) (fun _ => 0) (fun _ => 0) (fun _ => liI) (fun _ _ _ => 0) (fun _ => liI) (fun _ _ _ => 0) (fun _ => 0)) ++ [(y, .inr (8, [vI 0, .null, vI 0, vI 0, vI 0, vI 0, vI 0, vI 0, vI 0, vI 0, .null, .null, .null, .null, vI 0, .null, .null, vI 0, vI 0, .null, vI 0, .null, vI 0, vI 0, vI 0, vI 0, vI 0]))])
  refine v_dup C dL_law_11 rfl ?_
  refine v_callI (ret := none) (na := 0) (wy := (Cond.code yX8_init cX8_init 1 none :: wsL_law)) (wc := [(y, .inr (8, [vI 0, .null, vI 0, vI 0, vI 0, vI 0, vI 0, vI 0, vI 0, vI 0, .null, .null, .null, .null, vI 0, .null, .null, vI 0, vI 0, .null, vI 0, .null, vI 0, vI 0, vI 0, vI 0, vI 0]))]) (wr := (tlW (vG X) A B lads (fun _ => 0) (fun _ => 0) (fun _ => 0) (fun _ => 0) (fun _ => 0) (fun _ => 0) (fun _ => liI) (fun _ _ _ => 0) (fun _ => liI) (fun _ _ _ => 0) (fun _ => 0))) C [] [.ref y] (c_X8_init (vG X) (vL X) y) rfl (gwI mw_102) (by decide +kernel) (List.mem_cons_of_mem _ mw_5) (List.mem_cons_of_mem _ mw_100) (List.mem_cons_of_mem _ mw_101) rfl rfl rfl (Sb.bl [1, 0] 2 fl2 fl2 rfl rfl (by decide +kernel)) rfl rfl dL_law_12 (fun r w1 hp => ?_)
  obtain ⟨rfl, a1, a2, a3, a4, a5, a6, a7, a8, a9, rfl⟩ := hp
  refine V.sb (ws' := (tlW (vG X) A B lads (fun _ => 0) (fun _ => 0) (fun _ => 0) (fun _ => 0) (fun _ => 0) (fun _ => 0) (fun _ => liI) (fun _ _ _ => 0) (fun _ => liI) (fun _ _ _ => 0) (fun _ => 0)) ++ (mW (vG X) (adM y a1 a2 a3 a4 a5 a6 a7 a8 a9) (up (up (up Z0 0 (up (Z0 0) 14 0)) 2 S0) 7 (up (up (Z0 7) 0 0) 1 0)))) (Sb.bl [1, 0] 2 fl2 fl2 rfl rfl (by decide +kernel)) ?_
  show V X 175 10883 15 [(1, .ref (A 0)), (0, .ref b)] [.ref y] ((tlW (vG X) A B lads (fun _ => 0) (fun _ => 0) (fun _ => 0) (fun _ => 0) (fun _ => 0) (fun _ => 0) (fun _ => liI) (fun _ _ _ => 0) (fun _ => liI) (fun _ _ _ => 0) (fun _ => 0)) ++ (mW (vG X) (adM y a1 a2 a3 a4 a5 a6 a7 a8 a9) (up (up (up Z0 0 (up (Z0 0) 14 0)) 2 S0) 7 (up (up (Z0 7) 0 0) 1 0))))
  refine v_astore_n C M9 dL_law_15 rfl (by decide) (L' := [(2, .ref y), (1, .ref (A 0)), (0, .ref b)]) rfl ?_
  refine v_iconst C dL_law_16 ?_
  refine v_newJ C (List.mem_cons_of_mem _ mw_6) (by decide) (by decide) (N' := 1) rfl rfl rfl rfl dL_law_17 (fun o => ?_)
  refine v_astore_n C M9 dL_law_19 rfl (by decide) (L' := [(3, .ref o), (2, .ref y), (1, .ref (A 0)), (0, .ref b)]) rfl ?_
  refine v_iconst C dL_law_20 ?_
  refine v_istore C M9 dL_law_21 (by decide) (L' := lwL A (adM y a1 a2 a3 a4 a5 a6 a7 a8 a9) o b 0) rfl ?_
  exact law_loop C M9 Sc hxs hst hL fin 512 176 10884 0 0 _ _ _ (by decide) (by omega) (by omega) (by decide) (by decide) ⟨lads, _, _, _, _, _, _, _, _, _, _, _, _, TI_0, rfl, rfl, rfl⟩
end BeginL
