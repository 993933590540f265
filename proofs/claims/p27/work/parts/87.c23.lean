section C23
set_option maxHeartbeats 4000000 in
set_option maxRecDepth 100000 in
theorem c_X7_checkStation (G : GG) (l : Launch) (s : Int) (hst : l.stackTraces = false) (hs : sm s) : CtX G l yX7_checkStation (Cond.code yX7_checkStation cX7_checkStation 1 none :: wsL_law) 6 90 1 6 [vI s] ([]) (fun r w => r = none ∧ w = [] ∧ (0 ≤ s ∧ s ≤ 1)) (fun E w => E = "java/lang/IndexOutOfBoundsException" ∧ w = [] ∧ ¬ (0 ≤ s ∧ s ≤ 1)) := by
  refine CtX.of (own := RX7) (cc := cX7_checkStation) (maxL := 1) (ret := none) hst (by decide) rfl rfl (Nat.le_of_ble_eq_true rfl) (fun X C E M hG hl => ?_)
  subst hG hl
  refine v_iload_n C dX7_checkStation_0 rfl 0 rfl ?_
  refine v_if_lt (tgt := 9) C dX7_checkStation_1 (by decide) hs (fun c1 => ?_) (fun c1 => ?_)
  · skip
    exact v_throwSW C E (cls := "java/lang/IndexOutOfBoundsException") (tx := "no such station") (i := 18) (names := ["java/lang/RuntimeException", "java/lang/Exception"]) (by decide +kernel) thn (List.mem_cons_of_mem _ mw_575) (List.mem_cons_of_mem _ mw_576) rfl (fun w h => List.mem_cons_of_mem _ (thg_148 w h)) thb_148 (tho_c tho_148) dX7_checkStation_9 dX7_checkStation_12 dX7_checkStation_13 dX7_checkStation_16 dX7_checkStation_19 (Nat.le_of_ble_eq_true rfl) (Nat.le_of_ble_eq_true rfl) (Nat.le_of_ble_eq_true rfl) (Nat.le_of_ble_eq_true rfl) (Nat.le_of_ble_eq_true rfl) (Nat.le_of_ble_eq_true rfl) ⟨rfl, rfl, by omega⟩
  · skip
    refine v_iload_n C dX7_checkStation_4 rfl 0 rfl ?_
    refine v_iconst C dX7_checkStation_5 ?_
    refine v_icmp_le (tgt := 20) C dX7_checkStation_6 (by decide) hs (by decide) (fun c6 => ?_) (fun c6 => ?_)
    · skip
      refine v_xr C E (fun X1 C1 E1 => ?_)
      exact v_vret C1 E1 rfl dX7_checkStation_20 (by decide) (by decide) (⟨rfl, rfl, by omega⟩)
    · skip
      exact v_throwSW C E (cls := "java/lang/IndexOutOfBoundsException") (tx := "no such station") (i := 18) (names := ["java/lang/RuntimeException", "java/lang/Exception"]) (by decide +kernel) thn (List.mem_cons_of_mem _ mw_575) (List.mem_cons_of_mem _ mw_576) rfl (fun w h => List.mem_cons_of_mem _ (thg_148 w h)) thb_148 (tho_c tho_148) dX7_checkStation_9 dX7_checkStation_12 dX7_checkStation_13 dX7_checkStation_16 dX7_checkStation_19 (Nat.le_of_ble_eq_true rfl) (Nat.le_of_ble_eq_true rfl) (Nat.le_of_ble_eq_true rfl) (Nat.le_of_ble_eq_true rfl) (Nat.le_of_ble_eq_true rfl) (Nat.le_of_ble_eq_true rfl) ⟨rfl, rfl, by omega⟩
set_option maxHeartbeats 4000000 in
set_option maxRecDepth 100000 in
theorem c_X7_checkMany (G : GG) (l : Launch) (q m : Int) (hst : l.stackTraces = false) (hq : sm q) (hm : sm m) : CtX G l yX7_checkMany (Cond.code yX7_checkMany cX7_checkMany 2 none :: wsL_law) 6 90 1 6 [vI q, vI m] ([]) (fun r w => r = none ∧ w = [] ∧ (1 ≤ q ∧ q ≤ m)) (fun E w => E = "java/lang/IllegalArgumentException" ∧ w = [] ∧ ¬ (1 ≤ q ∧ q ≤ m)) := by
  refine CtX.of (own := RX7) (cc := cX7_checkMany) (maxL := 2) (ret := none) hst (by decide) rfl rfl (Nat.le_of_ble_eq_true rfl) (fun X C E M hG hl => ?_)
  subst hG hl
  refine v_iload_n C dX7_checkMany_0 rfl 0 rfl ?_
  refine v_iconst C dX7_checkMany_1 ?_
  refine v_icmp_lt (tgt := 10) C dX7_checkMany_2 (by decide) hq (by decide) (fun c2 => ?_) (fun c2 => ?_)
  · skip
    exact v_throwSW C E (cls := "java/lang/IllegalArgumentException") (tx := "no such number") (i := 19) (names := ["java/lang/RuntimeException", "java/lang/Exception"]) (by decide +kernel) thn (List.mem_cons_of_mem _ mw_100) (List.mem_cons_of_mem _ mw_101) rfl (fun w h => List.mem_cons_of_mem _ (thg_76 w h)) thb_76 (tho_c tho_76) dX7_checkMany_10 dX7_checkMany_13 dX7_checkMany_14 dX7_checkMany_17 dX7_checkMany_20 (Nat.le_of_ble_eq_true rfl) (Nat.le_of_ble_eq_true rfl) (Nat.le_of_ble_eq_true rfl) (Nat.le_of_ble_eq_true rfl) (Nat.le_of_ble_eq_true rfl) (Nat.le_of_ble_eq_true rfl) ⟨rfl, rfl, by omega⟩
  · skip
    refine v_iload_n C dX7_checkMany_5 rfl 0 rfl ?_
    refine v_iload_n C dX7_checkMany_6 rfl 1 rfl ?_
    refine v_icmp_le (tgt := 21) C dX7_checkMany_7 (by decide) hq hm (fun c7 => ?_) (fun c7 => ?_)
    · skip
      refine v_xr C E (fun X1 C1 E1 => ?_)
      exact v_vret C1 E1 rfl dX7_checkMany_21 (by decide) (by decide) (⟨rfl, rfl, by omega⟩)
    · skip
      exact v_throwSW C E (cls := "java/lang/IllegalArgumentException") (tx := "no such number") (i := 19) (names := ["java/lang/RuntimeException", "java/lang/Exception"]) (by decide +kernel) thn (List.mem_cons_of_mem _ mw_100) (List.mem_cons_of_mem _ mw_101) rfl (fun w h => List.mem_cons_of_mem _ (thg_76 w h)) thb_76 (tho_c tho_76) dX7_checkMany_10 dX7_checkMany_13 dX7_checkMany_14 dX7_checkMany_17 dX7_checkMany_20 (Nat.le_of_ble_eq_true rfl) (Nat.le_of_ble_eq_true rfl) (Nat.le_of_ble_eq_true rfl) (Nat.le_of_ble_eq_true rfl) (Nat.le_of_ble_eq_true rfl) (Nat.le_of_ble_eq_true rfl) ⟨rfl, rfl, by omega⟩
end C23
