section C16
set_option maxHeartbeats 4000000 in
set_option maxRecDepth 100000 in
theorem c_X2_lineAt (G : GG) (l : Launch) (h q : Nat) (lads : Nat → Nat → Nat) (c : Int) (i : Int) (hi : sm i) : Ct G l yX2_lineAt (Cond.code yX2_lineAt cX2_lineAt 2 (some (.object "TurnLine$Line")) :: wsL_law) 0 0 0 0 [.ref h, vI i] ([(h, .inr (2, [.ref q, vI c])), (q, .inl (G.2 4, 10, .inr (.inr (.inr (.inr (fQ (hqF lads)))))))]) (fun r w => r = some (if (0 ≤ i ∧ i < 10) then .ref (lads i.toNat 0) else .null) ∧ w = [(h, .inr (2, [.ref q, vI c])), (q, .inl (G.2 4, 10, .inr (.inr (.inr (.inr (fQ (hqF lads)))))))]) := by
  refine Ct.of (own := RX2) (cc := cX2_lineAt) (maxL := 2) (ret := (some (.object "TurnLine$Line"))) (by decide) rfl rfl (Nat.le_of_ble_eq_true rfl) (fun X C E M hG hl => ?_)
  subst hG hl
  refine v_iload_n C dX2_lineAt_0 rfl 1 rfl ?_
  refine v_if_lt (tgt := 22) C dX2_lineAt_1 (by decide) hi (fun c1 => ?_) (fun c1 => ?_)
  · skip
    refine v_null C dX2_lineAt_22 ?_
    refine v_aret C E rfl (Or.inl ⟨_, rfl⟩) (Or.inl rfl) dX2_lineAt_23 (by decide) (by decide) ⟨by rw [if_neg (show ¬ (0 ≤ i ∧ i < 10) by omega)], rfl⟩
  · skip
    refine v_iload_n C dX2_lineAt_4 rfl 1 rfl ?_
    refine v_aload_n C dX2_lineAt_5 rfl 0 rfl ?_
    refine v_get (v := .ref q) C inw_2 0 0 rfl (by decide) (List.mem_cons_of_mem _ mw_87) rfl rfl dX2_lineAt_6 ?_
    refine v_alen (z := 10) C 1 4 rfl rfl (show Int32.ofNat 10 = iI 10 by decide +kernel) dX2_lineAt_9 ?_
    refine v_icmp_ge (tgt := 22) C dX2_lineAt_10 (by decide) hi (by decide) (fun c10 => ?_) (fun c10 => ?_)
    · skip
      refine v_null C dX2_lineAt_22 ?_
      refine v_aret C E rfl (Or.inl ⟨_, rfl⟩) (Or.inl rfl) dX2_lineAt_23 (by decide) (by decide) ⟨by rw [if_neg (show ¬ (0 ≤ i ∧ i < 10) by omega)], rfl⟩
    · skip
      refine v_aload_n C dX2_lineAt_13 rfl 0 rfl ?_
      refine v_get (v := .ref q) C inw_2 0 0 rfl (by decide) (List.mem_cons_of_mem _ mw_87) rfl rfl dX2_lineAt_14 ?_
      refine v_iload_n C dX2_lineAt_17 rfl 1 rfl ?_
      refine v_aald C 1 rfl (by  omega) (by  omega) (by decide) dX2_lineAt_18 ?_
      show V X 0 0 19 [(0, .ref h), (1, vI i)] [.ref (lads (Int.toNat i) 0)] ([(h, .inr (2, [.ref q, vI c])), (q, .inl ((vG X).2 4, 10, .inr (.inr (.inr (.inr (fQ (hqF lads)))))))])
      refine v_goto (tgt := 23) C dX2_lineAt_19 (by decide) ?_
      refine v_aret C E rfl (Or.inl ⟨_, rfl⟩) (Or.inr ⟨_, rfl⟩) dX2_lineAt_23 (by decide) (by decide) ⟨by rw [if_pos (show (0 ≤ i ∧ i < 10) by omega)], rfl⟩
set_option maxHeartbeats 4000000 in
set_option maxRecDepth 100000 in
theorem c_X2_forgetOldest (G : GG) (l : Launch) (h q : Nat) (lads : Nat → Nat → Nat) (c : Int) (LF : Nat → Int → Int → Int) (LK : Nat → Int → Int → Int64)  : Ct G l yX2_forgetOldest (Cond.code yX2_forgetOldest cX2_forgetOldest 3 none :: wsL_law) 1 21 0 0 [.ref h] ([(h, .inr (2, [.ref q, vI c])), (q, .inl (G.2 4, 10, .inr (.inr (.inr (.inr (fQ (hqF lads)))))))] ++ (hiLs G lads LF LK 10)) (fun r w => r = none ∧ w = [(h, .inr (2, [.ref q, vI 9])), (q, .inl (G.2 4, 10, .inr (.inr (.inr (.inr (fQ (hqF (rotN lads))))))))] ++ hiLs G (rotN lads) (rotN LF) (rotN LK) 10) := by
  refine Ct.of (own := RX2) (cc := cX2_forgetOldest) (maxL := 3) (ret := none) (by decide) rfl rfl (Nat.le_of_ble_eq_true rfl) (fun X C E M hG hl => ?_)
  subst hG hl
  refine v_aload_n C dX2_forgetOldest_0 rfl 0 rfl ?_
  refine v_iconst C dX2_forgetOldest_1 ?_
  refine v_callV (na := 1) (wy := (Cond.code yX2_lineAt cX2_lineAt 2 (some (.object "TurnLine$Line")) :: wsL_law)) (wc := [(h, .inr (2, [.ref q, vI c])), (q, .inl ((vG X).2 4, 10, .inr (.inr (.inr (.inr (fQ (hqF lads)))))))]) (wr := (hiLs (vG X) lads LF LK 10)) C [vI 0] [] (c_X2_lineAt _ _ h q lads c 0 ⟨by omega, by omega⟩) rfl (gwV mw_179 mw_176 mw_177 mw_178 mw_29) rfl (by decide +kernel) 0 rfl rfl rfl rfl (Sb.bl [0, 1] 2 fl2 (fl_app fl1 fl1) rfl rfl (by decide +kernel)) rfl rfl dX2_forgetOldest_2 (fun r w1 hp2_1 => ?_)
  obtain ⟨rfl, rfl⟩ := hp2_1
  rw [if_pos (show (0 : Int) ≤ 0 ∧ (0 : Int) < 10 by omega)]
  refine V.sb (ws' := [(h, .inr (2, [.ref q, vI c])), (q, .inl ((vG X).2 4, 10, .inr (.inr (.inr (.inr (fQ (hqF lads)))))))] ++ (hiLs (vG X) lads LF LK 10)) (Sb.bl [0, 1] 2 (fl_app fl1 fl1) fl2 rfl rfl (by decide +kernel)) ?_
  show V X 0 0 5 [(0, .ref h)] [.ref (lads (Int.toNat 0) 0)] ([(h, .inr (2, [.ref q, vI c])), (q, .inl ((vG X).2 4, 10, .inr (.inr (.inr (.inr (fQ (hqF lads)))))))] ++ (hiLs (vG X) lads LF LK 10))
  show V X 0 0 5 [(0, .ref h)] [.ref (lads (Int.toNat 0) 0)] ([(h, .inr (2, [.ref q, vI c])), (q, .inl ((vG X).2 4, 10, .inr (.inr (.inr (.inr (fQ (hqF lads)))))))] ++ (hiLs (vG X) lads LF LK 10))
  refine v_astore_n C M dX2_forgetOldest_5 rfl (by decide) (L' := [(1, .ref (lads (Int.toNat 0) 0)), (0, .ref h)]) rfl ?_
  refine v_iconst C dX2_forgetOldest_6 ?_
  refine v_istore_n C M dX2_forgetOldest_7 rfl (by decide) (L' := [(2, vI 1), (1, .ref (lads (Int.toNat 0) 0)), (0, .ref h)]) rfl ?_
  refine v_iload_n C dX2_forgetOldest_8 rfl 0 rfl ?_
  refine v_aload_n C dX2_forgetOldest_9 rfl 2 rfl ?_
  refine v_get (v := .ref q) C inw_2 0 0 rfl (by decide) (List.mem_cons_of_mem _ mw_87) rfl rfl dX2_forgetOldest_10 ?_
  refine v_alen (z := 10) C 1 4 rfl rfl (show Int32.ofNat 10 = iI 10 by decide +kernel) dX2_forgetOldest_13 ?_
  refine v_icmp_ge (tgt := 37) C dX2_forgetOldest_14 (by decide) (by decide) (by decide) (fun c => absurd c (by decide)) (fun _ => ?_)
  refine v_aload_n C dX2_forgetOldest_17 rfl 2 rfl ?_
  refine v_get (v := .ref q) C inw_2 0 0 rfl (by decide) (List.mem_cons_of_mem _ mw_87) rfl rfl dX2_forgetOldest_18 ?_
  refine v_iload_n C dX2_forgetOldest_21 rfl 0 rfl ?_
  refine v_iconst C dX2_forgetOldest_22 ?_
  refine v_isub C dX2_forgetOldest_23 ?_
  show V X 0 0 24 [(2, vI 1), (1, .ref (lads (Int.toNat 0) 0)), (0, .ref h)] [vI 0, .ref q] ([(h, .inr (2, [.ref q, vI c])), (q, .inl ((vG X).2 4, 10, .inr (.inr (.inr (.inr (fQ (hqF lads)))))))] ++ (hiLs (vG X) lads LF LK 10))
  refine v_aload_n C dX2_forgetOldest_24 rfl 2 rfl ?_
  refine v_get (v := .ref q) C inw_2 0 0 rfl (by decide) (List.mem_cons_of_mem _ mw_87) rfl rfl dX2_forgetOldest_25 ?_
  refine v_iload_n C dX2_forgetOldest_28 rfl 0 rfl ?_
  refine v_aald C 1 rfl (by decide) (by decide) (by decide) dX2_forgetOldest_29 ?_
  show V X 0 0 30 [(2, vI 1), (1, .ref (lads (Int.toNat 0) 0)), (0, .ref h)] [.ref (lads (Int.toNat 1) 0), vI 0, .ref q] ([(h, .inr (2, [.ref q, vI c])), (q, .inl ((vG X).2 4, 10, .inr (.inr (.inr (.inr (fQ (hqF lads)))))))] ++ (hiLs (vG X) lads LF LK 10))
  refine v_aast C 1 11 rfl rfl (by decide) (by decide) (by decide) dX2_forgetOldest_30 (ws' := [(h, .inr (2, [.ref q, vI c])), (q, .inl ((vG X).2 4, 10, .inr (.inr (.inr (.inr (fQ (up (hqF lads) 0 (some (lads (Int.toNat 1) 0)))))))))] ++ (hiLs (vG X) lads LF LK 10)) rfl ?_
  refine v_iinc C M dX2_forgetOldest_31 0 rfl (by decide) (z' := 2) rfl (L' := [(2, vI 2), (1, .ref (lads (Int.toNat 0) 0)), (0, .ref h)]) rfl ?_
  refine v_goto (tgt := 8) C dX2_forgetOldest_34 (by decide) ?_
  refine v_iload_n C dX2_forgetOldest_8 rfl 0 rfl ?_
  refine v_aload_n C dX2_forgetOldest_9 rfl 2 rfl ?_
  refine v_get (v := .ref q) C inw_2 0 0 rfl (by decide) (List.mem_cons_of_mem _ mw_87) rfl rfl dX2_forgetOldest_10 ?_
  refine v_alen (z := 10) C 1 4 rfl rfl (show Int32.ofNat 10 = iI 10 by decide +kernel) dX2_forgetOldest_13 ?_
  refine v_icmp_ge (tgt := 37) C dX2_forgetOldest_14 (by decide) (by decide) (by decide) (fun c => absurd c (by decide)) (fun _ => ?_)
  refine v_aload_n C dX2_forgetOldest_17 rfl 2 rfl ?_
  refine v_get (v := .ref q) C inw_2 0 0 rfl (by decide) (List.mem_cons_of_mem _ mw_87) rfl rfl dX2_forgetOldest_18 ?_
  refine v_iload_n C dX2_forgetOldest_21 rfl 0 rfl ?_
  refine v_iconst C dX2_forgetOldest_22 ?_
  refine v_isub C dX2_forgetOldest_23 ?_
  show V X 0 0 24 [(2, vI 2), (1, .ref (lads (Int.toNat 0) 0)), (0, .ref h)] [vI 1, .ref q] ([(h, .inr (2, [.ref q, vI c])), (q, .inl ((vG X).2 4, 10, .inr (.inr (.inr (.inr (fQ (up (hqF lads) 0 (some (lads (Int.toNat 1) 0)))))))))] ++ (hiLs (vG X) lads LF LK 10))
  refine v_aload_n C dX2_forgetOldest_24 rfl 2 rfl ?_
  refine v_get (v := .ref q) C inw_2 0 0 rfl (by decide) (List.mem_cons_of_mem _ mw_87) rfl rfl dX2_forgetOldest_25 ?_
  refine v_iload_n C dX2_forgetOldest_28 rfl 0 rfl ?_
  refine v_aald C 1 rfl (by decide) (by decide) (by decide) dX2_forgetOldest_29 ?_
  show V X 0 0 30 [(2, vI 2), (1, .ref (lads (Int.toNat 0) 0)), (0, .ref h)] [.ref (lads (Int.toNat 2) 0), vI 1, .ref q] ([(h, .inr (2, [.ref q, vI c])), (q, .inl ((vG X).2 4, 10, .inr (.inr (.inr (.inr (fQ (up (hqF lads) 0 (some (lads (Int.toNat 1) 0)))))))))] ++ (hiLs (vG X) lads LF LK 10))
  refine v_aast C 1 20 rfl rfl (by decide) (by decide) (by decide) dX2_forgetOldest_30 (ws' := [(h, .inr (2, [.ref q, vI c])), (q, .inl ((vG X).2 4, 10, .inr (.inr (.inr (.inr (fQ (up (up (hqF lads) 0 (some (lads (Int.toNat 1) 0))) 1 (some (lads (Int.toNat 2) 0)))))))))] ++ (hiLs (vG X) lads LF LK 10)) rfl ?_
  refine v_iinc C M dX2_forgetOldest_31 0 rfl (by decide) (z' := 3) rfl (L' := [(2, vI 3), (1, .ref (lads (Int.toNat 0) 0)), (0, .ref h)]) rfl ?_
  refine v_goto (tgt := 8) C dX2_forgetOldest_34 (by decide) ?_
  refine v_iload_n C dX2_forgetOldest_8 rfl 0 rfl ?_
  refine v_aload_n C dX2_forgetOldest_9 rfl 2 rfl ?_
  refine v_get (v := .ref q) C inw_2 0 0 rfl (by decide) (List.mem_cons_of_mem _ mw_87) rfl rfl dX2_forgetOldest_10 ?_
  refine v_alen (z := 10) C 1 4 rfl rfl (show Int32.ofNat 10 = iI 10 by decide +kernel) dX2_forgetOldest_13 ?_
  refine v_icmp_ge (tgt := 37) C dX2_forgetOldest_14 (by decide) (by decide) (by decide) (fun c => absurd c (by decide)) (fun _ => ?_)
  refine v_aload_n C dX2_forgetOldest_17 rfl 2 rfl ?_
  refine v_get (v := .ref q) C inw_2 0 0 rfl (by decide) (List.mem_cons_of_mem _ mw_87) rfl rfl dX2_forgetOldest_18 ?_
  refine v_iload_n C dX2_forgetOldest_21 rfl 0 rfl ?_
  refine v_iconst C dX2_forgetOldest_22 ?_
  refine v_isub C dX2_forgetOldest_23 ?_
  show V X 0 0 24 [(2, vI 3), (1, .ref (lads (Int.toNat 0) 0)), (0, .ref h)] [vI 2, .ref q] ([(h, .inr (2, [.ref q, vI c])), (q, .inl ((vG X).2 4, 10, .inr (.inr (.inr (.inr (fQ (up (up (hqF lads) 0 (some (lads (Int.toNat 1) 0))) 1 (some (lads (Int.toNat 2) 0)))))))))] ++ (hiLs (vG X) lads LF LK 10))
  refine v_aload_n C dX2_forgetOldest_24 rfl 2 rfl ?_
  refine v_get (v := .ref q) C inw_2 0 0 rfl (by decide) (List.mem_cons_of_mem _ mw_87) rfl rfl dX2_forgetOldest_25 ?_
  refine v_iload_n C dX2_forgetOldest_28 rfl 0 rfl ?_
  refine v_aald C 1 rfl (by decide) (by decide) (by decide) dX2_forgetOldest_29 ?_
  show V X 0 0 30 [(2, vI 3), (1, .ref (lads (Int.toNat 0) 0)), (0, .ref h)] [.ref (lads (Int.toNat 3) 0), vI 2, .ref q] ([(h, .inr (2, [.ref q, vI c])), (q, .inl ((vG X).2 4, 10, .inr (.inr (.inr (.inr (fQ (up (up (hqF lads) 0 (some (lads (Int.toNat 1) 0))) 1 (some (lads (Int.toNat 2) 0)))))))))] ++ (hiLs (vG X) lads LF LK 10))
  refine v_aast C 1 29 rfl rfl (by decide) (by decide) (by decide) dX2_forgetOldest_30 (ws' := [(h, .inr (2, [.ref q, vI c])), (q, .inl ((vG X).2 4, 10, .inr (.inr (.inr (.inr (fQ (up (up (up (hqF lads) 0 (some (lads (Int.toNat 1) 0))) 1 (some (lads (Int.toNat 2) 0))) 2 (some (lads (Int.toNat 3) 0)))))))))] ++ (hiLs (vG X) lads LF LK 10)) rfl ?_
  refine v_iinc C M dX2_forgetOldest_31 0 rfl (by decide) (z' := 4) rfl (L' := [(2, vI 4), (1, .ref (lads (Int.toNat 0) 0)), (0, .ref h)]) rfl ?_
  refine v_goto (tgt := 8) C dX2_forgetOldest_34 (by decide) ?_
  refine v_iload_n C dX2_forgetOldest_8 rfl 0 rfl ?_
  refine v_aload_n C dX2_forgetOldest_9 rfl 2 rfl ?_
  refine v_get (v := .ref q) C inw_2 0 0 rfl (by decide) (List.mem_cons_of_mem _ mw_87) rfl rfl dX2_forgetOldest_10 ?_
  refine v_alen (z := 10) C 1 4 rfl rfl (show Int32.ofNat 10 = iI 10 by decide +kernel) dX2_forgetOldest_13 ?_
  refine v_icmp_ge (tgt := 37) C dX2_forgetOldest_14 (by decide) (by decide) (by decide) (fun c => absurd c (by decide)) (fun _ => ?_)
  refine v_aload_n C dX2_forgetOldest_17 rfl 2 rfl ?_
  refine v_get (v := .ref q) C inw_2 0 0 rfl (by decide) (List.mem_cons_of_mem _ mw_87) rfl rfl dX2_forgetOldest_18 ?_
  refine v_iload_n C dX2_forgetOldest_21 rfl 0 rfl ?_
  refine v_iconst C dX2_forgetOldest_22 ?_
  refine v_isub C dX2_forgetOldest_23 ?_
  show V X 0 0 24 [(2, vI 4), (1, .ref (lads (Int.toNat 0) 0)), (0, .ref h)] [vI 3, .ref q] ([(h, .inr (2, [.ref q, vI c])), (q, .inl ((vG X).2 4, 10, .inr (.inr (.inr (.inr (fQ (up (up (up (hqF lads) 0 (some (lads (Int.toNat 1) 0))) 1 (some (lads (Int.toNat 2) 0))) 2 (some (lads (Int.toNat 3) 0)))))))))] ++ (hiLs (vG X) lads LF LK 10))
  refine v_aload_n C dX2_forgetOldest_24 rfl 2 rfl ?_
  refine v_get (v := .ref q) C inw_2 0 0 rfl (by decide) (List.mem_cons_of_mem _ mw_87) rfl rfl dX2_forgetOldest_25 ?_
  refine v_iload_n C dX2_forgetOldest_28 rfl 0 rfl ?_
  refine v_aald C 1 rfl (by decide) (by decide) (by decide) dX2_forgetOldest_29 ?_
  show V X 0 0 30 [(2, vI 4), (1, .ref (lads (Int.toNat 0) 0)), (0, .ref h)] [.ref (lads (Int.toNat 4) 0), vI 3, .ref q] ([(h, .inr (2, [.ref q, vI c])), (q, .inl ((vG X).2 4, 10, .inr (.inr (.inr (.inr (fQ (up (up (up (hqF lads) 0 (some (lads (Int.toNat 1) 0))) 1 (some (lads (Int.toNat 2) 0))) 2 (some (lads (Int.toNat 3) 0)))))))))] ++ (hiLs (vG X) lads LF LK 10))
  refine v_aast C 1 38 rfl rfl (by decide) (by decide) (by decide) dX2_forgetOldest_30 (ws' := [(h, .inr (2, [.ref q, vI c])), (q, .inl ((vG X).2 4, 10, .inr (.inr (.inr (.inr (fQ (up (up (up (up (hqF lads) 0 (some (lads (Int.toNat 1) 0))) 1 (some (lads (Int.toNat 2) 0))) 2 (some (lads (Int.toNat 3) 0))) 3 (some (lads (Int.toNat 4) 0)))))))))] ++ (hiLs (vG X) lads LF LK 10)) rfl ?_
  refine v_iinc C M dX2_forgetOldest_31 0 rfl (by decide) (z' := 5) rfl (L' := [(2, vI 5), (1, .ref (lads (Int.toNat 0) 0)), (0, .ref h)]) rfl ?_
  refine v_goto (tgt := 8) C dX2_forgetOldest_34 (by decide) ?_
  refine v_iload_n C dX2_forgetOldest_8 rfl 0 rfl ?_
  refine v_aload_n C dX2_forgetOldest_9 rfl 2 rfl ?_
  refine v_get (v := .ref q) C inw_2 0 0 rfl (by decide) (List.mem_cons_of_mem _ mw_87) rfl rfl dX2_forgetOldest_10 ?_
  refine v_alen (z := 10) C 1 4 rfl rfl (show Int32.ofNat 10 = iI 10 by decide +kernel) dX2_forgetOldest_13 ?_
  refine v_icmp_ge (tgt := 37) C dX2_forgetOldest_14 (by decide) (by decide) (by decide) (fun c => absurd c (by decide)) (fun _ => ?_)
  refine v_aload_n C dX2_forgetOldest_17 rfl 2 rfl ?_
  refine v_get (v := .ref q) C inw_2 0 0 rfl (by decide) (List.mem_cons_of_mem _ mw_87) rfl rfl dX2_forgetOldest_18 ?_
  refine v_iload_n C dX2_forgetOldest_21 rfl 0 rfl ?_
  refine v_iconst C dX2_forgetOldest_22 ?_
  refine v_isub C dX2_forgetOldest_23 ?_
  show V X 0 0 24 [(2, vI 5), (1, .ref (lads (Int.toNat 0) 0)), (0, .ref h)] [vI 4, .ref q] ([(h, .inr (2, [.ref q, vI c])), (q, .inl ((vG X).2 4, 10, .inr (.inr (.inr (.inr (fQ (up (up (up (up (hqF lads) 0 (some (lads (Int.toNat 1) 0))) 1 (some (lads (Int.toNat 2) 0))) 2 (some (lads (Int.toNat 3) 0))) 3 (some (lads (Int.toNat 4) 0)))))))))] ++ (hiLs (vG X) lads LF LK 10))
  refine v_aload_n C dX2_forgetOldest_24 rfl 2 rfl ?_
  refine v_get (v := .ref q) C inw_2 0 0 rfl (by decide) (List.mem_cons_of_mem _ mw_87) rfl rfl dX2_forgetOldest_25 ?_
  refine v_iload_n C dX2_forgetOldest_28 rfl 0 rfl ?_
  refine v_aald C 1 rfl (by decide) (by decide) (by decide) dX2_forgetOldest_29 ?_
  show V X 0 0 30 [(2, vI 5), (1, .ref (lads (Int.toNat 0) 0)), (0, .ref h)] [.ref (lads (Int.toNat 5) 0), vI 4, .ref q] ([(h, .inr (2, [.ref q, vI c])), (q, .inl ((vG X).2 4, 10, .inr (.inr (.inr (.inr (fQ (up (up (up (up (hqF lads) 0 (some (lads (Int.toNat 1) 0))) 1 (some (lads (Int.toNat 2) 0))) 2 (some (lads (Int.toNat 3) 0))) 3 (some (lads (Int.toNat 4) 0)))))))))] ++ (hiLs (vG X) lads LF LK 10))
  refine v_aast C 1 47 rfl rfl (by decide) (by decide) (by decide) dX2_forgetOldest_30 (ws' := [(h, .inr (2, [.ref q, vI c])), (q, .inl ((vG X).2 4, 10, .inr (.inr (.inr (.inr (fQ (up (up (up (up (up (hqF lads) 0 (some (lads (Int.toNat 1) 0))) 1 (some (lads (Int.toNat 2) 0))) 2 (some (lads (Int.toNat 3) 0))) 3 (some (lads (Int.toNat 4) 0))) 4 (some (lads (Int.toNat 5) 0)))))))))] ++ (hiLs (vG X) lads LF LK 10)) rfl ?_
  refine v_iinc C M dX2_forgetOldest_31 0 rfl (by decide) (z' := 6) rfl (L' := [(2, vI 6), (1, .ref (lads (Int.toNat 0) 0)), (0, .ref h)]) rfl ?_
  refine v_goto (tgt := 8) C dX2_forgetOldest_34 (by decide) ?_
  refine v_iload_n C dX2_forgetOldest_8 rfl 0 rfl ?_
  refine v_aload_n C dX2_forgetOldest_9 rfl 2 rfl ?_
  refine v_get (v := .ref q) C inw_2 0 0 rfl (by decide) (List.mem_cons_of_mem _ mw_87) rfl rfl dX2_forgetOldest_10 ?_
  refine v_alen (z := 10) C 1 4 rfl rfl (show Int32.ofNat 10 = iI 10 by decide +kernel) dX2_forgetOldest_13 ?_
  refine v_icmp_ge (tgt := 37) C dX2_forgetOldest_14 (by decide) (by decide) (by decide) (fun c => absurd c (by decide)) (fun _ => ?_)
  refine v_aload_n C dX2_forgetOldest_17 rfl 2 rfl ?_
  refine v_get (v := .ref q) C inw_2 0 0 rfl (by decide) (List.mem_cons_of_mem _ mw_87) rfl rfl dX2_forgetOldest_18 ?_
  refine v_iload_n C dX2_forgetOldest_21 rfl 0 rfl ?_
  refine v_iconst C dX2_forgetOldest_22 ?_
  refine v_isub C dX2_forgetOldest_23 ?_
  show V X 0 0 24 [(2, vI 6), (1, .ref (lads (Int.toNat 0) 0)), (0, .ref h)] [vI 5, .ref q] ([(h, .inr (2, [.ref q, vI c])), (q, .inl ((vG X).2 4, 10, .inr (.inr (.inr (.inr (fQ (up (up (up (up (up (hqF lads) 0 (some (lads (Int.toNat 1) 0))) 1 (some (lads (Int.toNat 2) 0))) 2 (some (lads (Int.toNat 3) 0))) 3 (some (lads (Int.toNat 4) 0))) 4 (some (lads (Int.toNat 5) 0)))))))))] ++ (hiLs (vG X) lads LF LK 10))
  refine v_aload_n C dX2_forgetOldest_24 rfl 2 rfl ?_
  refine v_get (v := .ref q) C inw_2 0 0 rfl (by decide) (List.mem_cons_of_mem _ mw_87) rfl rfl dX2_forgetOldest_25 ?_
  refine v_iload_n C dX2_forgetOldest_28 rfl 0 rfl ?_
  refine v_aald C 1 rfl (by decide) (by decide) (by decide) dX2_forgetOldest_29 ?_
  show V X 0 0 30 [(2, vI 6), (1, .ref (lads (Int.toNat 0) 0)), (0, .ref h)] [.ref (lads (Int.toNat 6) 0), vI 5, .ref q] ([(h, .inr (2, [.ref q, vI c])), (q, .inl ((vG X).2 4, 10, .inr (.inr (.inr (.inr (fQ (up (up (up (up (up (hqF lads) 0 (some (lads (Int.toNat 1) 0))) 1 (some (lads (Int.toNat 2) 0))) 2 (some (lads (Int.toNat 3) 0))) 3 (some (lads (Int.toNat 4) 0))) 4 (some (lads (Int.toNat 5) 0)))))))))] ++ (hiLs (vG X) lads LF LK 10))
  refine v_aast C 1 56 rfl rfl (by decide) (by decide) (by decide) dX2_forgetOldest_30 (ws' := [(h, .inr (2, [.ref q, vI c])), (q, .inl ((vG X).2 4, 10, .inr (.inr (.inr (.inr (fQ (up (up (up (up (up (up (hqF lads) 0 (some (lads (Int.toNat 1) 0))) 1 (some (lads (Int.toNat 2) 0))) 2 (some (lads (Int.toNat 3) 0))) 3 (some (lads (Int.toNat 4) 0))) 4 (some (lads (Int.toNat 5) 0))) 5 (some (lads (Int.toNat 6) 0)))))))))] ++ (hiLs (vG X) lads LF LK 10)) rfl ?_
  refine v_iinc C M dX2_forgetOldest_31 0 rfl (by decide) (z' := 7) rfl (L' := [(2, vI 7), (1, .ref (lads (Int.toNat 0) 0)), (0, .ref h)]) rfl ?_
  refine v_goto (tgt := 8) C dX2_forgetOldest_34 (by decide) ?_
  refine v_iload_n C dX2_forgetOldest_8 rfl 0 rfl ?_
  refine v_aload_n C dX2_forgetOldest_9 rfl 2 rfl ?_
  refine v_get (v := .ref q) C inw_2 0 0 rfl (by decide) (List.mem_cons_of_mem _ mw_87) rfl rfl dX2_forgetOldest_10 ?_
  refine v_alen (z := 10) C 1 4 rfl rfl (show Int32.ofNat 10 = iI 10 by decide +kernel) dX2_forgetOldest_13 ?_
  refine v_icmp_ge (tgt := 37) C dX2_forgetOldest_14 (by decide) (by decide) (by decide) (fun c => absurd c (by decide)) (fun _ => ?_)
  refine v_aload_n C dX2_forgetOldest_17 rfl 2 rfl ?_
  refine v_get (v := .ref q) C inw_2 0 0 rfl (by decide) (List.mem_cons_of_mem _ mw_87) rfl rfl dX2_forgetOldest_18 ?_
  refine v_iload_n C dX2_forgetOldest_21 rfl 0 rfl ?_
  refine v_iconst C dX2_forgetOldest_22 ?_
  refine v_isub C dX2_forgetOldest_23 ?_
  show V X 0 0 24 [(2, vI 7), (1, .ref (lads (Int.toNat 0) 0)), (0, .ref h)] [vI 6, .ref q] ([(h, .inr (2, [.ref q, vI c])), (q, .inl ((vG X).2 4, 10, .inr (.inr (.inr (.inr (fQ (up (up (up (up (up (up (hqF lads) 0 (some (lads (Int.toNat 1) 0))) 1 (some (lads (Int.toNat 2) 0))) 2 (some (lads (Int.toNat 3) 0))) 3 (some (lads (Int.toNat 4) 0))) 4 (some (lads (Int.toNat 5) 0))) 5 (some (lads (Int.toNat 6) 0)))))))))] ++ (hiLs (vG X) lads LF LK 10))
  refine v_aload_n C dX2_forgetOldest_24 rfl 2 rfl ?_
  refine v_get (v := .ref q) C inw_2 0 0 rfl (by decide) (List.mem_cons_of_mem _ mw_87) rfl rfl dX2_forgetOldest_25 ?_
  refine v_iload_n C dX2_forgetOldest_28 rfl 0 rfl ?_
  refine v_aald C 1 rfl (by decide) (by decide) (by decide) dX2_forgetOldest_29 ?_
  show V X 0 0 30 [(2, vI 7), (1, .ref (lads (Int.toNat 0) 0)), (0, .ref h)] [.ref (lads (Int.toNat 7) 0), vI 6, .ref q] ([(h, .inr (2, [.ref q, vI c])), (q, .inl ((vG X).2 4, 10, .inr (.inr (.inr (.inr (fQ (up (up (up (up (up (up (hqF lads) 0 (some (lads (Int.toNat 1) 0))) 1 (some (lads (Int.toNat 2) 0))) 2 (some (lads (Int.toNat 3) 0))) 3 (some (lads (Int.toNat 4) 0))) 4 (some (lads (Int.toNat 5) 0))) 5 (some (lads (Int.toNat 6) 0)))))))))] ++ (hiLs (vG X) lads LF LK 10))
  refine v_aast C 1 65 rfl rfl (by decide) (by decide) (by decide) dX2_forgetOldest_30 (ws' := [(h, .inr (2, [.ref q, vI c])), (q, .inl ((vG X).2 4, 10, .inr (.inr (.inr (.inr (fQ (up (up (up (up (up (up (up (hqF lads) 0 (some (lads (Int.toNat 1) 0))) 1 (some (lads (Int.toNat 2) 0))) 2 (some (lads (Int.toNat 3) 0))) 3 (some (lads (Int.toNat 4) 0))) 4 (some (lads (Int.toNat 5) 0))) 5 (some (lads (Int.toNat 6) 0))) 6 (some (lads (Int.toNat 7) 0)))))))))] ++ (hiLs (vG X) lads LF LK 10)) rfl ?_
  refine v_iinc C M dX2_forgetOldest_31 0 rfl (by decide) (z' := 8) rfl (L' := [(2, vI 8), (1, .ref (lads (Int.toNat 0) 0)), (0, .ref h)]) rfl ?_
  refine v_goto (tgt := 8) C dX2_forgetOldest_34 (by decide) ?_
  refine v_iload_n C dX2_forgetOldest_8 rfl 0 rfl ?_
  refine v_aload_n C dX2_forgetOldest_9 rfl 2 rfl ?_
  refine v_get (v := .ref q) C inw_2 0 0 rfl (by decide) (List.mem_cons_of_mem _ mw_87) rfl rfl dX2_forgetOldest_10 ?_
  refine v_alen (z := 10) C 1 4 rfl rfl (show Int32.ofNat 10 = iI 10 by decide +kernel) dX2_forgetOldest_13 ?_
  refine v_icmp_ge (tgt := 37) C dX2_forgetOldest_14 (by decide) (by decide) (by decide) (fun c => absurd c (by decide)) (fun _ => ?_)
  refine v_aload_n C dX2_forgetOldest_17 rfl 2 rfl ?_
  refine v_get (v := .ref q) C inw_2 0 0 rfl (by decide) (List.mem_cons_of_mem _ mw_87) rfl rfl dX2_forgetOldest_18 ?_
  refine v_iload_n C dX2_forgetOldest_21 rfl 0 rfl ?_
  refine v_iconst C dX2_forgetOldest_22 ?_
  refine v_isub C dX2_forgetOldest_23 ?_
  show V X 0 0 24 [(2, vI 8), (1, .ref (lads (Int.toNat 0) 0)), (0, .ref h)] [vI 7, .ref q] ([(h, .inr (2, [.ref q, vI c])), (q, .inl ((vG X).2 4, 10, .inr (.inr (.inr (.inr (fQ (up (up (up (up (up (up (up (hqF lads) 0 (some (lads (Int.toNat 1) 0))) 1 (some (lads (Int.toNat 2) 0))) 2 (some (lads (Int.toNat 3) 0))) 3 (some (lads (Int.toNat 4) 0))) 4 (some (lads (Int.toNat 5) 0))) 5 (some (lads (Int.toNat 6) 0))) 6 (some (lads (Int.toNat 7) 0)))))))))] ++ (hiLs (vG X) lads LF LK 10))
  refine v_aload_n C dX2_forgetOldest_24 rfl 2 rfl ?_
  refine v_get (v := .ref q) C inw_2 0 0 rfl (by decide) (List.mem_cons_of_mem _ mw_87) rfl rfl dX2_forgetOldest_25 ?_
  refine v_iload_n C dX2_forgetOldest_28 rfl 0 rfl ?_
  refine v_aald C 1 rfl (by decide) (by decide) (by decide) dX2_forgetOldest_29 ?_
  show V X 0 0 30 [(2, vI 8), (1, .ref (lads (Int.toNat 0) 0)), (0, .ref h)] [.ref (lads (Int.toNat 8) 0), vI 7, .ref q] ([(h, .inr (2, [.ref q, vI c])), (q, .inl ((vG X).2 4, 10, .inr (.inr (.inr (.inr (fQ (up (up (up (up (up (up (up (hqF lads) 0 (some (lads (Int.toNat 1) 0))) 1 (some (lads (Int.toNat 2) 0))) 2 (some (lads (Int.toNat 3) 0))) 3 (some (lads (Int.toNat 4) 0))) 4 (some (lads (Int.toNat 5) 0))) 5 (some (lads (Int.toNat 6) 0))) 6 (some (lads (Int.toNat 7) 0)))))))))] ++ (hiLs (vG X) lads LF LK 10))
  refine v_aast C 1 74 rfl rfl (by decide) (by decide) (by decide) dX2_forgetOldest_30 (ws' := [(h, .inr (2, [.ref q, vI c])), (q, .inl ((vG X).2 4, 10, .inr (.inr (.inr (.inr (fQ (up (up (up (up (up (up (up (up (hqF lads) 0 (some (lads (Int.toNat 1) 0))) 1 (some (lads (Int.toNat 2) 0))) 2 (some (lads (Int.toNat 3) 0))) 3 (some (lads (Int.toNat 4) 0))) 4 (some (lads (Int.toNat 5) 0))) 5 (some (lads (Int.toNat 6) 0))) 6 (some (lads (Int.toNat 7) 0))) 7 (some (lads (Int.toNat 8) 0)))))))))] ++ (hiLs (vG X) lads LF LK 10)) rfl ?_
  refine v_iinc C M dX2_forgetOldest_31 0 rfl (by decide) (z' := 9) rfl (L' := [(2, vI 9), (1, .ref (lads (Int.toNat 0) 0)), (0, .ref h)]) rfl ?_
  refine v_goto (tgt := 8) C dX2_forgetOldest_34 (by decide) ?_
  refine v_iload_n C dX2_forgetOldest_8 rfl 0 rfl ?_
  refine v_aload_n C dX2_forgetOldest_9 rfl 2 rfl ?_
  refine v_get (v := .ref q) C inw_2 0 0 rfl (by decide) (List.mem_cons_of_mem _ mw_87) rfl rfl dX2_forgetOldest_10 ?_
  refine v_alen (z := 10) C 1 4 rfl rfl (show Int32.ofNat 10 = iI 10 by decide +kernel) dX2_forgetOldest_13 ?_
  refine v_icmp_ge (tgt := 37) C dX2_forgetOldest_14 (by decide) (by decide) (by decide) (fun c => absurd c (by decide)) (fun _ => ?_)
  refine v_aload_n C dX2_forgetOldest_17 rfl 2 rfl ?_
  refine v_get (v := .ref q) C inw_2 0 0 rfl (by decide) (List.mem_cons_of_mem _ mw_87) rfl rfl dX2_forgetOldest_18 ?_
  refine v_iload_n C dX2_forgetOldest_21 rfl 0 rfl ?_
  refine v_iconst C dX2_forgetOldest_22 ?_
  refine v_isub C dX2_forgetOldest_23 ?_
  show V X 0 0 24 [(2, vI 9), (1, .ref (lads (Int.toNat 0) 0)), (0, .ref h)] [vI 8, .ref q] ([(h, .inr (2, [.ref q, vI c])), (q, .inl ((vG X).2 4, 10, .inr (.inr (.inr (.inr (fQ (up (up (up (up (up (up (up (up (hqF lads) 0 (some (lads (Int.toNat 1) 0))) 1 (some (lads (Int.toNat 2) 0))) 2 (some (lads (Int.toNat 3) 0))) 3 (some (lads (Int.toNat 4) 0))) 4 (some (lads (Int.toNat 5) 0))) 5 (some (lads (Int.toNat 6) 0))) 6 (some (lads (Int.toNat 7) 0))) 7 (some (lads (Int.toNat 8) 0)))))))))] ++ (hiLs (vG X) lads LF LK 10))
  refine v_aload_n C dX2_forgetOldest_24 rfl 2 rfl ?_
  refine v_get (v := .ref q) C inw_2 0 0 rfl (by decide) (List.mem_cons_of_mem _ mw_87) rfl rfl dX2_forgetOldest_25 ?_
  refine v_iload_n C dX2_forgetOldest_28 rfl 0 rfl ?_
  refine v_aald C 1 rfl (by decide) (by decide) (by decide) dX2_forgetOldest_29 ?_
  show V X 0 0 30 [(2, vI 9), (1, .ref (lads (Int.toNat 0) 0)), (0, .ref h)] [.ref (lads (Int.toNat 9) 0), vI 8, .ref q] ([(h, .inr (2, [.ref q, vI c])), (q, .inl ((vG X).2 4, 10, .inr (.inr (.inr (.inr (fQ (up (up (up (up (up (up (up (up (hqF lads) 0 (some (lads (Int.toNat 1) 0))) 1 (some (lads (Int.toNat 2) 0))) 2 (some (lads (Int.toNat 3) 0))) 3 (some (lads (Int.toNat 4) 0))) 4 (some (lads (Int.toNat 5) 0))) 5 (some (lads (Int.toNat 6) 0))) 6 (some (lads (Int.toNat 7) 0))) 7 (some (lads (Int.toNat 8) 0)))))))))] ++ (hiLs (vG X) lads LF LK 10))
  refine v_aast C 1 83 rfl rfl (by decide) (by decide) (by decide) dX2_forgetOldest_30 (ws' := [(h, .inr (2, [.ref q, vI c])), (q, .inl ((vG X).2 4, 10, .inr (.inr (.inr (.inr (fQ (up (up (up (up (up (up (up (up (up (hqF lads) 0 (some (lads (Int.toNat 1) 0))) 1 (some (lads (Int.toNat 2) 0))) 2 (some (lads (Int.toNat 3) 0))) 3 (some (lads (Int.toNat 4) 0))) 4 (some (lads (Int.toNat 5) 0))) 5 (some (lads (Int.toNat 6) 0))) 6 (some (lads (Int.toNat 7) 0))) 7 (some (lads (Int.toNat 8) 0))) 8 (some (lads (Int.toNat 9) 0)))))))))] ++ (hiLs (vG X) lads LF LK 10)) rfl ?_
  refine v_iinc C M dX2_forgetOldest_31 0 rfl (by decide) (z' := 10) rfl (L' := [(2, vI 10), (1, .ref (lads (Int.toNat 0) 0)), (0, .ref h)]) rfl ?_
  refine v_goto (tgt := 8) C dX2_forgetOldest_34 (by decide) ?_
  refine v_iload_n C dX2_forgetOldest_8 rfl 0 rfl ?_
  refine v_aload_n C dX2_forgetOldest_9 rfl 2 rfl ?_
  refine v_get (v := .ref q) C inw_2 0 0 rfl (by decide) (List.mem_cons_of_mem _ mw_87) rfl rfl dX2_forgetOldest_10 ?_
  refine v_alen (z := 10) C 1 4 rfl rfl (show Int32.ofNat 10 = iI 10 by decide +kernel) dX2_forgetOldest_13 ?_
  refine v_icmp_ge (tgt := 37) C dX2_forgetOldest_14 (by decide) (by decide) (by decide) (fun _ => ?_) (fun c => absurd (by decide) c)
  refine v_aload_n C dX2_forgetOldest_37 rfl 2 rfl ?_
  refine v_aload_n C dX2_forgetOldest_38 rfl 2 rfl ?_
  refine v_get (v := .ref q) C inw_2 0 0 rfl (by decide) (List.mem_cons_of_mem _ mw_87) rfl rfl dX2_forgetOldest_39 ?_
  refine v_alen (z := 10) C 1 4 rfl rfl (show Int32.ofNat 10 = iI 10 by decide +kernel) dX2_forgetOldest_42 ?_
  refine v_iconst C dX2_forgetOldest_43 ?_
  refine v_isub C dX2_forgetOldest_44 ?_
  show V X 0 0 45 [(2, vI 10), (1, .ref (lads (Int.toNat 0) 0)), (0, .ref h)] [vI 9, .ref h] ([(h, .inr (2, [.ref q, vI c])), (q, .inl ((vG X).2 4, 10, .inr (.inr (.inr (.inr (fQ (up (up (up (up (up (up (up (up (up (hqF lads) 0 (some (lads (Int.toNat 1) 0))) 1 (some (lads (Int.toNat 2) 0))) 2 (some (lads (Int.toNat 3) 0))) 3 (some (lads (Int.toNat 4) 0))) 4 (some (lads (Int.toNat 5) 0))) 5 (some (lads (Int.toNat 6) 0))) 6 (some (lads (Int.toNat 7) 0))) 7 (some (lads (Int.toNat 8) 0))) 8 (some (lads (Int.toNat 9) 0)))))))))] ++ (hiLs (vG X) lads LF LK 10))
  refine v_put C inw_2 tyX2 tyX2_ok nmX2 0 1 rfl (by decide) (List.mem_cons_of_mem _ mw_175) rfl rfl rfl rfl (Nat.le_of_ble_eq_true rfl) dX2_forgetOldest_45 (ws' := [(h, .inr (2, [.ref q, vI 9])), (q, .inl ((vG X).2 4, 10, .inr (.inr (.inr (.inr (fQ (up (up (up (up (up (up (up (up (up (hqF lads) 0 (some (lads (Int.toNat 1) 0))) 1 (some (lads (Int.toNat 2) 0))) 2 (some (lads (Int.toNat 3) 0))) 3 (some (lads (Int.toNat 4) 0))) 4 (some (lads (Int.toNat 5) 0))) 5 (some (lads (Int.toNat 6) 0))) 6 (some (lads (Int.toNat 7) 0))) 7 (some (lads (Int.toNat 8) 0))) 8 (some (lads (Int.toNat 9) 0)))))))))] ++ (hiLs (vG X) lads LF LK 10)) rfl ?_
  refine v_aload_n C dX2_forgetOldest_48 rfl 2 rfl ?_
  refine v_get (v := vI 9) C inw_2 0 1 rfl (by decide) (List.mem_cons_of_mem _ mw_175) rfl rfl dX2_forgetOldest_49 ?_
  refine v_if_lt (tgt := 65) C dX2_forgetOldest_52 (by decide) (by decide) (fun c => absurd c (by decide)) (fun _ => ?_)
  refine v_aload_n C dX2_forgetOldest_55 rfl 2 rfl ?_
  refine v_get (v := .ref q) C inw_2 0 0 rfl (by decide) (List.mem_cons_of_mem _ mw_87) rfl rfl dX2_forgetOldest_56 ?_
  refine v_aload_n C dX2_forgetOldest_59 rfl 2 rfl ?_
  refine v_get (v := vI 9) C inw_2 0 1 rfl (by decide) (List.mem_cons_of_mem _ mw_175) rfl rfl dX2_forgetOldest_60 ?_
  refine v_aload_n C dX2_forgetOldest_63 rfl 1 rfl ?_
  refine v_aast C 1 2 rfl rfl (by decide) (by decide) (by decide) dX2_forgetOldest_64 (ws' := [(h, .inr (2, [.ref q, vI 9])), (q, .inl ((vG X).2 4, 10, .inr (.inr (.inr (.inr (fQ (up (up (up (up (up (up (up (up (up (up (hqF lads) 0 (some (lads (Int.toNat 1) 0))) 1 (some (lads (Int.toNat 2) 0))) 2 (some (lads (Int.toNat 3) 0))) 3 (some (lads (Int.toNat 4) 0))) 4 (some (lads (Int.toNat 5) 0))) 5 (some (lads (Int.toNat 6) 0))) 6 (some (lads (Int.toNat 7) 0))) 7 (some (lads (Int.toNat 8) 0))) 8 (some (lads (Int.toNat 9) 0))) 9 (some (lads (Int.toNat 0) 0)))))))))] ++ (hiLs (vG X) lads LF LK 10)) rfl ?_
  refine V.sb (Sb.cell (ws' := [(h, .inr (2, [.ref q, vI 9])), (q, .inl ((vG X).2 4, 10, .inr (.inr (.inr (.inr (fQ (hqF (rotN lads))))))))] ++ hiLs (vG X) lads LF LK 10) (e' := ((vG X).2 4, 10, .inr (.inr (.inr (.inr (fQ (hqF (rotN lads)))))))) 1 rfl (vcell_q (fun j h0 h1 => ?_)) rfl) ?_
  · rcases (show j = 0 ∨ j = 1 ∨ j = 2 ∨ j = 3 ∨ j = 4 ∨ j = 5 ∨ j = 6 ∨ j = 7 ∨ j = 8 ∨ j = 9 by omega) with rfl | rfl | rfl | rfl | rfl | rfl | rfl | rfl | rfl | rfl <;> rfl
  refine V.sb Sb.hrot ?_
  exact v_vret C E rfl dX2_forgetOldest_65 (by decide) (by decide) (⟨rfl, rfl⟩)
set_option maxHeartbeats 4000000 in
set_option maxRecDepth 100000 in
theorem c_X2_keep (G : GG) (l : Launch) (h q : Nat) (lads : Nat → Nat → Nat) (c : Int) (LF : Nat → Int → Int → Int) (LK : Nat → Int → Int → Int64) (ad : Nat → Nat) (F : Int → Int → Int) (K : Int → Int → Int64) (hc : 0 ≤ c ∧ c ≤ 10) (hz : F 0 6 = 0 ∨ F 0 6 = 1) : Ct G l yX2_keep (Cond.code yX2_keep cX2_keep 3 none :: wsL_law) 3 102 0 0 [.ref h, .ref (ad 0)] ([(h, .inr (2, [.ref q, vI c])), (q, .inl (G.2 4, 10, .inr (.inr (.inr (.inr (fQ (hqF lads)))))))] ++ (liW G ad F K) ++ (hiLs G lads LF LK 10)) (fun r w => r = none ∧ ∃ lads2 : Nat → Nat → Nat, w = [(h, .inr (2, [.ref q, vI (kpC c)])), (q, .inl (G.2 4, 10, .inr (.inr (.inr (.inr (fQ (hqF lads2)))))))] ++ liW G ad F K ++ hiLs G lads2 (kpS c LF F) (kpS c LK K) 10) := by
  refine Ct.of (own := RX2) (cc := cX2_keep) (maxL := 3) (ret := none) (by decide) rfl rfl (Nat.le_of_ble_eq_true rfl) (fun X C E M hG hl => ?_)
  subst hG hl
  refine v_aload_n C dX2_keep_0 rfl 0 rfl ?_
  refine v_get (v := vI c) C inw_2 0 1 rfl (by decide) (List.mem_cons_of_mem _ mw_175) rfl rfl dX2_keep_1 ?_
  refine v_aload_n C dX2_keep_4 rfl 0 rfl ?_
  refine v_get (v := .ref q) C inw_2 0 0 rfl (by decide) (List.mem_cons_of_mem _ mw_87) rfl rfl dX2_keep_5 ?_
  refine v_alen (z := 10) C 1 4 rfl rfl (show Int32.ofNat 10 = iI 10 by decide +kernel) dX2_keep_8 ?_
  refine v_icmp_lt (tgt := 16) C dX2_keep_9 (by decide) ⟨by omega, by omega⟩ (by decide) (fun c9 => ?_) (fun c9 => ?_)
  · skip
    refine v_aload_n C dX2_keep_16 rfl 0 rfl ?_
    refine v_aload_n C dX2_keep_17 rfl 0 rfl ?_
    refine v_get (v := vI c) C inw_2 0 1 rfl (by decide) (List.mem_cons_of_mem _ mw_175) rfl rfl dX2_keep_18 ?_
    refine v_callV (na := 1) (wy := (Cond.code yX2_lineAt cX2_lineAt 2 (some (.object "TurnLine$Line")) :: wsL_law)) (wc := [(h, .inr (2, [.ref q, vI c])), (q, .inl ((vG X).2 4, 10, .inr (.inr (.inr (.inr (fQ (hqF lads)))))))]) (wr := (liW (vG X) ad F K) ++ (hiLs (vG X) lads LF LK 10)) C [vI c] [] (c_X2_lineAt _ _ h q lads c c ⟨by omega, by omega⟩) rfl (gwV mw_179 mw_176 mw_177 mw_178 mw_29) rfl (by decide +kernel) 0 rfl rfl rfl rfl (Sb.bl [0, 1, 2] 3 fl3 (fl_app fl1 fl2) rfl rfl (by decide +kernel)) rfl rfl dX2_keep_21 (fun r w1 hp21_1 => ?_)
    obtain ⟨rfl, rfl⟩ := hp21_1
    rw [if_pos (show (0 : Int) ≤ c ∧ (c : Int) < 10 by omega)]
    refine V.sb (ws' := [(h, .inr (2, [.ref q, vI c])), (q, .inl ((vG X).2 4, 10, .inr (.inr (.inr (.inr (fQ (hqF lads)))))))] ++ (liW (vG X) ad F K) ++ (hiLs (vG X) lads LF LK 10)) (Sb.bl [0, 1, 2] 3 (fl_app fl1 fl2) fl3 rfl rfl (by decide +kernel)) ?_
    show V X 0 0 24 [(0, .ref h), (1, .ref (ad 0))] [.ref (lads (c).toNat 0)] ([(h, .inr (2, [.ref q, vI c])), (q, .inl ((vG X).2 4, 10, .inr (.inr (.inr (.inr (fQ (hqF lads)))))))] ++ (liW (vG X) ad F K) ++ (hiLs (vG X) lads LF LK 10))
    show V X 0 0 24 [(0, .ref h), (1, .ref (ad 0))] [.ref (lads (c).toNat 0)] ([(h, .inr (2, [.ref q, vI c])), (q, .inl ((vG X).2 4, 10, .inr (.inr (.inr (.inr (fQ (hqF lads)))))))] ++ (liW (vG X) ad F K) ++ (hiLs (vG X) lads LF LK 10))
    refine v_astore_n C M dX2_keep_24 rfl (by decide) (L' := [(2, .ref (lads (c).toNat 0)), (0, .ref h), (1, .ref (ad 0))]) rfl ?_
    refine v_aload_n C dX2_keep_25 rfl 0 rfl ?_
    refine v_ifnull C dX2_keep_26 ?_
    refine v_aload_n C dX2_keep_29 rfl 0 rfl ?_
    refine V.sb (Sb.hi c.toNat (by omega)) ?_
    show V X 0 0 30 [(2, .ref (lads (c).toNat 0)), (0, .ref h), (1, .ref (ad 0))] [.ref (lads (c).toNat 0)] ([(h, .inr (2, [.ref q, vI c])), (q, .inl ((vG X).2 4, 10, .inr (.inr (.inr (.inr (fQ (hqF lads)))))))] ++ (liW (vG X) ad F K) ++ (liW (vG X) (lads c.toNat) (LF c.toNat) (LK c.toNat)) ++ (hiRs (vG X) lads LF LK c.toNat 10))
    show V X 0 0 30 [(2, .ref ((lads c.toNat) 0)), (0, .ref h), (1, .ref (ad 0))] [.ref ((lads c.toNat) 0)] ([(h, .inr (2, [.ref q, vI c])), (q, .inl ((vG X).2 4, 10, .inr (.inr (.inr (.inr (fQ (hqF lads)))))))] ++ (liW (vG X) ad F K) ++ (liW (vG X) (lads c.toNat) (LF c.toNat) (LK c.toNat)) ++ (hiRs (vG X) lads LF LK c.toNat 10))
    refine v_aload_n C dX2_keep_30 rfl 2 rfl ?_
    refine v_callV (na := 1) (wy := (Cond.code yX3_copyFrom cX3_copyFrom 2 none :: wsL_law)) (wc := (liW (vG X) (lads c.toNat) (LF c.toNat) (LK c.toNat)) ++ (liW (vG X) ad F K)) (wr := [(h, .inr (2, [.ref q, vI c])), (q, .inl ((vG X).2 4, 10, .inr (.inr (.inr (.inr (fQ (hqF lads)))))))] ++ (hiRs (vG X) lads LF LK c.toNat 10)) C [.ref (ad 0)] [] (c_X3_copyFrom _ _ (lads c.toNat) (LF c.toNat) (LK c.toNat) ad F K hz) rfl (gwV mw_183 mw_180 mw_181 mw_182 mw_15) rfl (by decide +kernel) 0 rfl rfl rfl rfl (Sb.bl [2, 1, 0, 3] 4 fl4 (fl_app fl2 fl2) rfl rfl (by decide +kernel)) rfl rfl dX2_keep_31 (fun r w1 hp31_2 => ?_)
    obtain ⟨rfl, rfl⟩ := hp31_2
    refine V.sb (ws' := [(h, .inr (2, [.ref q, vI c])), (q, .inl ((vG X).2 4, 10, .inr (.inr (.inr (.inr (fQ (hqF lads)))))))] ++ (liW (vG X) ad F K) ++ (liW (vG X) (lads c.toNat) F K) ++ (hiRs (vG X) lads LF LK c.toNat 10)) (Sb.bl [2, 1, 0, 3] 4 (fl_app fl2 fl2) fl4 rfl rfl (by decide +kernel)) ?_
    show V X 0 0 34 [(2, .ref ((lads c.toNat) 0)), (0, .ref h), (1, .ref (ad 0))] [] ([(h, .inr (2, [.ref q, vI c])), (q, .inl ((vG X).2 4, 10, .inr (.inr (.inr (.inr (fQ (hqF lads)))))))] ++ (liW (vG X) ad F K) ++ (liW (vG X) (lads c.toNat) F K) ++ (hiRs (vG X) lads LF LK c.toNat 10))
    show V X 0 0 34 [(2, .ref ((lads c.toNat) 0)), (0, .ref h), (1, .ref (ad 0))] [] ([(h, .inr (2, [.ref q, vI c])), (q, .inl ((vG X).2 4, 10, .inr (.inr (.inr (.inr (fQ (hqF lads)))))))] ++ (liW (vG X) ad F K) ++ (liW (vG X) (lads c.toNat) F K) ++ (hiRs (vG X) lads LF LK c.toNat 10))
    refine v_aload_n C dX2_keep_34 rfl 1 rfl ?_
    refine v_dup C dX2_keep_35 rfl ?_
    refine v_get (v := vI c) C inw_2 0 1 rfl (by decide) (List.mem_cons_of_mem _ mw_175) rfl rfl dX2_keep_36 ?_
    refine v_iconst C dX2_keep_39 ?_
    refine v_iadd C dX2_keep_40 ?_
    refine v_put C inw_2 tyX2 tyX2_ok nmX2 0 1 rfl (by decide) (List.mem_cons_of_mem _ mw_175) rfl rfl rfl rfl (Nat.le_of_ble_eq_true rfl) dX2_keep_41 (ws' := [(h, .inr (2, [.ref q, vI (c + 1)])), (q, .inl ((vG X).2 4, 10, .inr (.inr (.inr (.inr (fQ (hqF lads)))))))] ++ (liW (vG X) ad F K) ++ (liW (vG X) (lads c.toNat) F K) ++ (hiRs (vG X) lads LF LK c.toNat 10)) rfl ?_
    refine V.sb (Sb.hj (by omega)) ?_
    show V X 0 0 44 [(2, .ref ((lads c.toNat) 0)), (0, .ref h), (1, .ref (ad 0))] [] ([(h, .inr (2, [.ref q, vI (c + 1)])), (q, .inl ((vG X).2 4, 10, .inr (.inr (.inr (.inr (fQ (hqF lads)))))))] ++ (liW (vG X) ad F K) ++ (hiLs (vG X) lads (upN LF c.toNat F) (upN LK c.toNat K) 10))
    exact v_vret C E rfl dX2_keep_44 (by decide) (by decide) (⟨rfl, lads, by rw [show kpC c = c + 1 from if_pos (show c < 10 by omega), show kpS c LF F = (upN LF c.toNat F) from if_pos (show c < 10 by omega), show kpS c LK K = (upN LK c.toNat K) from if_pos (show c < 10 by omega)]⟩)
  · skip
    refine v_aload_n C dX2_keep_12 rfl 0 rfl ?_
    refine v_callV (na := 0) (wy := (Cond.code yX2_forgetOldest cX2_forgetOldest 3 none :: wsL_law)) (wc := [(h, .inr (2, [.ref q, vI c])), (q, .inl ((vG X).2 4, 10, .inr (.inr (.inr (.inr (fQ (hqF lads)))))))] ++ (hiLs (vG X) lads LF LK 10)) (wr := (liW (vG X) ad F K)) C [] [] (c_X2_forgetOldest _ _ h q lads c LF LK) rfl (gwV mw_611 mw_608 mw_609 mw_610 mw_29) rfl (by decide +kernel) 0 rfl rfl rfl rfl (Sb.bl [0, 2, 1] 3 fl3 (fl_app fl2 fl1) rfl rfl (by decide +kernel)) rfl rfl dX2_keep_13 (fun r w1 hp13_3 => ?_)
    obtain ⟨rfl, rfl⟩ := hp13_3
    refine V.sb (ws' := [(h, .inr (2, [.ref q, vI 9])), (q, .inl ((vG X).2 4, 10, .inr (.inr (.inr (.inr (fQ (hqF (rotN lads))))))))] ++ (liW (vG X) ad F K) ++ (hiLs (vG X) (rotN lads) (rotN LF) (rotN LK) 10)) (Sb.bl [0, 2, 1] 3 (fl_app fl2 fl1) fl3 rfl rfl (by decide +kernel)) ?_
    show V X 0 0 16 [(0, .ref h), (1, .ref (ad 0))] [] ([(h, .inr (2, [.ref q, vI 9])), (q, .inl ((vG X).2 4, 10, .inr (.inr (.inr (.inr (fQ (hqF (rotN lads))))))))] ++ (liW (vG X) ad F K) ++ (hiLs (vG X) (rotN lads) (rotN LF) (rotN LK) 10))
    show V X 0 0 16 [(0, .ref h), (1, .ref (ad 0))] [] ([(h, .inr (2, [.ref q, vI 9])), (q, .inl ((vG X).2 4, 10, .inr (.inr (.inr (.inr (fQ (hqF (rotN lads))))))))] ++ (liW (vG X) ad F K) ++ (hiLs (vG X) (rotN lads) (rotN LF) (rotN LK) 10))
    refine v_aload_n C dX2_keep_16 rfl 0 rfl ?_
    refine v_aload_n C dX2_keep_17 rfl 0 rfl ?_
    refine v_get (v := vI 9) C inw_2 0 1 rfl (by decide) (List.mem_cons_of_mem _ mw_175) rfl rfl dX2_keep_18 ?_
    refine v_callV (na := 1) (wy := (Cond.code yX2_lineAt cX2_lineAt 2 (some (.object "TurnLine$Line")) :: wsL_law)) (wc := [(h, .inr (2, [.ref q, vI 9])), (q, .inl ((vG X).2 4, 10, .inr (.inr (.inr (.inr (fQ (hqF (rotN lads))))))))]) (wr := (liW (vG X) ad F K) ++ (hiLs (vG X) (rotN lads) (rotN LF) (rotN LK) 10)) C [vI 9] [] (c_X2_lineAt _ _ h q (rotN lads) 9 9 ⟨by omega, by omega⟩) rfl (gwV mw_179 mw_176 mw_177 mw_178 mw_29) rfl (by decide +kernel) 0 rfl rfl rfl rfl (Sb.bl [0, 1, 2] 3 fl3 (fl_app fl1 fl2) rfl rfl (by decide +kernel)) rfl rfl dX2_keep_21 (fun r w1 hp21_4 => ?_)
    obtain ⟨rfl, rfl⟩ := hp21_4
    rw [if_pos (show (0 : Int) ≤ 9 ∧ (9 : Int) < 10 by omega)]
    refine V.sb (ws' := [(h, .inr (2, [.ref q, vI 9])), (q, .inl ((vG X).2 4, 10, .inr (.inr (.inr (.inr (fQ (hqF (rotN lads))))))))] ++ (liW (vG X) ad F K) ++ (hiLs (vG X) (rotN lads) (rotN LF) (rotN LK) 10)) (Sb.bl [0, 1, 2] 3 (fl_app fl1 fl2) fl3 rfl rfl (by decide +kernel)) ?_
    show V X 0 0 24 [(0, .ref h), (1, .ref (ad 0))] [.ref ((rotN lads) 9 0)] ([(h, .inr (2, [.ref q, vI 9])), (q, .inl ((vG X).2 4, 10, .inr (.inr (.inr (.inr (fQ (hqF (rotN lads))))))))] ++ (liW (vG X) ad F K) ++ (hiLs (vG X) (rotN lads) (rotN LF) (rotN LK) 10))
    show V X 0 0 24 [(0, .ref h), (1, .ref (ad 0))] [.ref ((rotN lads) 9 0)] ([(h, .inr (2, [.ref q, vI 9])), (q, .inl ((vG X).2 4, 10, .inr (.inr (.inr (.inr (fQ (hqF (rotN lads))))))))] ++ (liW (vG X) ad F K) ++ (hiLs (vG X) (rotN lads) (rotN LF) (rotN LK) 10))
    refine v_astore_n C M dX2_keep_24 rfl (by decide) (L' := [(2, .ref ((rotN lads) 9 0)), (0, .ref h), (1, .ref (ad 0))]) rfl ?_
    refine v_aload_n C dX2_keep_25 rfl 0 rfl ?_
    refine v_ifnull C dX2_keep_26 ?_
    refine v_aload_n C dX2_keep_29 rfl 0 rfl ?_
    refine V.sb (Sb.hi 9 (by omega)) ?_
    show V X 0 0 30 [(2, .ref ((rotN lads) 9 0)), (0, .ref h), (1, .ref (ad 0))] [.ref ((rotN lads) 9 0)] ([(h, .inr (2, [.ref q, vI 9])), (q, .inl ((vG X).2 4, 10, .inr (.inr (.inr (.inr (fQ (hqF (rotN lads))))))))] ++ (liW (vG X) ad F K) ++ (liW (vG X) ((rotN lads) 9) ((rotN LF) 9) ((rotN LK) 9)) ++ (hiRs (vG X) (rotN lads) (rotN LF) (rotN LK) 9 10))
    show V X 0 0 30 [(2, .ref (((rotN lads) 9) 0)), (0, .ref h), (1, .ref (ad 0))] [.ref (((rotN lads) 9) 0)] ([(h, .inr (2, [.ref q, vI 9])), (q, .inl ((vG X).2 4, 10, .inr (.inr (.inr (.inr (fQ (hqF (rotN lads))))))))] ++ (liW (vG X) ad F K) ++ (liW (vG X) ((rotN lads) 9) ((rotN LF) 9) ((rotN LK) 9)) ++ (hiRs (vG X) (rotN lads) (rotN LF) (rotN LK) 9 10))
    refine v_aload_n C dX2_keep_30 rfl 2 rfl ?_
    refine v_callV (na := 1) (wy := (Cond.code yX3_copyFrom cX3_copyFrom 2 none :: wsL_law)) (wc := (liW (vG X) ((rotN lads) 9) ((rotN LF) 9) ((rotN LK) 9)) ++ (liW (vG X) ad F K)) (wr := [(h, .inr (2, [.ref q, vI 9])), (q, .inl ((vG X).2 4, 10, .inr (.inr (.inr (.inr (fQ (hqF (rotN lads))))))))] ++ (hiRs (vG X) (rotN lads) (rotN LF) (rotN LK) 9 10)) C [.ref (ad 0)] [] (c_X3_copyFrom _ _ ((rotN lads) 9) ((rotN LF) 9) ((rotN LK) 9) ad F K hz) rfl (gwV mw_183 mw_180 mw_181 mw_182 mw_15) rfl (by decide +kernel) 0 rfl rfl rfl rfl (Sb.bl [2, 1, 0, 3] 4 fl4 (fl_app fl2 fl2) rfl rfl (by decide +kernel)) rfl rfl dX2_keep_31 (fun r w1 hp31_5 => ?_)
    obtain ⟨rfl, rfl⟩ := hp31_5
    refine V.sb (ws' := [(h, .inr (2, [.ref q, vI 9])), (q, .inl ((vG X).2 4, 10, .inr (.inr (.inr (.inr (fQ (hqF (rotN lads))))))))] ++ (liW (vG X) ad F K) ++ (liW (vG X) ((rotN lads) 9) F K) ++ (hiRs (vG X) (rotN lads) (rotN LF) (rotN LK) 9 10)) (Sb.bl [2, 1, 0, 3] 4 (fl_app fl2 fl2) fl4 rfl rfl (by decide +kernel)) ?_
    show V X 0 0 34 [(2, .ref (((rotN lads) 9) 0)), (0, .ref h), (1, .ref (ad 0))] [] ([(h, .inr (2, [.ref q, vI 9])), (q, .inl ((vG X).2 4, 10, .inr (.inr (.inr (.inr (fQ (hqF (rotN lads))))))))] ++ (liW (vG X) ad F K) ++ (liW (vG X) ((rotN lads) 9) F K) ++ (hiRs (vG X) (rotN lads) (rotN LF) (rotN LK) 9 10))
    show V X 0 0 34 [(2, .ref (((rotN lads) 9) 0)), (0, .ref h), (1, .ref (ad 0))] [] ([(h, .inr (2, [.ref q, vI 9])), (q, .inl ((vG X).2 4, 10, .inr (.inr (.inr (.inr (fQ (hqF (rotN lads))))))))] ++ (liW (vG X) ad F K) ++ (liW (vG X) ((rotN lads) 9) F K) ++ (hiRs (vG X) (rotN lads) (rotN LF) (rotN LK) 9 10))
    refine v_aload_n C dX2_keep_34 rfl 1 rfl ?_
    refine v_dup C dX2_keep_35 rfl ?_
    refine v_get (v := vI 9) C inw_2 0 1 rfl (by decide) (List.mem_cons_of_mem _ mw_175) rfl rfl dX2_keep_36 ?_
    refine v_iconst C dX2_keep_39 ?_
    refine v_iadd C dX2_keep_40 ?_
    show V X 0 0 41 [(2, .ref (((rotN lads) 9) 0)), (0, .ref h), (1, .ref (ad 0))] [vI 10, .ref h] ([(h, .inr (2, [.ref q, vI 9])), (q, .inl ((vG X).2 4, 10, .inr (.inr (.inr (.inr (fQ (hqF (rotN lads))))))))] ++ (liW (vG X) ad F K) ++ (liW (vG X) ((rotN lads) 9) F K) ++ (hiRs (vG X) (rotN lads) (rotN LF) (rotN LK) 9 10))
    refine v_put C inw_2 tyX2 tyX2_ok nmX2 0 1 rfl (by decide) (List.mem_cons_of_mem _ mw_175) rfl rfl rfl rfl (Nat.le_of_ble_eq_true rfl) dX2_keep_41 (ws' := [(h, .inr (2, [.ref q, vI 10])), (q, .inl ((vG X).2 4, 10, .inr (.inr (.inr (.inr (fQ (hqF (rotN lads))))))))] ++ (liW (vG X) ad F K) ++ (liW (vG X) ((rotN lads) 9) F K) ++ (hiRs (vG X) (rotN lads) (rotN LF) (rotN LK) 9 10)) rfl ?_
    refine V.sb (Sb.hj (by omega)) ?_
    show V X 0 0 44 [(2, .ref (((rotN lads) 9) 0)), (0, .ref h), (1, .ref (ad 0))] [] ([(h, .inr (2, [.ref q, vI 10])), (q, .inl ((vG X).2 4, 10, .inr (.inr (.inr (.inr (fQ (hqF (rotN lads))))))))] ++ (liW (vG X) ad F K) ++ (hiLs (vG X) (rotN lads) (upN (rotN LF) 9 F) (upN (rotN LK) 9 K) 10))
    exact v_vret C E rfl dX2_keep_44 (by decide) (by decide) (⟨rfl, (rotN lads), by rw [show kpC c = 10 from if_neg (show ¬ c < 10 by omega), show kpS c LF F = (upN (rotN LF) 9 F) from if_neg (show ¬ c < 10 by omega), show kpS c LK K = (upN (rotN LK) 9 K) from if_neg (show ¬ c < 10 by omega)]⟩)
set_option maxHeartbeats 4000000 in
set_option maxRecDepth 100000 in
theorem c_X2_takeBack (G : GG) (l : Launch) (h q : Nat) (lads : Nat → Nat → Nat) (c : Int) (LF : Nat → Int → Int → Int) (LK : Nat → Int → Int → Int64) (ad : Nat → Nat) (F : Int → Int → Int) (K : Int → Int → Int64) (hc : 0 ≤ c ∧ c ≤ 10) (hz : ∀ n : Nat, LF n 0 6 = 0 ∨ LF n 0 6 = 1) : Ct G l yX2_takeBack (Cond.code yX2_takeBack cX2_takeBack 3 (some .boolean) :: wsL_law) 3 102 0 0 [.ref h, .ref (ad 0)] ([(h, .inr (2, [.ref q, vI c])), (q, .inl (G.2 4, 10, .inr (.inr (.inr (.inr (fQ (hqF lads)))))))] ++ (liW G ad F K) ++ (hiLs G lads LF LK 10)) (fun r w => (c = 0 ∧ r = some (vI 0) ∧ w = [(h, .inr (2, [.ref q, vI c])), (q, .inl (G.2 4, 10, .inr (.inr (.inr (.inr (fQ (hqF lads)))))))] ++ liW G ad F K ++ hiLs G lads LF LK 10) ∨ (1 ≤ c ∧ r = some (vI 1) ∧ w = [(h, .inr (2, [.ref q, vI (c - 1)])), (q, .inl (G.2 4, 10, .inr (.inr (.inr (.inr (fQ (hqF lads)))))))] ++ liW G ad (LF (c - 1).toNat) (LK (c - 1).toNat) ++ hiLs G lads LF LK 10)) := by
  refine Ct.of (own := RX2) (cc := cX2_takeBack) (maxL := 3) (ret := (some .boolean)) (by decide) rfl rfl (Nat.le_of_ble_eq_true rfl) (fun X C E M hG hl => ?_)
  subst hG hl
  by_cases h0 : c = 0
  · skip
    refine v_aload_n C dX2_takeBack_0 rfl 0 rfl ?_
    refine v_aload_n C dX2_takeBack_1 rfl 0 rfl ?_
    refine v_get (v := vI c) C inw_2 0 1 rfl (by decide) (List.mem_cons_of_mem _ mw_175) rfl rfl dX2_takeBack_2 ?_
    refine v_iconst C dX2_takeBack_5 ?_
    refine v_isub C dX2_takeBack_6 ?_
    refine v_callV (na := 1) (wy := (Cond.code yX2_lineAt cX2_lineAt 2 (some (.object "TurnLine$Line")) :: wsL_law)) (wc := [(h, .inr (2, [.ref q, vI c])), (q, .inl ((vG X).2 4, 10, .inr (.inr (.inr (.inr (fQ (hqF lads)))))))]) (wr := (liW (vG X) ad F K) ++ (hiLs (vG X) lads LF LK 10)) C [vI (c - 1)] [] (c_X2_lineAt _ _ h q lads c (c - 1) ⟨by omega, by omega⟩) rfl (gwV mw_179 mw_176 mw_177 mw_178 mw_29) rfl (by decide +kernel) 0 rfl rfl rfl rfl (Sb.bl [0, 1, 2] 3 fl3 (fl_app fl1 fl2) rfl rfl (by decide +kernel)) rfl rfl dX2_takeBack_7 (fun r w1 hp7_1 => ?_)
    obtain ⟨rfl, rfl⟩ := hp7_1
    rw [if_neg (show ¬ ((0 : Int) ≤ (c - 1) ∧ ((c - 1) : Int) < 10) by omega)]
    refine V.sb (ws' := [(h, .inr (2, [.ref q, vI c])), (q, .inl ((vG X).2 4, 10, .inr (.inr (.inr (.inr (fQ (hqF lads)))))))] ++ (liW (vG X) ad F K) ++ (hiLs (vG X) lads LF LK 10)) (Sb.bl [0, 1, 2] 3 (fl_app fl1 fl2) fl3 rfl rfl (by decide +kernel)) ?_
    show V X 0 0 10 [(0, .ref h), (1, .ref (ad 0))] [.null] ([(h, .inr (2, [.ref q, vI c])), (q, .inl ((vG X).2 4, 10, .inr (.inr (.inr (.inr (fQ (hqF lads)))))))] ++ (liW (vG X) ad F K) ++ (hiLs (vG X) lads LF LK 10))
    show V X 0 0 10 [(0, .ref h), (1, .ref (ad 0))] [.null] ([(h, .inr (2, [.ref q, vI c])), (q, .inl ((vG X).2 4, 10, .inr (.inr (.inr (.inr (fQ (hqF lads)))))))] ++ (liW (vG X) ad F K) ++ (hiLs (vG X) lads LF LK 10))
    refine v_astore_nN C M dX2_takeBack_10 rfl (by decide) (L' := [(2, .null), (0, .ref h), (1, .ref (ad 0))]) rfl ?_
    refine v_aload_nN C dX2_takeBack_11 rfl 0 rfl ?_
    refine v_ifnonnullN C dX2_takeBack_12 ?_
    refine v_iconst C dX2_takeBack_15 ?_
    exact v_zret C E rfl rfl dX2_takeBack_16 (by decide) (by decide) (Or.inl ⟨h0, rfl, rfl⟩)
  · skip
    refine v_aload_n C dX2_takeBack_0 rfl 0 rfl ?_
    refine v_aload_n C dX2_takeBack_1 rfl 0 rfl ?_
    refine v_get (v := vI c) C inw_2 0 1 rfl (by decide) (List.mem_cons_of_mem _ mw_175) rfl rfl dX2_takeBack_2 ?_
    refine v_iconst C dX2_takeBack_5 ?_
    refine v_isub C dX2_takeBack_6 ?_
    refine v_callV (na := 1) (wy := (Cond.code yX2_lineAt cX2_lineAt 2 (some (.object "TurnLine$Line")) :: wsL_law)) (wc := [(h, .inr (2, [.ref q, vI c])), (q, .inl ((vG X).2 4, 10, .inr (.inr (.inr (.inr (fQ (hqF lads)))))))]) (wr := (liW (vG X) ad F K) ++ (hiLs (vG X) lads LF LK 10)) C [vI (c - 1)] [] (c_X2_lineAt _ _ h q lads c (c - 1) ⟨by omega, by omega⟩) rfl (gwV mw_179 mw_176 mw_177 mw_178 mw_29) rfl (by decide +kernel) 0 rfl rfl rfl rfl (Sb.bl [0, 1, 2] 3 fl3 (fl_app fl1 fl2) rfl rfl (by decide +kernel)) rfl rfl dX2_takeBack_7 (fun r w1 hp7_2 => ?_)
    obtain ⟨rfl, rfl⟩ := hp7_2
    rw [if_pos (show (0 : Int) ≤ (c - 1) ∧ ((c - 1) : Int) < 10 by omega)]
    refine V.sb (ws' := [(h, .inr (2, [.ref q, vI c])), (q, .inl ((vG X).2 4, 10, .inr (.inr (.inr (.inr (fQ (hqF lads)))))))] ++ (liW (vG X) ad F K) ++ (hiLs (vG X) lads LF LK 10)) (Sb.bl [0, 1, 2] 3 (fl_app fl1 fl2) fl3 rfl rfl (by decide +kernel)) ?_
    show V X 0 0 10 [(0, .ref h), (1, .ref (ad 0))] [.ref (lads (c - 1).toNat 0)] ([(h, .inr (2, [.ref q, vI c])), (q, .inl ((vG X).2 4, 10, .inr (.inr (.inr (.inr (fQ (hqF lads)))))))] ++ (liW (vG X) ad F K) ++ (hiLs (vG X) lads LF LK 10))
    show V X 0 0 10 [(0, .ref h), (1, .ref (ad 0))] [.ref (lads (c - 1).toNat 0)] ([(h, .inr (2, [.ref q, vI c])), (q, .inl ((vG X).2 4, 10, .inr (.inr (.inr (.inr (fQ (hqF lads)))))))] ++ (liW (vG X) ad F K) ++ (hiLs (vG X) lads LF LK 10))
    refine v_astore_n C M dX2_takeBack_10 rfl (by decide) (L' := [(2, .ref (lads (c - 1).toNat 0)), (0, .ref h), (1, .ref (ad 0))]) rfl ?_
    refine v_aload_n C dX2_takeBack_11 rfl 0 rfl ?_
    refine v_ifnonnull (tgt := 17) C dX2_takeBack_12 (by decide) ?_
    refine V.sb (Sb.hi (c - 1).toNat (by omega)) ?_
    show V X 0 0 17 [(2, .ref ((lads (c - 1).toNat) 0)), (0, .ref h), (1, .ref (ad 0))] [] ([(h, .inr (2, [.ref q, vI c])), (q, .inl ((vG X).2 4, 10, .inr (.inr (.inr (.inr (fQ (hqF lads)))))))] ++ (liW (vG X) ad F K) ++ (liW (vG X) (lads (c - 1).toNat) (LF (c - 1).toNat) (LK (c - 1).toNat)) ++ (hiRs (vG X) lads LF LK (c - 1).toNat 10))
    refine v_aload_n C dX2_takeBack_17 rfl 2 rfl ?_
    refine v_aload_n C dX2_takeBack_18 rfl 0 rfl ?_
    refine v_callV (na := 1) (wy := (Cond.code yX3_copyFrom cX3_copyFrom 2 none :: wsL_law)) (wc := (liW (vG X) ad F K) ++ (liW (vG X) (lads (c - 1).toNat) (LF (c - 1).toNat) (LK (c - 1).toNat))) (wr := [(h, .inr (2, [.ref q, vI c])), (q, .inl ((vG X).2 4, 10, .inr (.inr (.inr (.inr (fQ (hqF lads)))))))] ++ (hiRs (vG X) lads LF LK (c - 1).toNat 10)) C [.ref ((lads (c - 1).toNat) 0)] [] (c_X3_copyFrom _ _ ad F K (lads (c - 1).toNat) (LF (c - 1).toNat) (LK (c - 1).toNat) (hz (c - 1).toNat)) rfl (gwV mw_183 mw_180 mw_181 mw_182 mw_15) rfl (by decide +kernel) 0 rfl rfl rfl rfl (Sb.bl [1, 2, 0, 3] 4 fl4 (fl_app fl2 fl2) rfl rfl (by decide +kernel)) rfl rfl dX2_takeBack_19 (fun r w1 hp19_3 => ?_)
    obtain ⟨rfl, rfl⟩ := hp19_3
    refine V.sb (ws' := [(h, .inr (2, [.ref q, vI c])), (q, .inl ((vG X).2 4, 10, .inr (.inr (.inr (.inr (fQ (hqF lads)))))))] ++ (liW (vG X) ad (LF (c - 1).toNat) (LK (c - 1).toNat)) ++ (liW (vG X) (lads (c - 1).toNat) (LF (c - 1).toNat) (LK (c - 1).toNat)) ++ (hiRs (vG X) lads LF LK (c - 1).toNat 10)) (Sb.bl [2, 0, 1, 3] 4 (fl_app fl2 fl2) fl4 rfl rfl (by decide +kernel)) ?_
    show V X 0 0 22 [(2, .ref ((lads (c - 1).toNat) 0)), (0, .ref h), (1, .ref (ad 0))] [] ([(h, .inr (2, [.ref q, vI c])), (q, .inl ((vG X).2 4, 10, .inr (.inr (.inr (.inr (fQ (hqF lads)))))))] ++ (liW (vG X) ad (LF (c - 1).toNat) (LK (c - 1).toNat)) ++ (liW (vG X) (lads (c - 1).toNat) (LF (c - 1).toNat) (LK (c - 1).toNat)) ++ (hiRs (vG X) lads LF LK (c - 1).toNat 10))
    show V X 0 0 22 [(2, .ref ((lads (c - 1).toNat) 0)), (0, .ref h), (1, .ref (ad 0))] [] ([(h, .inr (2, [.ref q, vI c])), (q, .inl ((vG X).2 4, 10, .inr (.inr (.inr (.inr (fQ (hqF lads)))))))] ++ (liW (vG X) ad (LF (c - 1).toNat) (LK (c - 1).toNat)) ++ (liW (vG X) (lads (c - 1).toNat) (LF (c - 1).toNat) (LK (c - 1).toNat)) ++ (hiRs (vG X) lads LF LK (c - 1).toNat 10))
    refine v_aload_n C dX2_takeBack_22 rfl 1 rfl ?_
    refine v_dup C dX2_takeBack_23 rfl ?_
    refine v_get (v := vI c) C inw_2 0 1 rfl (by decide) (List.mem_cons_of_mem _ mw_175) rfl rfl dX2_takeBack_24 ?_
    refine v_iconst C dX2_takeBack_27 ?_
    refine v_isub C dX2_takeBack_28 ?_
    refine v_put C inw_2 tyX2 tyX2_ok nmX2 0 1 rfl (by decide) (List.mem_cons_of_mem _ mw_175) rfl rfl rfl rfl (Nat.le_of_ble_eq_true rfl) dX2_takeBack_29 (ws' := [(h, .inr (2, [.ref q, vI (c - 1)])), (q, .inl ((vG X).2 4, 10, .inr (.inr (.inr (.inr (fQ (hqF lads)))))))] ++ (liW (vG X) ad (LF (c - 1).toNat) (LK (c - 1).toNat)) ++ (liW (vG X) (lads (c - 1).toNat) (LF (c - 1).toNat) (LK (c - 1).toNat)) ++ (hiRs (vG X) lads LF LK (c - 1).toNat 10)) rfl ?_
    refine v_iconst C dX2_takeBack_32 ?_
    refine V.sb (Sb.hj (by omega)) ?_
    rw [upN_id, upN_id]
    show V X 0 0 33 [(2, .ref ((lads (c - 1).toNat) 0)), (0, .ref h), (1, .ref (ad 0))] [vI 1] ([(h, .inr (2, [.ref q, vI (c - 1)])), (q, .inl ((vG X).2 4, 10, .inr (.inr (.inr (.inr (fQ (hqF lads)))))))] ++ (liW (vG X) ad (LF (c - 1).toNat) (LK (c - 1).toNat)) ++ (hiLs (vG X) lads LF LK 10))
    exact v_zret C E rfl rfl dX2_takeBack_33 (by decide) (by decide) (Or.inr ⟨by omega, rfl, rfl⟩)
end C16
