section C24a
set_option maxHeartbeats 4000000 in
set_option maxRecDepth 100000 in
theorem c_X7_isTold (G : GG) (l : Launch) (A : Nat → Nat) (B : Nat → Nat → Nat) (lads : Nat → Nat → Nat) (f bu cf cp ff fp : Int → Int) (Q : Nat → Int → Int → Int) (R : Nat → Int → Int → Int64) (LF : Nat → Int → Int → Int) (LK : Nat → Int → Int → Int64) (z : Int → Int) (q : Int) (hq : sm q) : Ct G l yX7_isTold (Cond.code yX7_isTold cX7_isTold 2 (some .boolean) :: wsL_law) 1 21 0 0 [.ref (A 0), vI q] ([((A 0), .inr (7, [.ref (A 1), .ref ((B 0) 0), .ref ((B 1) 0), .ref ((B 2) 0), .ref (A 3), .ref (A 5), .ref (A 8), .ref (A 10), .ref (A 11)]))] ++ (liW G (B 0) (Q 0) (R 0))) (fun r w => r = some (vI (bI (tlL (R 0 2) q))) ∧ w = [((A 0), .inr (7, [.ref (A 1), .ref ((B 0) 0), .ref ((B 1) 0), .ref ((B 2) 0), .ref (A 3), .ref (A 5), .ref (A 8), .ref (A 10), .ref (A 11)]))] ++ (liW G (B 0) (Q 0) (R 0))) := by
  refine Ct.of (own := RX7) (cc := cX7_isTold) (maxL := 2) (ret := (some .boolean)) (by decide) rfl rfl (Nat.le_of_ble_eq_true rfl) (fun X C E M hG hl => ?_)
  subst hG hl
  refine v_aload_n C dX7_isTold_0 rfl 0 rfl ?_
  refine v_get (v := .ref ((B 0) 0)) C inw_7 0 1 rfl (by decide) (List.mem_cons_of_mem _ mw_16) rfl rfl dX7_isTold_1 ?_
  refine v_iload_n C dX7_isTold_4 rfl 1 rfl ?_
  refine v_callV (na := 1) (wy := (Cond.code yX3_tells cX3_tells 2 (some .boolean) :: wsL_law)) (wc := (liW (vG X) (B 0) (Q 0) (R 0))) (wr := [((A 0), .inr (7, [.ref (A 1), .ref ((B 0) 0), .ref ((B 1) 0), .ref ((B 2) 0), .ref (A 3), .ref (A 5), .ref (A 8), .ref (A 10), .ref (A 11)]))]) C [vI q] [] (c_X3_tells _ _ (B 0) (Q 0) (R 0) q hq) rfl (gwV mw_166 mw_163 mw_164 mw_165 mw_15) rfl (by decide +kernel) 0 rfl rfl rfl rfl (Sb.bl [1, 0] 2 fl2 (fl_app fl1 fl1) rfl rfl (by decide +kernel)) rfl rfl dX7_isTold_5 (fun r w1 hp5_1 => ?_)
  obtain ⟨rfl, rfl⟩ := hp5_1
  refine V.sb (ws' := [((A 0), .inr (7, [.ref (A 1), .ref ((B 0) 0), .ref ((B 1) 0), .ref ((B 2) 0), .ref (A 3), .ref (A 5), .ref (A 8), .ref (A 10), .ref (A 11)]))] ++ (liW (vG X) (B 0) (Q 0) (R 0))) (Sb.bl [1, 0] 2 (fl_app fl1 fl1) fl2 rfl rfl (by decide +kernel)) ?_
  show V X 0 0 8 [(0, .ref (A 0)), (1, vI q)] [vI (bI (tlL ((R 0) 2) q))] ([((A 0), .inr (7, [.ref (A 1), .ref ((B 0) 0), .ref ((B 1) 0), .ref ((B 2) 0), .ref (A 3), .ref (A 5), .ref (A 8), .ref (A 10), .ref (A 11)]))] ++ (liW (vG X) (B 0) (Q 0) (R 0)))
  exact v_zret C E rfl nb_bI dX7_isTold_8 (by decide) (by decide) (⟨rfl, rfl⟩)
set_option maxHeartbeats 4000000 in
set_option maxRecDepth 100000 in
theorem C_X7_isTold (G : GG) (l : Launch) (A : Nat → Nat) (B : Nat → Nat → Nat) (lads : Nat → Nat → Nat) (f bu cf cp ff fp : Int → Int) (Q : Nat → Int → Int → Int) (R : Nat → Int → Int → Int64) (LF : Nat → Int → Int → Int) (LK : Nat → Int → Int → Int64) (z : Int → Int) (q : Int) (hq : sm q) : Ct G l yX7_isTold (Cond.code yX7_isTold cX7_isTold 2 (some .boolean) :: wsL_law) 1 21 0 0 [.ref (A 0), vI q] (tlW G A B lads f bu cf cp ff fp Q R LF LK z) (fun r w => r = some (vI (bI (tlL (R 0 2) q))) ∧ w = (tlW G A B lads f bu cf cp ff fp Q R LF LK z)) :=
  Ct.fr (wr := (rdW G (A 1) (A 2) (f) (bu)) ++ (liW G (B 1) (Q 1) (R 1)) ++ (liW G (B 2) (Q 2) (R 2)) ++ (frW G (A 3) (A 4) (cf) (cp)) ++ [((A 5), .inr (0, [.ref ((B 3) 0), .ref ((B 4) 0), .ref (A 6)]))] ++ (liW G (B 3) (Q 3) (R 3)) ++ (liW G (B 4) (Q 4) (R 4)) ++ (frW G (A 6) (A 7) (ff) (fp)) ++ [((A 8), .inr (2, [.ref (A 9), vI (z 0)])), ((A 9), .inl (G.2 4, 10, .inr (.inr (.inr (.inr (fQ (hqF lads)))))))] ++ [((A 10), .inr (4, [.ref ((B 5) 0), vI (z 1)]))] ++ (liW G (B 5) (Q 5) (R 5)) ++ [((A 11), .inr (4, [.ref ((B 6) 0), vI (z 2)]))] ++ (liW G (B 6) (Q 6) (R 6)) ++ (hiLs G lads LF LK 10)) (Sb.bl [0, 2, 1, 3, 4, 5, 6, 7, 8, 9, 10, 11, 12, 13, 14, 15] 16 fl16 (fl_app fl2 fl14) rfl rfl (by decide +kernel)) (c_X7_isTold G l A B lads f bu cf cp ff fp Q R LF LK z q hq) (fun r w1 h => by obtain ⟨rfl, rfl⟩ := h; exact ⟨_, ⟨rfl, rfl⟩, (Sb.bl [0, 2, 1, 3, 4, 5, 6, 7, 8, 9, 10, 11, 12, 13, 14, 15] 16 (fl_app fl2 fl14) fl16 rfl rfl (by decide +kernel))⟩)
set_option maxHeartbeats 4000000 in
set_option maxRecDepth 100000 in
theorem c_X7_size (G : GG) (l : Launch) (A : Nat → Nat) (B : Nat → Nat → Nat) (lads : Nat → Nat → Nat) (f bu cf cp ff fp : Int → Int) (Q : Nat → Int → Int → Int) (R : Nat → Int → Int → Int64) (LF : Nat → Int → Int → Int) (LK : Nat → Int → Int → Int64) (z : Int → Int) (q : Int) (hst : l.stackTraces = false) (hq : sm q) : CtX G l yX7_size (Cond.code yX7_size cX7_size 2 (some .int) :: wsL_law) 6 90 1 6 [.ref (A 0), vI q] ([((A 0), .inr (7, [.ref (A 1), .ref ((B 0) 0), .ref ((B 1) 0), .ref ((B 2) 0), .ref (A 3), .ref (A 5), .ref (A 8), .ref (A 10), .ref (A 11)]))] ++ (liW G (B 0) (Q 0) (R 0)) ++ [((A 8), .inr (2, [.ref (A 9), vI (z 0)])), ((A 9), .inl (G.2 4, 10, .inr (.inr (.inr (.inr (fQ (hqF lads)))))))]) (fun r w => r = some (vI (szC (Q 0) (z 0) q)) ∧ w = [((A 0), .inr (7, [.ref (A 1), .ref ((B 0) 0), .ref ((B 1) 0), .ref ((B 2) 0), .ref (A 3), .ref (A 5), .ref (A 8), .ref (A 10), .ref (A 11)]))] ++ (liW G (B 0) (Q 0) (R 0)) ++ [((A 8), .inr (2, [.ref (A 9), vI (z 0)])), ((A 9), .inl (G.2 4, 10, .inr (.inr (.inr (.inr (fQ (hqF lads)))))))] ∧ (0 ≤ q ∧ q ≤ 6)) (fun E w => E = "java/lang/IllegalArgumentException" ∧ w = [((A 0), .inr (7, [.ref (A 1), .ref ((B 0) 0), .ref ((B 1) 0), .ref ((B 2) 0), .ref (A 3), .ref (A 5), .ref (A 8), .ref (A 10), .ref (A 11)]))] ++ (liW G (B 0) (Q 0) (R 0)) ++ [((A 8), .inr (2, [.ref (A 9), vI (z 0)])), ((A 9), .inl (G.2 4, 10, .inr (.inr (.inr (.inr (fQ (hqF lads)))))))] ∧ ¬ (0 ≤ q ∧ q ≤ 6)) := by
  refine CtX.of (own := RX7) (cc := cX7_size) (maxL := 2) (ret := (some .int)) hst (by decide) rfl rfl (Nat.le_of_ble_eq_true rfl) (fun X C E M hG hl => ?_)
  subst hG hl
  by_cases hc : 0 ≤ q ∧ q ≤ 6
  · rcases (show q = 0 ∨ q = 1 ∨ q = 2 ∨ q = 3 ∨ q = 4 ∨ q = 5 ∨ q = 6 by omega) with rfl | rfl | rfl | rfl | rfl | rfl | rfl
    · skip
      refine v_iload_n C dX7_size_0 rfl 1 rfl ?_
      refine v_tabIn (tgt := 44) C dX7_size_1 (by decide) (by decide) (by decide) rfl (by decide) ?_
      refine v_aload_n C dX7_size_44 rfl 0 rfl ?_
      refine v_get (v := .ref ((B 0) 0)) C inw_7 0 1 rfl (by decide) (List.mem_cons_of_mem _ mw_16) rfl rfl dX7_size_45 ?_
      refine v_getN (v := vI ((Q 0) 0 4)) C inw_3 1 5 rfl (by decide) nw_25 rfl rfl dX7_size_48 ?_
      refine v_xr C E (fun X1 C1 E1 => ?_)
      exact v_iret C1 E1 rfl dX7_size_51 (by decide) (by decide) (⟨rfl, rfl, hc⟩)
    · skip
      refine v_iload_n C dX7_size_0 rfl 1 rfl ?_
      refine v_tabIn (tgt := 52) C dX7_size_1 (by decide) (by decide) (by decide) rfl (by decide) ?_
      refine v_aload_n C dX7_size_52 rfl 0 rfl ?_
      refine v_get (v := .ref ((B 0) 0)) C inw_7 0 1 rfl (by decide) (List.mem_cons_of_mem _ mw_16) rfl rfl dX7_size_53 ?_
      refine v_getN (v := vI ((Q 0) 0 5)) C inw_3 1 6 rfl (by decide) nw_27 rfl rfl dX7_size_56 ?_
      refine v_xr C E (fun X1 C1 E1 => ?_)
      exact v_iret C1 E1 rfl dX7_size_59 (by decide) (by decide) (⟨rfl, rfl, hc⟩)
    · skip
      refine v_iload_n C dX7_size_0 rfl 1 rfl ?_
      refine v_tabIn (tgt := 60) C dX7_size_1 (by decide) (by decide) (by decide) rfl (by decide) ?_
      refine v_aload_n C dX7_size_60 rfl 0 rfl ?_
      refine v_get (v := .ref ((B 0) 0)) C inw_7 0 1 rfl (by decide) (List.mem_cons_of_mem _ mw_16) rfl rfl dX7_size_61 ?_
      refine v_callV (na := 0) (wy := (Cond.code yX3_time cX3_time 1 (some .int) :: wsL_law)) (wc := (liW (vG X) (B 0) (Q 0) (R 0))) (wr := [((A 0), .inr (7, [.ref (A 1), .ref ((B 0) 0), .ref ((B 1) 0), .ref ((B 2) 0), .ref (A 3), .ref (A 5), .ref (A 8), .ref (A 10), .ref (A 11)]))] ++ [((A 8), .inr (2, [.ref (A 9), vI (z 0)])), ((A 9), .inl ((vG X).2 4, 10, .inr (.inr (.inr (.inr (fQ (hqF lads)))))))]) C [] [] (c_X3_time _ _ (B 0) (Q 0) (R 0)) rfl (gwV mw_105 mw_102 mw_103 mw_104 mw_15) rfl (by decide +kernel) 0 rfl rfl rfl rfl (Sb.bl [1, 0, 2] 3 fl3 (fl_app fl1 fl2) rfl rfl (by decide +kernel)) rfl rfl dX7_size_64 (fun r w1 hp64_1 => ?_)
      obtain ⟨rfl, rfl⟩ := hp64_1
      refine V.sb (ws' := [((A 0), .inr (7, [.ref (A 1), .ref ((B 0) 0), .ref ((B 1) 0), .ref ((B 2) 0), .ref (A 3), .ref (A 5), .ref (A 8), .ref (A 10), .ref (A 11)]))] ++ (liW (vG X) (B 0) (Q 0) (R 0)) ++ [((A 8), .inr (2, [.ref (A 9), vI (z 0)])), ((A 9), .inl ((vG X).2 4, 10, .inr (.inr (.inr (.inr (fQ (hqF lads)))))))]) (Sb.bl [1, 0, 2] 3 (fl_app fl1 fl2) fl3 rfl rfl (by decide +kernel)) ?_
      show V X 0 0 67 [(0, .ref (A 0)), (1, vI 2)] [vI (tmL (Q 0))] ([((A 0), .inr (7, [.ref (A 1), .ref ((B 0) 0), .ref ((B 1) 0), .ref ((B 2) 0), .ref (A 3), .ref (A 5), .ref (A 8), .ref (A 10), .ref (A 11)]))] ++ (liW (vG X) (B 0) (Q 0) (R 0)) ++ [((A 8), .inr (2, [.ref (A 9), vI (z 0)])), ((A 9), .inl ((vG X).2 4, 10, .inr (.inr (.inr (.inr (fQ (hqF lads)))))))])
      refine v_xr C E (fun X1 C1 E1 => ?_)
      exact v_iret C1 E1 rfl dX7_size_67 (by decide) (by decide) (⟨rfl, rfl, hc⟩)
    · skip
      refine v_iload_n C dX7_size_0 rfl 1 rfl ?_
      refine v_tabIn (tgt := 68) C dX7_size_1 (by decide) (by decide) (by decide) rfl (by decide) ?_
      refine v_aload_n C dX7_size_68 rfl 0 rfl ?_
      refine v_get (v := .ref ((B 0) 0)) C inw_7 0 1 rfl (by decide) (List.mem_cons_of_mem _ mw_16) rfl rfl dX7_size_69 ?_
      refine v_getN (v := vI ((Q 0) 0 1)) C inw_3 1 7 rfl (by decide) nw_29 rfl rfl dX7_size_72 ?_
      refine v_xr C E (fun X1 C1 E1 => ?_)
      exact v_iret C1 E1 rfl dX7_size_75 (by decide) (by decide) (⟨rfl, rfl, hc⟩)
    · skip
      refine v_iload_n C dX7_size_0 rfl 1 rfl ?_
      refine v_tabIn (tgt := 76) C dX7_size_1 (by decide) (by decide) (by decide) rfl (by decide) ?_
      refine v_aload_n C dX7_size_76 rfl 0 rfl ?_
      refine v_get (v := .ref ((B 0) 0)) C inw_7 0 1 rfl (by decide) (List.mem_cons_of_mem _ mw_16) rfl rfl dX7_size_77 ?_
      refine v_getN (v := vI ((Q 0) 0 2)) C inw_3 1 8 rfl (by decide) nw_30 rfl rfl dX7_size_80 ?_
      refine v_xr C E (fun X1 C1 E1 => ?_)
      exact v_iret C1 E1 rfl dX7_size_83 (by decide) (by decide) (⟨rfl, rfl, hc⟩)
    · skip
      refine v_iload_n C dX7_size_0 rfl 1 rfl ?_
      refine v_tabIn (tgt := 84) C dX7_size_1 (by decide) (by decide) (by decide) rfl (by decide) ?_
      refine v_aload_n C dX7_size_84 rfl 0 rfl ?_
      refine v_get (v := .ref ((B 0) 0)) C inw_7 0 1 rfl (by decide) (List.mem_cons_of_mem _ mw_16) rfl rfl dX7_size_85 ?_
      refine v_getN (v := vI ((Q 0) 0 7)) C inw_3 1 4 rfl (by decide) nw_22 rfl rfl dX7_size_88 ?_
      refine v_xr C E (fun X1 C1 E1 => ?_)
      exact v_iret C1 E1 rfl dX7_size_91 (by decide) (by decide) (⟨rfl, rfl, hc⟩)
    · skip
      refine v_iload_n C dX7_size_0 rfl 1 rfl ?_
      refine v_tabIn (tgt := 92) C dX7_size_1 (by decide) (by decide) (by decide) rfl (by decide) ?_
      refine v_aload_n C dX7_size_92 rfl 0 rfl ?_
      refine v_get (v := .ref (A 8)) C inw_7 0 6 rfl (by decide) (List.mem_cons_of_mem _ mw_30) rfl rfl dX7_size_93 ?_
      refine v_getN (v := vI (z 0)) C inw_2 10 1 rfl (by decide) nw_36 rfl rfl dX7_size_96 ?_
      refine v_xr C E (fun X1 C1 E1 => ?_)
      exact v_iret C1 E1 rfl dX7_size_99 (by decide) (by decide) (⟨rfl, rfl, hc⟩)
  · skip
    refine v_iload_n C dX7_size_0 rfl 1 rfl ?_
    refine v_tabOut (tgt := 100) C dX7_size_1 hq (by omega) (by decide) ?_
    exact v_throwS C E (cls := "java/lang/IllegalArgumentException") (tx := "no such size") (i := 11) (names := ["java/lang/RuntimeException", "java/lang/Exception"]) (by decide +kernel) thn (List.mem_cons_of_mem _ mw_100) (List.mem_cons_of_mem _ mw_101) rfl (fun w h => List.mem_cons_of_mem _ (thg_76 w h)) thb_76 (tho_c tho_76) dX7_size_100 dX7_size_103 dX7_size_104 dX7_size_106 dX7_size_109 (Nat.le_of_ble_eq_true rfl) (Nat.le_of_ble_eq_true rfl) (Nat.le_of_ble_eq_true rfl) (Nat.le_of_ble_eq_true rfl) (Nat.le_of_ble_eq_true rfl) (Nat.le_of_ble_eq_true rfl) ⟨rfl, rfl, hc⟩
set_option maxHeartbeats 4000000 in
set_option maxRecDepth 100000 in
theorem C_X7_size (G : GG) (l : Launch) (A : Nat → Nat) (B : Nat → Nat → Nat) (lads : Nat → Nat → Nat) (f bu cf cp ff fp : Int → Int) (Q : Nat → Int → Int → Int) (R : Nat → Int → Int → Int64) (LF : Nat → Int → Int → Int) (LK : Nat → Int → Int → Int64) (z : Int → Int) (q : Int) (hst : l.stackTraces = false) (hq : sm q) : CtX G l yX7_size (Cond.code yX7_size cX7_size 2 (some .int) :: wsL_law) 6 90 1 6 [.ref (A 0), vI q] (tlW G A B lads f bu cf cp ff fp Q R LF LK z) (fun r w => r = some (vI (szC (Q 0) (z 0) q)) ∧ w = (tlW G A B lads f bu cf cp ff fp Q R LF LK z) ∧ (0 ≤ q ∧ q ≤ 6)) (fun E w => E = "java/lang/IllegalArgumentException" ∧ w = (tlW G A B lads f bu cf cp ff fp Q R LF LK z) ∧ ¬ (0 ≤ q ∧ q ≤ 6)) :=
  CtX.fr (wr := (rdW G (A 1) (A 2) (f) (bu)) ++ (liW G (B 1) (Q 1) (R 1)) ++ (liW G (B 2) (Q 2) (R 2)) ++ (frW G (A 3) (A 4) (cf) (cp)) ++ [((A 5), .inr (0, [.ref ((B 3) 0), .ref ((B 4) 0), .ref (A 6)]))] ++ (liW G (B 3) (Q 3) (R 3)) ++ (liW G (B 4) (Q 4) (R 4)) ++ (frW G (A 6) (A 7) (ff) (fp)) ++ [((A 10), .inr (4, [.ref ((B 5) 0), vI (z 1)]))] ++ (liW G (B 5) (Q 5) (R 5)) ++ [((A 11), .inr (4, [.ref ((B 6) 0), vI (z 2)]))] ++ (liW G (B 6) (Q 6) (R 6)) ++ (hiLs G lads LF LK 10)) (Sb.bl [0, 2, 10, 1, 3, 4, 5, 6, 7, 8, 9, 11, 12, 13, 14, 15] 16 fl16 (fl_app fl3 fl13) rfl rfl (by decide +kernel)) (c_X7_size G l A B lads f bu cf cp ff fp Q R LF LK z q hst hq) (fun r w1 h => by obtain ⟨rfl, rfl, hx⟩ := h; exact ⟨_, ⟨rfl, rfl, hx⟩, (Sb.bl [0, 3, 1, 4, 5, 6, 7, 8, 9, 10, 2, 11, 12, 13, 14, 15] 16 (fl_app fl3 fl13) fl16 rfl rfl (by decide +kernel))⟩) (fun E w1 h => by obtain ⟨rfl, rfl, hx⟩ := h; exact ⟨_, ⟨rfl, rfl, hx⟩, (Sb.bl [0, 3, 1, 4, 5, 6, 7, 8, 9, 10, 2, 11, 12, 13, 14, 15] 16 (fl_app fl3 fl13) fl16 rfl rfl (by decide +kernel))⟩)
set_option maxHeartbeats 4000000 in
set_option maxRecDepth 100000 in
theorem c_X7_account (G : GG) (l : Launch) (A : Nat → Nat) (B : Nat → Nat → Nat) (lads : Nat → Nat → Nat) (f bu cf cp ff fp : Int → Int) (Q : Nat → Int → Int → Int) (R : Nat → Int → Int → Int64) (LF : Nat → Int → Int → Int) (LK : Nat → Int → Int → Int64) (z : Int → Int) (q : Int) (hst : l.stackTraces = false) (hq : sm q) : CtX G l yX7_account (Cond.code yX7_account cX7_account 2 (some .int) :: wsL_law) 6 90 1 6 [.ref (A 0), vI q] ([((A 0), .inr (7, [.ref (A 1), .ref ((B 0) 0), .ref ((B 1) 0), .ref ((B 2) 0), .ref (A 3), .ref (A 5), .ref (A 8), .ref (A 10), .ref (A 11)]))] ++ (liW G (B 0) (Q 0) (R 0))) (fun r w => r = some (vI (Q 0 5 q)) ∧ w = [((A 0), .inr (7, [.ref (A 1), .ref ((B 0) 0), .ref ((B 1) 0), .ref ((B 2) 0), .ref (A 3), .ref (A 5), .ref (A 8), .ref (A 10), .ref (A 11)]))] ++ (liW G (B 0) (Q 0) (R 0)) ∧ (0 ≤ q ∧ q ≤ 9)) (fun E w => E = "java/lang/IllegalArgumentException" ∧ w = [((A 0), .inr (7, [.ref (A 1), .ref ((B 0) 0), .ref ((B 1) 0), .ref ((B 2) 0), .ref (A 3), .ref (A 5), .ref (A 8), .ref (A 10), .ref (A 11)]))] ++ (liW G (B 0) (Q 0) (R 0)) ∧ ¬ (0 ≤ q ∧ q ≤ 9)) := by
  refine CtX.of (own := RX7) (cc := cX7_account) (maxL := 2) (ret := (some .int)) hst (by decide) rfl rfl (Nat.le_of_ble_eq_true rfl) (fun X C E M hG hl => ?_)
  subst hG hl
  refine v_iload_n C dX7_account_0 rfl 1 rfl ?_
  refine v_if_lt (tgt := 16) C dX7_account_1 (by decide) hq (fun c1 => ?_) (fun c1 => ?_)
  · skip
    exact v_throwS C E (cls := "java/lang/IllegalArgumentException") (tx := "no such account") (i := 15) (names := ["java/lang/RuntimeException", "java/lang/Exception"]) (by decide +kernel) thn (List.mem_cons_of_mem _ mw_100) (List.mem_cons_of_mem _ mw_101) rfl (fun w h => List.mem_cons_of_mem _ (thg_76 w h)) thb_76 (tho_c tho_76) dX7_account_16 dX7_account_19 dX7_account_20 dX7_account_22 dX7_account_25 (Nat.le_of_ble_eq_true rfl) (Nat.le_of_ble_eq_true rfl) (Nat.le_of_ble_eq_true rfl) (Nat.le_of_ble_eq_true rfl) (Nat.le_of_ble_eq_true rfl) (Nat.le_of_ble_eq_true rfl) ⟨rfl, rfl, by omega⟩
  · skip
    refine v_iload_n C dX7_account_4 rfl 1 rfl ?_
    refine v_aload_n C dX7_account_5 rfl 0 rfl ?_
    refine v_get (v := .ref ((B 0) 0)) C inw_7 0 1 rfl (by decide) (List.mem_cons_of_mem _ mw_16) rfl rfl dX7_account_6 ?_
    refine v_getN (v := .ref ((B 0) 7)) C inw_3 1 2 rfl (by decide) nw_21 rfl rfl dX7_account_9 ?_
    refine v_alen (z := 10) C 8 1 rfl rfl (show Int32.ofNat 10 = iI 10 by decide +kernel) dX7_account_12 ?_
    refine v_icmp_lt (tgt := 26) C dX7_account_13 (by decide) hq (by decide) (fun c13 => ?_) (fun c13 => ?_)
    · skip
      refine v_aload_n C dX7_account_26 rfl 0 rfl ?_
      refine v_get (v := .ref ((B 0) 0)) C inw_7 0 1 rfl (by decide) (List.mem_cons_of_mem _ mw_16) rfl rfl dX7_account_27 ?_
      refine v_getN (v := .ref ((B 0) 7)) C inw_3 1 2 rfl (by decide) nw_21 rfl rfl dX7_account_30 ?_
      refine v_iload_n C dX7_account_33 rfl 1 rfl ?_
      refine v_iald C 8 rfl (by omega) (by omega) (by decide) dX7_account_34 ?_
      refine v_xr C E (fun X1 C1 E1 => ?_)
      exact v_iret C1 E1 rfl dX7_account_35 (by decide) (by decide) (⟨rfl, rfl, by omega⟩)
    · skip
      exact v_throwS C E (cls := "java/lang/IllegalArgumentException") (tx := "no such account") (i := 15) (names := ["java/lang/RuntimeException", "java/lang/Exception"]) (by decide +kernel) thn (List.mem_cons_of_mem _ mw_100) (List.mem_cons_of_mem _ mw_101) rfl (fun w h => List.mem_cons_of_mem _ (thg_76 w h)) thb_76 (tho_c tho_76) dX7_account_16 dX7_account_19 dX7_account_20 dX7_account_22 dX7_account_25 (Nat.le_of_ble_eq_true rfl) (Nat.le_of_ble_eq_true rfl) (Nat.le_of_ble_eq_true rfl) (Nat.le_of_ble_eq_true rfl) (Nat.le_of_ble_eq_true rfl) (Nat.le_of_ble_eq_true rfl) ⟨rfl, rfl, by omega⟩
set_option maxHeartbeats 4000000 in
set_option maxRecDepth 100000 in
theorem C_X7_account (G : GG) (l : Launch) (A : Nat → Nat) (B : Nat → Nat → Nat) (lads : Nat → Nat → Nat) (f bu cf cp ff fp : Int → Int) (Q : Nat → Int → Int → Int) (R : Nat → Int → Int → Int64) (LF : Nat → Int → Int → Int) (LK : Nat → Int → Int → Int64) (z : Int → Int) (q : Int) (hst : l.stackTraces = false) (hq : sm q) : CtX G l yX7_account (Cond.code yX7_account cX7_account 2 (some .int) :: wsL_law) 6 90 1 6 [.ref (A 0), vI q] (tlW G A B lads f bu cf cp ff fp Q R LF LK z) (fun r w => r = some (vI (Q 0 5 q)) ∧ w = (tlW G A B lads f bu cf cp ff fp Q R LF LK z) ∧ (0 ≤ q ∧ q ≤ 9)) (fun E w => E = "java/lang/IllegalArgumentException" ∧ w = (tlW G A B lads f bu cf cp ff fp Q R LF LK z) ∧ ¬ (0 ≤ q ∧ q ≤ 9)) :=
  CtX.fr (wr := (rdW G (A 1) (A 2) (f) (bu)) ++ (liW G (B 1) (Q 1) (R 1)) ++ (liW G (B 2) (Q 2) (R 2)) ++ (frW G (A 3) (A 4) (cf) (cp)) ++ [((A 5), .inr (0, [.ref ((B 3) 0), .ref ((B 4) 0), .ref (A 6)]))] ++ (liW G (B 3) (Q 3) (R 3)) ++ (liW G (B 4) (Q 4) (R 4)) ++ (frW G (A 6) (A 7) (ff) (fp)) ++ [((A 8), .inr (2, [.ref (A 9), vI (z 0)])), ((A 9), .inl (G.2 4, 10, .inr (.inr (.inr (.inr (fQ (hqF lads)))))))] ++ [((A 10), .inr (4, [.ref ((B 5) 0), vI (z 1)]))] ++ (liW G (B 5) (Q 5) (R 5)) ++ [((A 11), .inr (4, [.ref ((B 6) 0), vI (z 2)]))] ++ (liW G (B 6) (Q 6) (R 6)) ++ (hiLs G lads LF LK 10)) (Sb.bl [0, 2, 1, 3, 4, 5, 6, 7, 8, 9, 10, 11, 12, 13, 14, 15] 16 fl16 (fl_app fl2 fl14) rfl rfl (by decide +kernel)) (c_X7_account G l A B lads f bu cf cp ff fp Q R LF LK z q hst hq) (fun r w1 h => by obtain ⟨rfl, rfl, hx⟩ := h; exact ⟨_, ⟨rfl, rfl, hx⟩, (Sb.bl [0, 2, 1, 3, 4, 5, 6, 7, 8, 9, 10, 11, 12, 13, 14, 15] 16 (fl_app fl2 fl14) fl16 rfl rfl (by decide +kernel))⟩) (fun E w1 h => by obtain ⟨rfl, rfl, hx⟩ := h; exact ⟨_, ⟨rfl, rfl, hx⟩, (Sb.bl [0, 2, 1, 3, 4, 5, 6, 7, 8, 9, 10, 11, 12, 13, 14, 15] 16 (fl_app fl2 fl14) fl16 rfl rfl (by decide +kernel))⟩)
end C24a
