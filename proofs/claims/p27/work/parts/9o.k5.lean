section K5
set_option maxHeartbeats 4000000 in
set_option maxRecDepth 100000 in
theorem c_L_begins (G : GG) (l : Launch) (A : Nat → Nat) (B : Nat → Nat → Nat) (F : Int → Int → Int) (K : Int → Int → Int64) (w : va_W) (hst : l.stackTraces = false) (hw : tlX G A B 0 (fun _ => 0) F K w) : Ct G l yL_begins (Cond.code yL_begins cL_begins 9 (some .boolean) :: wsL_law) 9 214 400 400000 [.ref (A 0), .ref (G.1.2 300)] (w) (fun r w' => r = some (vI 1) ∧ ∃ (F2 : Int → Int → Int) (K2 : Int → Int → Int64), tlS G A B F2 K2 w' ∧ IN F2 0) := by
  refine Ct.of (own := RL) (cc := cL_begins) (maxL := 9) (ret := (some .boolean)) (by decide) rfl rfl (Nat.le_of_ble_eq_true rfl) (fun X C E M hG hl => ?_)
  subst hG hl
  refine v_new (ci := 8) (fs := [.null, vI 0, vI 0, vI 0]) C inw_8 tyX8 tyX8_ok rfl (List.mem_cons_of_mem _ mw_215) (List.mem_cons_of_mem _ mw_216) (List.mem_cons_of_mem _ mw_217) (fun j hj => by rcases (show j = 0 ∨ j = 1 ∨ j = 2 ∨ j = 3 by omega) with rfl | rfl | rfl | rfl <;> rfl) rfl rfl dL_begins_0 (fun a => ?_)
  refine V.sb (ws' := [(a, .inr (8, [.null, vI 0, vI 0, vI 0]))] ++ w) (Sb.bl [1, 0] 2 fl2 fl2 rfl rfl (by decide +kernel)) ?_
  show V X 1 4 3 [(0, .ref (A 0)), (1, .ref ((vG X).1.2 300))] [.ref a] ([(a, .inr (8, [.null, vI 0, vI 0, vI 0]))] ++ w)
  refine v_dup C dL_begins_3 rfl ?_
  refine v_ldcK (i := 4) C rfl dL_begins_4 ?_
  refine v_callI (ret := none) (na := 1) (wy := (Cond.code yJ4_init_a7421 cJ4_init_a7421 2 none :: wsL_law)) (wc := [(a, .inr (8, [.null, vI 0, vI 0, vI 0]))]) (wr := w) C [.ref ((vG X).1.2 4)] [.ref a] (c_J4_init_a7421 _ _ 4 _ a rfl) rfl (gwI mw_220) (by decide +kernel) (List.mem_cons_of_mem _ mw_217) (List.mem_cons_of_mem _ mw_218) (List.mem_cons_of_mem _ mw_219) rfl rfl rfl Sb.rf rfl rfl dL_begins_6 (fun r w1 hp6 => ?_)
  obtain ⟨rfl, v0, p0, f0, rfl, q1, q2, q3, q4⟩ := hp6
  have q2 : (5 : Int) ≤ (p0 : Int) := q2
  obtain ⟨n0, hn0⟩ : ∃ m : Int, m = 5 := ⟨_, rfl⟩
  have hk0 : SBK p0 n0 f0 := ⟨q1, ⟨by omega, by omega⟩, q3⟩
  have he0 : ET (fun _ => 0) 0 f0 n0 [108, 105, 110, 101, 32] := by have x := ET_str (l := [108, 105, 110, 101, 32]) (by decide +kernel) q4; rw [hn0]; exact x
  refine V.wld (ws' := [(a, .inr (8, [.ref v0, vI 0, vI 0, vI n0])), (v0, .inl ((vG X).2 0, p0, .inl (fI f0)))] ++ w) (by rw [hn0]; rfl) ?_
  refine v_iconst C dL_begins_9 ?_
  refine v_aload_n C dL_begins_10 rfl 1 rfl ?_
  refine v_iconst C dL_begins_11 ?_
  refine v_iconst C dL_begins_12 ?_
  refine v_callS (na := 3) (wy := (Cond.code yL_pick cL_pick 3 (some .int) :: wsL_law)) (wc := []) (wr := [(a, .inr (8, [.ref v0, vI 0, vI 0, vI n0])), (v0, .inl ((vG X).2 0, p0, .inl (fI f0)))] ++ w) C [.ref ((vG X).1.2 300), vI 0, vI 4] [vI 1, .ref a] (c_L_pick _ _ 0 4 (by omega) (by omega) (by omega) (by omega)) rfl (gwS mw_375 mw_373 mw_374 mw_213) (by decide +kernel) rfl rfl Sb.rf rfl rfl dL_begins_13 (fun r w1 hp13 => ?_)
  obtain ⟨⟨x1, rfl, hx1⟩, rfl⟩ := hp13
  show V X 3 1204 16 [(0, .ref (A 0)), (1, .ref ((vG X).1.2 300))] [vI x1, vI 1, .ref a] ([(a, .inr (8, [.ref v0, vI 0, vI 0, vI n0])), (v0, .inl ((vG X).2 0, p0, .inl (fI f0)))] ++ w)
  refine v_iadd C dL_begins_16 ?_
  refine v_callV (na := 1) (wy := (Cond.code yJ4_append_bf812 cJ4_append_bf812 2 (some (.object "java/lang/StringBuilder")) :: wsL_law)) (wc := [(a, .inr (8, [.ref v0, vI 0, vI 0, vI n0])), (v0, .inl ((vG X).2 0, p0, .inl (fI f0)))]) (wr := w) C [vI (1 + x1)] [] (b_int _ _ a v0 p0 n0 f0 (1 + x1) hk0 (by omega) (by omega)) rfl (gwV mw_384 mw_381 mw_382 mw_383 mw_217) rfl (by decide +kernel) 0 rfl rfl rfl rfl Sb.rf rfl rfl dL_begins_17 (fun r w1 hp17 => ?_)
  obtain ⟨rfl, v2, p2, n2, f2, rfl, hk2, he2, hn2, hz2⟩ := hp17
  show V X 4 2204 20 [(0, .ref (A 0)), (1, .ref ((vG X).1.2 300))] [.ref a] ([(a, .inr (8, [.ref v2, vI 0, vI 0, vI n2])), (v2, .inl ((vG X).2 0, p2, .inl (fI f2)))] ++ w)
  refine v_ldcK (i := 5) C rfl dL_begins_20 ?_
  refine v_callV (na := 1) (wy := (Cond.code yJ4_append_15ec4 cJ4_append_15ec4 2 (some (.object "java/lang/StringBuilder")) :: wsL_law)) (wc := [(a, .inr (8, [.ref v2, vI 0, vI 0, vI n2])), (v2, .inl ((vG X).2 0, p2, .inl (fI f2)))]) (wr := w) C [.ref ((vG X).1.2 5)] [] (b_str _ _ 5 _ [32] a v2 p2 n2 f2 rfl (by decide +kernel) hk2 (by show n2 + 1 ≤ 500; omega)) rfl (gwV mw_260 mw_406 mw_258 mw_259 mw_217) rfl (by decide +kernel) 0 rfl rfl rfl rfl Sb.rf rfl rfl dL_begins_22 (fun r w1 hp22 => ?_)
  obtain ⟨rfl, v3, p3, n3, f3, rfl, hk3, he3, hn3⟩ := hp22
  have hn3 : n3 = n2 + 1 := hn3
  show V X 5 3204 25 [(0, .ref (A 0)), (1, .ref ((vG X).1.2 300))] [.ref a] ([(a, .inr (8, [.ref v3, vI 0, vI 0, vI n3])), (v3, .inl ((vG X).2 0, p3, .inl (fI f3)))] ++ w)
  refine v_iconst C dL_begins_25 ?_
  refine v_aload_n C dL_begins_26 rfl 1 rfl ?_
  refine v_iconst C dL_begins_27 ?_
  refine v_bipush C dL_begins_28 (by decide +kernel) ?_
  refine v_callS (na := 3) (wy := (Cond.code yL_pick cL_pick 3 (some .int) :: wsL_law)) (wc := []) (wr := [(a, .inr (8, [.ref v3, vI 0, vI 0, vI n3])), (v3, .inl ((vG X).2 0, p3, .inl (fI f3)))] ++ w) C [.ref ((vG X).1.2 300), vI 1, vI 40] [vI 1, .ref a] (c_L_pick _ _ 1 40 (by omega) (by omega) (by omega) (by omega)) rfl (gwS mw_375 mw_373 mw_374 mw_213) (by decide +kernel) rfl rfl Sb.rf rfl rfl dL_begins_30 (fun r w1 hp30 => ?_)
  obtain ⟨⟨x4, rfl, hx4⟩, rfl⟩ := hp30
  show V X 5 3204 33 [(0, .ref (A 0)), (1, .ref ((vG X).1.2 300))] [vI x4, vI 1, .ref a] ([(a, .inr (8, [.ref v3, vI 0, vI 0, vI n3])), (v3, .inl ((vG X).2 0, p3, .inl (fI f3)))] ++ w)
  refine v_iadd C dL_begins_33 ?_
  refine v_callV (na := 1) (wy := (Cond.code yJ4_append_bf812 cJ4_append_bf812 2 (some (.object "java/lang/StringBuilder")) :: wsL_law)) (wc := [(a, .inr (8, [.ref v3, vI 0, vI 0, vI n3])), (v3, .inl ((vG X).2 0, p3, .inl (fI f3)))]) (wr := w) C [vI (1 + x4)] [] (b_int _ _ a v3 p3 n3 f3 (1 + x4) hk3 (by omega) (by omega)) rfl (gwV mw_384 mw_381 mw_382 mw_383 mw_217) rfl (by decide +kernel) 0 rfl rfl rfl rfl Sb.rf rfl rfl dL_begins_34 (fun r w1 hp34 => ?_)
  obtain ⟨rfl, v5, p5, n5, f5, rfl, hk5, he5, hn5, hz5⟩ := hp34
  show V X 6 4204 37 [(0, .ref (A 0)), (1, .ref ((vG X).1.2 300))] [.ref a] ([(a, .inr (8, [.ref v5, vI 0, vI 0, vI n5])), (v5, .inl ((vG X).2 0, p5, .inl (fI f5)))] ++ w)
  refine v_ldcK (i := 6) C rfl dL_begins_37 ?_
  refine v_callV (na := 1) (wy := (Cond.code yJ4_append_15ec4 cJ4_append_15ec4 2 (some (.object "java/lang/StringBuilder")) :: wsL_law)) (wc := [(a, .inr (8, [.ref v5, vI 0, vI 0, vI n5])), (v5, .inl ((vG X).2 0, p5, .inl (fI f5)))]) (wr := w) C [.ref ((vG X).1.2 6)] [] (b_str _ _ 6 _ [59] a v5 p5 n5 f5 rfl (by decide +kernel) hk5 (by show n5 + 1 ≤ 500; omega)) rfl (gwV mw_260 mw_406 mw_258 mw_259 mw_217) rfl (by decide +kernel) 0 rfl rfl rfl rfl Sb.rf rfl rfl dL_begins_39 (fun r w1 hp39 => ?_)
  obtain ⟨rfl, v6, p6, n6, f6, rfl, hk6, he6, hn6⟩ := hp39
  have hn6 : n6 = n5 + 1 := hn6
  show V X 7 5204 42 [(0, .ref (A 0)), (1, .ref ((vG X).1.2 300))] [.ref a] ([(a, .inr (8, [.ref v6, vI 0, vI 0, vI n6])), (v6, .inl ((vG X).2 0, p6, .inl (fI f6)))] ++ w)
  have hL : ET (fun _ => 0) 0 f6 n6 ([108, 105, 110, 101] ++ 32 :: (dcL (1 + x1) ++ 32 :: (dcL (1 + x4) ++ [59]))) := by
    have x := ET.trans (by decide) he0 (ET.trans (by omega) he2 (ET.trans (by omega) he3 (ET.trans (by omega) he5 he6)))
    exact x
  have hRd := (rds_head (F0 := liI) (show 1 ≤ (1 + x1) ∧ (1 + x1) ≤ 7 by omega) (show 1 ≤ (1 + x4) ∧ (1 + x4) ≤ 99 by omega) hL).weak (PR2 := TXF 0 0 0 1000) (fun F K h => by rw [h.1, h.2]; exact liI_TXF (by omega) (by omega))
  refine v_astore_n C M dL_begins_42 rfl (by decide) (L' := [(2, .ref a), (0, .ref (A 0)), (1, .ref ((vG X).1.2 300))]) rfl ?_
  refine v_iconst C dL_begins_43 ?_
  refine v_istore_n C M dL_begins_44 rfl (by decide) (L' := [(3, vI 0), (2, .ref a), (0, .ref (A 0)), (1, .ref ((vG X).1.2 300))]) rfl ?_
  refine v_iload_n C dL_begins_45 rfl 0 rfl ?_
  refine v_iconst C dL_begins_46 ?_
  refine v_icmp_ge (tgt := 90) C dL_begins_47 (by decide) (by decide) (by decide) (fun c => absurd c (by decide)) (fun _ => ?_)
  refine v_aload_n C dL_begins_50 rfl 1 rfl ?_
  refine v_ldcK (i := 7) C rfl dL_begins_51 ?_
  refine v_callV (na := 1) (wy := (Cond.code yJ4_append_15ec4 cJ4_append_15ec4 2 (some (.object "java/lang/StringBuilder")) :: wsL_law)) (wc := [(a, .inr (8, [.ref v6, vI 0, vI 0, vI n6])), (v6, .inl ((vG X).2 0, p6, .inl (fI f6)))]) (wr := w) C [.ref ((vG X).1.2 7)] [] (b_str _ _ 7 _ [119, 105, 110, 100, 111, 119, 32] a v6 p6 n6 f6 rfl (by decide +kernel) hk6 (by show n6 + 7 ≤ 500; omega)) rfl (gwV mw_260 mw_406 mw_258 mw_259 mw_217) rfl (by decide +kernel) 0 rfl rfl rfl rfl Sb.rf rfl rfl dL_begins_53 (fun r w1 hp53 => ?_)
  obtain ⟨rfl, v7, p7, n7, f7, rfl, hk7, he7, hn7⟩ := hp53
  have hn7 : n7 = n6 + 7 := hn7
  show V X 8 6204 56 [(3, vI 0), (2, .ref a), (0, .ref (A 0)), (1, .ref ((vG X).1.2 300))] [.ref a] ([(a, .inr (8, [.ref v7, vI 0, vI 0, vI n7])), (v7, .inl ((vG X).2 0, p7, .inl (fI f7)))] ++ w)
  refine v_iload_n C dL_begins_56 rfl 0 rfl ?_
  refine v_callV (na := 1) (wy := (Cond.code yJ4_append_bf812 cJ4_append_bf812 2 (some (.object "java/lang/StringBuilder")) :: wsL_law)) (wc := [(a, .inr (8, [.ref v7, vI 0, vI 0, vI n7])), (v7, .inl ((vG X).2 0, p7, .inl (fI f7)))]) (wr := w) C [vI 0] [] (b_int _ _ a v7 p7 n7 f7 0 hk7 (by omega) (by omega)) rfl (gwV mw_384 mw_381 mw_382 mw_383 mw_217) rfl (by decide +kernel) 0 rfl rfl rfl rfl Sb.rf rfl rfl dL_begins_57 (fun r w1 hp57 => ?_)
  obtain ⟨rfl, v8, p8, n8, f8, rfl, hk8, he8, hn8, hz8⟩ := hp57
  show V X 9 7204 60 [(3, vI 0), (2, .ref a), (0, .ref (A 0)), (1, .ref ((vG X).1.2 300))] [.ref a] ([(a, .inr (8, [.ref v8, vI 0, vI 0, vI n8])), (v8, .inl ((vG X).2 0, p8, .inl (fI f8)))] ++ w)
  refine v_ldcK (i := 5) C rfl dL_begins_60 ?_
  refine v_callV (na := 1) (wy := (Cond.code yJ4_append_15ec4 cJ4_append_15ec4 2 (some (.object "java/lang/StringBuilder")) :: wsL_law)) (wc := [(a, .inr (8, [.ref v8, vI 0, vI 0, vI n8])), (v8, .inl ((vG X).2 0, p8, .inl (fI f8)))]) (wr := w) C [.ref ((vG X).1.2 5)] [] (b_str _ _ 5 _ [32] a v8 p8 n8 f8 rfl (by decide +kernel) hk8 (by show n8 + 1 ≤ 500; omega)) rfl (gwV mw_260 mw_406 mw_258 mw_259 mw_217) rfl (by decide +kernel) 0 rfl rfl rfl rfl Sb.rf rfl rfl dL_begins_62 (fun r w1 hp62 => ?_)
  obtain ⟨rfl, v9, p9, n9, f9, rfl, hk9, he9, hn9⟩ := hp62
  have hn9 : n9 = n8 + 1 := hn9
  show V X 10 8204 65 [(3, vI 0), (2, .ref a), (0, .ref (A 0)), (1, .ref ((vG X).1.2 300))] [.ref a] ([(a, .inr (8, [.ref v9, vI 0, vI 0, vI n9])), (v9, .inl ((vG X).2 0, p9, .inl (fI f9)))] ++ w)
  refine v_iconst C dL_begins_65 ?_
  refine v_aload_n C dL_begins_66 rfl 3 rfl ?_
  refine v_iconst C dL_begins_67 ?_
  refine v_iload_n C dL_begins_68 rfl 0 rfl ?_
  refine v_iadd C dL_begins_69 ?_
  show V X 10 8204 70 [(3, vI 0), (2, .ref a), (0, .ref (A 0)), (1, .ref ((vG X).1.2 300))] [vI 2, .ref ((vG X).1.2 300), vI 1, .ref a] ([(a, .inr (8, [.ref v9, vI 0, vI 0, vI n9])), (v9, .inl ((vG X).2 0, p9, .inl (fI f9)))] ++ w)
  refine v_iconst C dL_begins_70 ?_
  refine v_callS (na := 3) (wy := (Cond.code yL_pick cL_pick 3 (some .int) :: wsL_law)) (wc := []) (wr := [(a, .inr (8, [.ref v9, vI 0, vI 0, vI n9])), (v9, .inl ((vG X).2 0, p9, .inl (fI f9)))] ++ w) C [.ref ((vG X).1.2 300), vI 2, vI 5] [vI 1, .ref a] (c_L_pick _ _ 2 5 (by omega) (by omega) (by omega) (by omega)) rfl (gwS mw_375 mw_373 mw_374 mw_213) (by decide +kernel) rfl rfl Sb.rf rfl rfl dL_begins_71 (fun r w1 hp71 => ?_)
  obtain ⟨⟨x10, rfl, hx10⟩, rfl⟩ := hp71
  show V X 10 8204 74 [(3, vI 0), (2, .ref a), (0, .ref (A 0)), (1, .ref ((vG X).1.2 300))] [vI x10, vI 1, .ref a] ([(a, .inr (8, [.ref v9, vI 0, vI 0, vI n9])), (v9, .inl ((vG X).2 0, p9, .inl (fI f9)))] ++ w)
  refine v_iadd C dL_begins_74 ?_
  refine v_callV (na := 1) (wy := (Cond.code yJ4_append_bf812 cJ4_append_bf812 2 (some (.object "java/lang/StringBuilder")) :: wsL_law)) (wc := [(a, .inr (8, [.ref v9, vI 0, vI 0, vI n9])), (v9, .inl ((vG X).2 0, p9, .inl (fI f9)))]) (wr := w) C [vI (1 + x10)] [] (b_int _ _ a v9 p9 n9 f9 (1 + x10) hk9 (by omega) (by omega)) rfl (gwV mw_384 mw_381 mw_382 mw_383 mw_217) rfl (by decide +kernel) 0 rfl rfl rfl rfl Sb.rf rfl rfl dL_begins_75 (fun r w1 hp75 => ?_)
  obtain ⟨rfl, v11, p11, n11, f11, rfl, hk11, he11, hn11, hz11⟩ := hp75
  show V X 11 9204 78 [(3, vI 0), (2, .ref a), (0, .ref (A 0)), (1, .ref ((vG X).1.2 300))] [.ref a] ([(a, .inr (8, [.ref v11, vI 0, vI 0, vI n11])), (v11, .inl ((vG X).2 0, p11, .inl (fI f11)))] ++ w)
  refine v_ldcK (i := 6) C rfl dL_begins_78 ?_
  refine v_callV (na := 1) (wy := (Cond.code yJ4_append_15ec4 cJ4_append_15ec4 2 (some (.object "java/lang/StringBuilder")) :: wsL_law)) (wc := [(a, .inr (8, [.ref v11, vI 0, vI 0, vI n11])), (v11, .inl ((vG X).2 0, p11, .inl (fI f11)))]) (wr := w) C [.ref ((vG X).1.2 6)] [] (b_str _ _ 6 _ [59] a v11 p11 n11 f11 rfl (by decide +kernel) hk11 (by show n11 + 1 ≤ 500; omega)) rfl (gwV mw_260 mw_406 mw_258 mw_259 mw_217) rfl (by decide +kernel) 0 rfl rfl rfl rfl Sb.rf rfl rfl dL_begins_80 (fun r w1 hp80 => ?_)
  obtain ⟨rfl, v12, p12, n12, f12, rfl, hk12, he12, hn12⟩ := hp80
  have hn12 : n12 = n11 + 1 := hn12
  show V X 12 10204 83 [(3, vI 0), (2, .ref a), (0, .ref (A 0)), (1, .ref ((vG X).1.2 300))] [.ref a] ([(a, .inr (8, [.ref v12, vI 0, vI 0, vI n12])), (v12, .inl ((vG X).2 0, p12, .inl (fI f12)))] ++ w)
  have heW0 : ET f6 n6 f12 n12 ([119, 105, 110, 100, 111, 119] ++ 32 :: (dcL 0 ++ 32 :: (dcL (1 + x10) ++ [59]))) := by
    have x := (ET.trans (by omega) he7 (ET.trans (by omega) he8 (ET.trans (by omega) he9 (ET.trans (by omega) he11 he12))))
    exact x
  have hRw0 := rds_win (k := 0) (c := (1 + x10)) hRd (by omega) (by decide) (by omega) rfl heW0
  have hzw0 : szI 0 = 1 := rfl
  refine v_pop C dL_begins_83 rfl ?_
  refine v_iinc C M dL_begins_84 0 rfl (by decide) (z' := 1) rfl (L' := [(3, vI 1), (2, .ref a), (0, .ref (A 0)), (1, .ref ((vG X).1.2 300))]) rfl ?_
  refine v_goto (tgt := 45) C dL_begins_87 (by decide) ?_
  refine v_iload_n C dL_begins_45 rfl 0 rfl ?_
  refine v_iconst C dL_begins_46 ?_
  refine v_icmp_ge (tgt := 90) C dL_begins_47 (by decide) (by decide) (by decide) (fun c => absurd c (by decide)) (fun _ => ?_)
  refine v_aload_n C dL_begins_50 rfl 1 rfl ?_
  refine v_ldcK (i := 7) C rfl dL_begins_51 ?_
  refine v_callV (na := 1) (wy := (Cond.code yJ4_append_15ec4 cJ4_append_15ec4 2 (some (.object "java/lang/StringBuilder")) :: wsL_law)) (wc := [(a, .inr (8, [.ref v12, vI 0, vI 0, vI n12])), (v12, .inl ((vG X).2 0, p12, .inl (fI f12)))]) (wr := w) C [.ref ((vG X).1.2 7)] [] (b_str _ _ 7 _ [119, 105, 110, 100, 111, 119, 32] a v12 p12 n12 f12 rfl (by decide +kernel) hk12 (by show n12 + 7 ≤ 500; omega)) rfl (gwV mw_260 mw_406 mw_258 mw_259 mw_217) rfl (by decide +kernel) 0 rfl rfl rfl rfl Sb.rf rfl rfl dL_begins_53 (fun r w1 hp53 => ?_)
  obtain ⟨rfl, v13, p13, n13, f13, rfl, hk13, he13, hn13⟩ := hp53
  have hn13 : n13 = n12 + 7 := hn13
  show V X 13 11204 56 [(3, vI 1), (2, .ref a), (0, .ref (A 0)), (1, .ref ((vG X).1.2 300))] [.ref a] ([(a, .inr (8, [.ref v13, vI 0, vI 0, vI n13])), (v13, .inl ((vG X).2 0, p13, .inl (fI f13)))] ++ w)
  refine v_iload_n C dL_begins_56 rfl 0 rfl ?_
  refine v_callV (na := 1) (wy := (Cond.code yJ4_append_bf812 cJ4_append_bf812 2 (some (.object "java/lang/StringBuilder")) :: wsL_law)) (wc := [(a, .inr (8, [.ref v13, vI 0, vI 0, vI n13])), (v13, .inl ((vG X).2 0, p13, .inl (fI f13)))]) (wr := w) C [vI 1] [] (b_int _ _ a v13 p13 n13 f13 1 hk13 (by omega) (by omega)) rfl (gwV mw_384 mw_381 mw_382 mw_383 mw_217) rfl (by decide +kernel) 0 rfl rfl rfl rfl Sb.rf rfl rfl dL_begins_57 (fun r w1 hp57 => ?_)
  obtain ⟨rfl, v14, p14, n14, f14, rfl, hk14, he14, hn14, hz14⟩ := hp57
  show V X 14 12204 60 [(3, vI 1), (2, .ref a), (0, .ref (A 0)), (1, .ref ((vG X).1.2 300))] [.ref a] ([(a, .inr (8, [.ref v14, vI 0, vI 0, vI n14])), (v14, .inl ((vG X).2 0, p14, .inl (fI f14)))] ++ w)
  refine v_ldcK (i := 5) C rfl dL_begins_60 ?_
  refine v_callV (na := 1) (wy := (Cond.code yJ4_append_15ec4 cJ4_append_15ec4 2 (some (.object "java/lang/StringBuilder")) :: wsL_law)) (wc := [(a, .inr (8, [.ref v14, vI 0, vI 0, vI n14])), (v14, .inl ((vG X).2 0, p14, .inl (fI f14)))]) (wr := w) C [.ref ((vG X).1.2 5)] [] (b_str _ _ 5 _ [32] a v14 p14 n14 f14 rfl (by decide +kernel) hk14 (by show n14 + 1 ≤ 500; omega)) rfl (gwV mw_260 mw_406 mw_258 mw_259 mw_217) rfl (by decide +kernel) 0 rfl rfl rfl rfl Sb.rf rfl rfl dL_begins_62 (fun r w1 hp62 => ?_)
  obtain ⟨rfl, v15, p15, n15, f15, rfl, hk15, he15, hn15⟩ := hp62
  have hn15 : n15 = n14 + 1 := hn15
  show V X 15 13204 65 [(3, vI 1), (2, .ref a), (0, .ref (A 0)), (1, .ref ((vG X).1.2 300))] [.ref a] ([(a, .inr (8, [.ref v15, vI 0, vI 0, vI n15])), (v15, .inl ((vG X).2 0, p15, .inl (fI f15)))] ++ w)
  refine v_iconst C dL_begins_65 ?_
  refine v_aload_n C dL_begins_66 rfl 3 rfl ?_
  refine v_iconst C dL_begins_67 ?_
  refine v_iload_n C dL_begins_68 rfl 0 rfl ?_
  refine v_iadd C dL_begins_69 ?_
  show V X 15 13204 70 [(3, vI 1), (2, .ref a), (0, .ref (A 0)), (1, .ref ((vG X).1.2 300))] [vI 3, .ref ((vG X).1.2 300), vI 1, .ref a] ([(a, .inr (8, [.ref v15, vI 0, vI 0, vI n15])), (v15, .inl ((vG X).2 0, p15, .inl (fI f15)))] ++ w)
  refine v_iconst C dL_begins_70 ?_
  refine v_callS (na := 3) (wy := (Cond.code yL_pick cL_pick 3 (some .int) :: wsL_law)) (wc := []) (wr := [(a, .inr (8, [.ref v15, vI 0, vI 0, vI n15])), (v15, .inl ((vG X).2 0, p15, .inl (fI f15)))] ++ w) C [.ref ((vG X).1.2 300), vI 3, vI 5] [vI 1, .ref a] (c_L_pick _ _ 3 5 (by omega) (by omega) (by omega) (by omega)) rfl (gwS mw_375 mw_373 mw_374 mw_213) (by decide +kernel) rfl rfl Sb.rf rfl rfl dL_begins_71 (fun r w1 hp71 => ?_)
  obtain ⟨⟨x16, rfl, hx16⟩, rfl⟩ := hp71
  show V X 15 13204 74 [(3, vI 1), (2, .ref a), (0, .ref (A 0)), (1, .ref ((vG X).1.2 300))] [vI x16, vI 1, .ref a] ([(a, .inr (8, [.ref v15, vI 0, vI 0, vI n15])), (v15, .inl ((vG X).2 0, p15, .inl (fI f15)))] ++ w)
  refine v_iadd C dL_begins_74 ?_
  refine v_callV (na := 1) (wy := (Cond.code yJ4_append_bf812 cJ4_append_bf812 2 (some (.object "java/lang/StringBuilder")) :: wsL_law)) (wc := [(a, .inr (8, [.ref v15, vI 0, vI 0, vI n15])), (v15, .inl ((vG X).2 0, p15, .inl (fI f15)))]) (wr := w) C [vI (1 + x16)] [] (b_int _ _ a v15 p15 n15 f15 (1 + x16) hk15 (by omega) (by omega)) rfl (gwV mw_384 mw_381 mw_382 mw_383 mw_217) rfl (by decide +kernel) 0 rfl rfl rfl rfl Sb.rf rfl rfl dL_begins_75 (fun r w1 hp75 => ?_)
  obtain ⟨rfl, v17, p17, n17, f17, rfl, hk17, he17, hn17, hz17⟩ := hp75
  show V X 16 14204 78 [(3, vI 1), (2, .ref a), (0, .ref (A 0)), (1, .ref ((vG X).1.2 300))] [.ref a] ([(a, .inr (8, [.ref v17, vI 0, vI 0, vI n17])), (v17, .inl ((vG X).2 0, p17, .inl (fI f17)))] ++ w)
  refine v_ldcK (i := 6) C rfl dL_begins_78 ?_
  refine v_callV (na := 1) (wy := (Cond.code yJ4_append_15ec4 cJ4_append_15ec4 2 (some (.object "java/lang/StringBuilder")) :: wsL_law)) (wc := [(a, .inr (8, [.ref v17, vI 0, vI 0, vI n17])), (v17, .inl ((vG X).2 0, p17, .inl (fI f17)))]) (wr := w) C [.ref ((vG X).1.2 6)] [] (b_str _ _ 6 _ [59] a v17 p17 n17 f17 rfl (by decide +kernel) hk17 (by show n17 + 1 ≤ 500; omega)) rfl (gwV mw_260 mw_406 mw_258 mw_259 mw_217) rfl (by decide +kernel) 0 rfl rfl rfl rfl Sb.rf rfl rfl dL_begins_80 (fun r w1 hp80 => ?_)
  obtain ⟨rfl, v18, p18, n18, f18, rfl, hk18, he18, hn18⟩ := hp80
  have hn18 : n18 = n17 + 1 := hn18
  show V X 17 15204 83 [(3, vI 1), (2, .ref a), (0, .ref (A 0)), (1, .ref ((vG X).1.2 300))] [.ref a] ([(a, .inr (8, [.ref v18, vI 0, vI 0, vI n18])), (v18, .inl ((vG X).2 0, p18, .inl (fI f18)))] ++ w)
  have heW1 : ET f12 n12 f18 n18 ([119, 105, 110, 100, 111, 119] ++ 32 :: (dcL 1 ++ 32 :: (dcL (1 + x16) ++ [59]))) := by
    have x := (ET.trans (by omega) he13 (ET.trans (by omega) he14 (ET.trans (by omega) he15 (ET.trans (by omega) he17 he18))))
    exact x
  have hRw1 := rds_win (k := 1) (c := (1 + x16)) hRw0 (by omega) (by decide) (by omega) rfl heW1
  have hzw1 : szI 1 = 1 := rfl
  refine v_pop C dL_begins_83 rfl ?_
  refine v_iinc C M dL_begins_84 0 rfl (by decide) (z' := 2) rfl (L' := [(3, vI 2), (2, .ref a), (0, .ref (A 0)), (1, .ref ((vG X).1.2 300))]) rfl ?_
  refine v_goto (tgt := 45) C dL_begins_87 (by decide) ?_
  have hRw1 : RDS liI f18 n18 1 1 (TXF 0 0 0 1000) := hRw1
  have hnb : n18 ≤ 40 := by have := szI_in (v := (1 + x1)); omega
  refine v_iload_n C dL_begins_45 rfl 0 rfl ?_
  refine v_iconst C dL_begins_46 ?_
  refine v_icmp_ge (tgt := 90) C dL_begins_47 (by decide) (by decide) (by decide) (fun _ => ?_) (fun c => absurd (by decide) c)
  refine v_iconst C dL_begins_90 ?_
  refine v_istore_n C M dL_begins_91 rfl (by decide) (L' := [(3, vI 0), (2, .ref a), (0, .ref (A 0)), (1, .ref ((vG X).1.2 300))]) rfl ?_
  refine v_iconst C dL_begins_92 ?_
  refine v_istore C M dL_begins_93 (by decide) (L' := [(4, vI 0), (3, vI 0), (2, .ref a), (0, .ref (A 0)), (1, .ref ((vG X).1.2 300))]) rfl ?_
  refine v_iload C dL_begins_95 0 rfl ?_
  refine v_iconst C dL_begins_97 ?_
  refine v_icmp_ge (tgt := 262) C dL_begins_98 (by decide) (by decide) (by decide) (fun c => absurd c (by decide)) (fun _ => ?_)
  refine v_iconst C dL_begins_101 ?_
  refine v_aload_n C dL_begins_102 rfl 4 rfl ?_
  refine v_iconst C dL_begins_103 ?_
  refine v_iload C dL_begins_104 0 rfl ?_
  refine v_iadd C dL_begins_106 ?_
  show V X 17 15204 107 [(4, vI 0), (3, vI 0), (2, .ref a), (0, .ref (A 0)), (1, .ref ((vG X).1.2 300))] [vI 4, .ref ((vG X).1.2 300), vI 1] ([(a, .inr (8, [.ref v18, vI 0, vI 0, vI n18])), (v18, .inl ((vG X).2 0, p18, .inl (fI f18)))] ++ w)
  refine v_iconst C dL_begins_107 ?_
  refine v_callS (na := 3) (wy := (Cond.code yL_pick cL_pick 3 (some .int) :: wsL_law)) (wc := []) (wr := [(a, .inr (8, [.ref v18, vI 0, vI 0, vI n18])), (v18, .inl ((vG X).2 0, p18, .inl (fI f18)))] ++ w) C [.ref ((vG X).1.2 300), vI 4, vI 5] [vI 1] (c_L_pick _ _ 4 5 (by omega) (by omega) (by omega) (by omega)) rfl (gwS mw_375 mw_373 mw_374 mw_213) (by decide +kernel) rfl rfl Sb.rf rfl rfl dL_begins_108 (fun r w1 hp108 => ?_)
  obtain ⟨⟨x19, rfl, hx19⟩, rfl⟩ := hp108
  show V X 17 15204 111 [(4, vI 0), (3, vI 0), (2, .ref a), (0, .ref (A 0)), (1, .ref ((vG X).1.2 300))] [vI x19, vI 1] ([(a, .inr (8, [.ref v18, vI 0, vI 0, vI n18])), (v18, .inl ((vG X).2 0, p18, .inl (fI f18)))] ++ w)
  refine v_iadd C dL_begins_111 ?_
  refine v_istore C M dL_begins_112 (by decide) (L' := [(5, vI (1 + x19)), (4, vI 0), (3, vI 0), (2, .ref a), (0, .ref (A 0)), (1, .ref ((vG X).1.2 300))]) rfl ?_
  refine v_iconst C dL_begins_114 ?_
  refine v_istore C M dL_begins_115 (by decide) (L' := [(6, vI 0), (5, vI (1 + x19)), (4, vI 0), (3, vI 0), (2, .ref a), (0, .ref (A 0)), (1, .ref ((vG X).1.2 300))]) rfl ?_
  refine V.loc (L' := [(0, .ref (A 0)), (1, .ref ((vG X).1.2 300)), (2, .ref a), (3, vI 0), (4, vI 0), (5, vI (1 + x19)), (6, vI 0)]) [5, 6, 4, 3, 2, 1, 0] rfl ?_
  have lpm0 : ∀ (n : Nat) (m0 : Nat) (v : Nat) (p : Nat) (cn : Int) (f : Int → Int) (hk : SBK p cn f) (hm5 : (m0 : Int) ≤ (1 + x19)) (hrd : RDS liI f cn 1 1 (TXF (m0 : Int) 0 0 1000)) (hcn : cn ≤ 40 + 30 * (m0 : Int)) (hm : 8 - (m0 : Int) < (n : Int)), V X (17 + 13 * m0) (15204 + 13000 * m0) 117 [(0, .ref (A 0)), (1, .ref ((vG X).1.2 300)), (2, .ref a), (3, vI 0), (4, vI 0), (5, vI (1 + x19)), (6, vI (m0 : Int))] [] ([(a, .inr (8, [.ref v, vI 0, vI 0, vI cn])), (v, .inl ((vG X).2 0, p, .inl (fI f)))] ++ w) := by
    intro n
    induction n with
    | zero => intro m0 v p cn f hk hm5 hrd hcn hm; exact absurd hm (by omega)
    | succ n ih =>
      intro m0 v p cn f hk hm5 hrd hcn hm
      have hcn0 : 0 ≤ cn := hk.2.1.1
      refine v_iload C dL_begins_117 6 rfl ?_
      refine v_iload C dL_begins_119 5 rfl ?_
      refine v_icmp_ge (tgt := 251) C dL_begins_121 (by decide) (by  first | assumption | exact ⟨by omega, by omega⟩) (by  first | assumption | exact ⟨by omega, by omega⟩) (fun c121 => ?_) (fun c121 => ?_)
      · skip
        have hmE : (m0 : Int) = (1 + x19) := by omega
        rw [hmE] at hrd
        refine V.wid (k' := 82) (n' := 80204) (by omega) (by omega) ?_
        refine V.eq rfl rfl rfl (L' := [(0, .ref (A 0)), (1, .ref ((vG X).1.2 300)), (2, .ref a), (3, vI 0), (4, vI 0), (5, vI (1 + x19)), (6, vI (1 + x19))]) (by rw [hmE]) rfl rfl ?_
        have hcn9 : cn ≤ 190 := by omega
        refine v_iload_n C dL_begins_251 rfl 3 rfl ?_
        refine v_iload C dL_begins_252 5 rfl ?_
        refine v_iadd C dL_begins_254 ?_
        refine v_istore_n C M dL_begins_255 rfl (by decide) (L' := [(3, vI (0 + (1 + x19))), (0, .ref (A 0)), (1, .ref ((vG X).1.2 300)), (2, .ref a), (4, vI 0), (5, vI (1 + x19)), (6, vI (1 + x19))]) rfl ?_
        refine v_iinc C M dL_begins_256 4 rfl (by decide) (z' := 1) rfl (L' := [(4, vI 1), (3, vI (0 + (1 + x19))), (0, .ref (A 0)), (1, .ref ((vG X).1.2 300)), (2, .ref a), (5, vI (1 + x19)), (6, vI (1 + x19))]) rfl ?_
        refine v_goto (tgt := 95) C dL_begins_259 (by decide) ?_
        refine v_iload C dL_begins_95 0 rfl ?_
        refine v_iconst C dL_begins_97 ?_
        refine v_icmp_ge (tgt := 262) C dL_begins_98 (by decide) (by decide) (by decide) (fun c => absurd c (by decide)) (fun _ => ?_)
        refine v_iconst C dL_begins_101 ?_
        refine v_aload_n C dL_begins_102 rfl 3 rfl ?_
        refine v_iconst C dL_begins_103 ?_
        refine v_iload C dL_begins_104 0 rfl ?_
        refine v_iadd C dL_begins_106 ?_
        show V X 82 80204 107 [(4, vI 1), (3, vI (0 + (1 + x19))), (0, .ref (A 0)), (1, .ref ((vG X).1.2 300)), (2, .ref a), (5, vI (1 + x19)), (6, vI (1 + x19))] [vI 5, .ref ((vG X).1.2 300), vI 1] ([(a, .inr (8, [.ref v, vI 0, vI 0, vI cn])), (v, .inl ((vG X).2 0, p, .inl (fI f)))] ++ w)
        refine v_iconst C dL_begins_107 ?_
        refine v_callS (na := 3) (wy := (Cond.code yL_pick cL_pick 3 (some .int) :: wsL_law)) (wc := []) (wr := [(a, .inr (8, [.ref v, vI 0, vI 0, vI cn])), (v, .inl ((vG X).2 0, p, .inl (fI f)))] ++ w) C [.ref ((vG X).1.2 300), vI 5, vI 5] [vI 1] (c_L_pick _ _ 5 5 (by omega) (by omega) (by omega) (by omega)) rfl (gwS mw_375 mw_373 mw_374 mw_213) (by decide +kernel) rfl rfl Sb.rf rfl rfl dL_begins_108 (fun r w1 hp108 => ?_)
        obtain ⟨⟨x20, rfl, hx20⟩, rfl⟩ := hp108
        show V X 82 80204 111 [(4, vI 1), (3, vI (0 + (1 + x19))), (0, .ref (A 0)), (1, .ref ((vG X).1.2 300)), (2, .ref a), (5, vI (1 + x19)), (6, vI (1 + x19))] [vI x20, vI 1] ([(a, .inr (8, [.ref v, vI 0, vI 0, vI cn])), (v, .inl ((vG X).2 0, p, .inl (fI f)))] ++ w)
        refine v_iadd C dL_begins_111 ?_
        refine v_istore C M dL_begins_112 (by decide) (L' := [(5, vI (1 + x20)), (4, vI 1), (3, vI (0 + (1 + x19))), (0, .ref (A 0)), (1, .ref ((vG X).1.2 300)), (2, .ref a), (6, vI (1 + x19))]) rfl ?_
        refine v_iconst C dL_begins_114 ?_
        refine v_istore C M dL_begins_115 (by decide) (L' := [(6, vI 0), (5, vI (1 + x20)), (4, vI 1), (3, vI (0 + (1 + x19))), (0, .ref (A 0)), (1, .ref ((vG X).1.2 300)), (2, .ref a)]) rfl ?_
        refine V.loc (L' := [(0, .ref (A 0)), (1, .ref ((vG X).1.2 300)), (2, .ref a), (3, vI (0 + (1 + x19))), (4, vI 1), (5, vI (1 + x20)), (6, vI 0)]) [4, 5, 6, 3, 2, 1, 0] rfl ?_
        have lpm1 : ∀ (n : Nat) (m1 : Nat) (v : Nat) (p : Nat) (cn : Int) (f : Int → Int) (hk : SBK p cn f) (hm5 : (m1 : Int) ≤ (1 + x20)) (hrd : RDS liI f cn 1 1 (TXF (1 + x19) (m1 : Int) 0 1000)) (hcn : cn ≤ 190 + 30 * (m1 : Int)) (hm : 8 - (m1 : Int) < (n : Int)), V X (82 + 13 * m1) (80204 + 13000 * m1) 117 [(0, .ref (A 0)), (1, .ref ((vG X).1.2 300)), (2, .ref a), (3, vI (0 + (1 + x19))), (4, vI 1), (5, vI (1 + x20)), (6, vI (m1 : Int))] [] ([(a, .inr (8, [.ref v, vI 0, vI 0, vI cn])), (v, .inl ((vG X).2 0, p, .inl (fI f)))] ++ w) := by
          intro n
          induction n with
          | zero => intro m1 v p cn f hk hm5 hrd hcn hm; exact absurd hm (by omega)
          | succ n ih =>
            intro m1 v p cn f hk hm5 hrd hcn hm
            have hcn0 : 0 ≤ cn := hk.2.1.1
            refine v_iload C dL_begins_117 6 rfl ?_
            refine v_iload C dL_begins_119 5 rfl ?_
            refine v_icmp_ge (tgt := 251) C dL_begins_121 (by decide) (by  first | assumption | exact ⟨by omega, by omega⟩) (by  first | assumption | exact ⟨by omega, by omega⟩) (fun c121 => ?_) (fun c121 => ?_)
            · skip
              have hmE : (m1 : Int) = (1 + x20) := by omega
              rw [hmE] at hrd
              refine V.wid (k' := 147) (n' := 145204) (by omega) (by omega) ?_
              refine V.eq rfl rfl rfl (L' := [(0, .ref (A 0)), (1, .ref ((vG X).1.2 300)), (2, .ref a), (3, vI (0 + (1 + x19))), (4, vI 1), (5, vI (1 + x20)), (6, vI (1 + x20))]) (by rw [hmE]) rfl rfl ?_
              have hcn9 : cn ≤ 340 := by omega
              refine v_iload_n C dL_begins_251 rfl 3 rfl ?_
              refine v_iload C dL_begins_252 5 rfl ?_
              refine v_iadd C dL_begins_254 ?_
              refine v_istore_n C M dL_begins_255 rfl (by decide) (L' := [(3, vI ((0 + (1 + x19)) + (1 + x20))), (0, .ref (A 0)), (1, .ref ((vG X).1.2 300)), (2, .ref a), (4, vI 1), (5, vI (1 + x20)), (6, vI (1 + x20))]) rfl ?_
              refine v_iinc C M dL_begins_256 4 rfl (by decide) (z' := 2) rfl (L' := [(4, vI 2), (3, vI ((0 + (1 + x19)) + (1 + x20))), (0, .ref (A 0)), (1, .ref ((vG X).1.2 300)), (2, .ref a), (5, vI (1 + x20)), (6, vI (1 + x20))]) rfl ?_
              refine v_goto (tgt := 95) C dL_begins_259 (by decide) ?_
              refine v_iload C dL_begins_95 0 rfl ?_
              refine v_iconst C dL_begins_97 ?_
              refine v_icmp_ge (tgt := 262) C dL_begins_98 (by decide) (by decide) (by decide) (fun _ => ?_) (fun c => absurd (by decide) c)
              refine v_aload_n C dL_begins_262 rfl 3 rfl ?_
              refine v_bipush C dL_begins_263 (by decide +kernel) ?_
              refine v_iconst C dL_begins_265 ?_
              refine v_callS (na := 3) (wy := (Cond.code yL_pick cL_pick 3 (some .int) :: wsL_law)) (wc := []) (wr := [(a, .inr (8, [.ref v, vI 0, vI 0, vI cn])), (v, .inl ((vG X).2 0, p, .inl (fI f)))] ++ w) C [.ref ((vG X).1.2 300), vI 16, vI 4] [] (c_L_pick _ _ 16 4 (by omega) (by omega) (by omega) (by omega)) rfl (gwS mw_375 mw_373 mw_374 mw_213) (by decide +kernel) rfl rfl Sb.rf rfl rfl dL_begins_266 (fun r w1 hp266 => ?_)
              obtain ⟨⟨x21, rfl, hx21⟩, rfl⟩ := hp266
              show V X 147 145204 269 [(4, vI 2), (3, vI ((0 + (1 + x19)) + (1 + x20))), (0, .ref (A 0)), (1, .ref ((vG X).1.2 300)), (2, .ref a), (5, vI (1 + x20)), (6, vI (1 + x20))] [vI x21] ([(a, .inr (8, [.ref v, vI 0, vI 0, vI cn])), (v, .inl ((vG X).2 0, p, .inl (fI f)))] ++ w)
              refine v_istore C M dL_begins_269 (by decide) (L' := [(4, vI x21), (3, vI ((0 + (1 + x19)) + (1 + x20))), (0, .ref (A 0)), (1, .ref ((vG X).1.2 300)), (2, .ref a), (5, vI (1 + x20)), (6, vI (1 + x20))]) rfl ?_
              refine V.loc (L' := [(0, .ref (A 0)), (1, .ref ((vG X).1.2 300)), (2, .ref a), (3, vI ((0 + (1 + x19)) + (1 + x20))), (4, vI x21)]) [2, 3, 4, 1, 0] rfl ?_
              have lpt : ∀ (n : Nat) (t : Nat) (v : Nat) (p : Nat) (cn : Int) (f : Int → Int) (hk : SBK p cn f) (ht3 : (t : Int) ≤ x21) (hrd : ∃ ls tb : Int, ls = (t : Int) ∧ 7 * (x21 - (t : Int)) + 7 ≤ tb ∧ RDS liI f cn 1 1 (TXF (1 + x19) (1 + x20) ls tb)) (hcn : cn ≤ 340 + 8 * (t : Int)) (hm : 8 - (t : Int) < (n : Int)), V X (147 + 3 * t) (145204 + 3000 * t) 271 [(0, .ref (A 0)), (1, .ref ((vG X).1.2 300)), (2, .ref a), (3, vI ((0 + (1 + x19)) + (1 + x20))), (4, vI (x21 - (t : Int)))] [] ([(a, .inr (8, [.ref v, vI 0, vI 0, vI cn])), (v, .inl ((vG X).2 0, p, .inl (fI f)))] ++ w) := by
                intro n
                induction n with
                | zero => intro t v p cn f hk ht3 hrd hcn hm; exact absurd hm (by omega)
                | succ n ih =>
                  intro t v p cn f hk ht3 hrd hcn hm
                  have hcn0 : 0 ≤ cn := hk.2.1.1
                  obtain ⟨ls, tb, hls, htb, hrd⟩ := hrd
                  refine v_iload C dL_begins_271 4 rfl ?_
                  refine v_if_le (tgt := 314) C dL_begins_273 (by decide) (by  first | assumption | exact ⟨by omega, by omega⟩) (fun c273 => ?_) (fun c273 => ?_)
                  · skip
                    refine V.wid (k' := 156) (n' := 154204) (by omega) (by omega) ?_
                    have htE : (t : Int) = x21 := by omega
                    have hcn9 : cn ≤ 364 := by omega
                    refine v_aload_n C dL_begins_314 rfl 2 rfl ?_
                    refine v_callV (na := 0) (wy := (Cond.code yJ4_length_8abf5 cJ4_length_8abf5 1 (some .int) :: wsL_law)) (wc := [(a, .inr (8, [.ref v, vI 0, vI 0, vI cn])), (v, .inl ((vG X).2 0, p, .inl (fI f)))]) (wr := w) C [] [] (c_J4_length_8abf5 _ _ a v p cn f) rfl (gwV mw_410 mw_407 mw_408 mw_409 mw_217) rfl (by decide +kernel) 0 rfl rfl rfl rfl Sb.rf rfl rfl dL_begins_315 (fun r w1 hp315 => ?_)
                    obtain ⟨rfl, rfl⟩ := hp315
                    show V X 156 154204 318 [(0, .ref (A 0)), (1, .ref ((vG X).1.2 300)), (2, .ref a), (3, vI ((0 + (1 + x19)) + (1 + x20))), (4, vI (x21 - (t : Int)))] [vI cn] ([(a, .inr (8, [.ref v, vI 0, vI 0, vI cn])), (v, .inl ((vG X).2 0, p, .inl (fI f)))] ++ w)
                    refine v_istore C M dL_begins_318 (by decide) (L' := [(4, vI cn), (0, .ref (A 0)), (1, .ref ((vG X).1.2 300)), (2, .ref a), (3, vI ((0 + (1 + x19)) + (1 + x20)))]) rfl ?_
                    refine v_iconst C dL_begins_320 ?_
                    refine v_istore C M dL_begins_321 (by decide) (L' := [(5, vI 0), (4, vI cn), (0, .ref (A 0)), (1, .ref ((vG X).1.2 300)), (2, .ref a), (3, vI ((0 + (1 + x19)) + (1 + x20)))]) rfl ?_
                    refine V.loc (L' := [(0, .ref (A 0)), (1, .ref ((vG X).1.2 300)), (2, .ref a), (3, vI ((0 + (1 + x19)) + (1 + x20))), (4, vI cn), (5, vI 0)]) [2, 3, 4, 5, 1, 0] rfl ?_
                    have lpi : ∀ (n : Nat) (i : Nat) (wi : va_W) (bu : Int → Int) (hwi : tlX (vG X) A B (20 * (i : Int)) bu F K wi) (hbB : sB 1000 bu) (hag : ∀ j : Int, 0 ≤ j → j < 20 * (i : Int) → j < cn → bu j = f j) (hi : 20 * (i : Int) < cn + 20) (hm : 40 - (i : Int) < (n : Int)), V X (156 + 1 * i) (154204 + 5 * i) 323 [(0, .ref (A 0)), (1, .ref ((vG X).1.2 300)), (2, .ref a), (3, vI ((0 + (1 + x19)) + (1 + x20))), (4, vI cn), (5, vI (20 * (i : Int)))] [] ([(a, .inr (8, [.ref v, vI 0, vI 0, vI cn])), (v, .inl ((vG X).2 0, p, .inl (fI f)))] ++ wi) := by
                      intro n
                      induction n with
                      | zero => intro i wi bu hwi hbB hag hi hm; exact absurd hm (by omega)
                      | succ n ih =>
                        intro i wi bu hwi hbB hag hi hm
                        refine v_iload C dL_begins_323 5 rfl ?_
                        refine v_iload C dL_begins_325 4 rfl ?_
                        refine v_icmp_ge (tgt := 424) C dL_begins_327 (by decide) (by  first | assumption | exact ⟨by omega, by omega⟩) (by  first | assumption | exact ⟨by omega, by omega⟩) (fun c327 => ?_) (fun c327 => ?_)
                        · skip
                          refine V.wid (k' := 186) (n' := 154404) (by omega) (by omega) ?_
                          refine v_aload_n C dL_begins_424 rfl 0 rfl ?_
                          refine v_iload C dL_begins_425 4 rfl ?_
                          refine v_callV (na := 1) (wy := (Cond.code yX7_parse cX7_parse 3 (some .int) :: wsL_law)) (wc := wi) (wr := [(a, .inr (8, [.ref v, vI 0, vI 0, vI cn])), (v, .inl ((vG X).2 0, p, .inl (fI f)))]) C [vI cn] [] (j_parse (f := f) (n := cn) (m0 := (1 + x19)) (m1 := (1 + x20)) hst hwi hrd (by have := hk.2.1; omega) (by omega) (by omega) hbB (fun j h0 h1 => hag j h0 (by omega) h1)) rfl (gwV mw_449 mw_446 mw_447 mw_448 mw_2) rfl (by decide +kernel) 0 hwi.at0 rfl rfl rfl (Sb.bl [1, 0] 2 fl2 fl2 rfl rfl (by decide +kernel)) rfl rfl dL_begins_427 (fun r w9 hp427 => ?_)
                          obtain ⟨rfl, F2, K2, hF2, hI2⟩ := hp427
                          show V X 187 154410 430 [(0, .ref (A 0)), (1, .ref ((vG X).1.2 300)), (2, .ref a), (3, vI ((0 + (1 + x19)) + (1 + x20))), (4, vI cn), (5, vI (20 * (i : Int)))] [vI ((1 + x19) + (1 + x20))] (w9 ++ [(a, .inr (8, [.ref v, vI 0, vI 0, vI cn])), (v, .inl ((vG X).2 0, p, .inl (fI f)))])
                          refine v_iload_n C dL_begins_430 rfl 3 rfl ?_
                          refine v_icmp_ne (tgt := 438) C dL_begins_431 (by decide) ⟨by omega, by omega⟩ ⟨by omega, by omega⟩ (fun c => absurd (by omega) c) (fun _ => ?_)
                          refine v_iconst C dL_begins_434 ?_
                          refine v_goto (tgt := 439) C dL_begins_435 (by decide) ?_
                          refine V.sb (ws' := w9) (Sb.dropr) ?_
                          refine V.wid (k' := 400) (n' := 400000) (by decide) (by decide) ?_
                          exact v_zret C E rfl rfl dL_begins_439 (by decide) (by decide) ⟨rfl, F2, K2, hF2, hI2⟩
                        · skip
                          refine v_iconst C dL_begins_330 ?_
                          refine v_newI C (List.mem_cons_of_mem _ mw_51) (by decide) (by decide) (N' := 5) rfl rfl (Nat.ble_eq_true_of_le (by omega)) (Nat.ble_eq_true_of_le (by omega)) dL_begins_331 (fun q => ?_)
                          refine V.sb (ws' := [(q, .inl ((vG X).2 1, 5, .inl (fI (fun _ => 0))))] ++ [(a, .inr (8, [.ref v, vI 0, vI 0, vI cn])), (v, .inl ((vG X).2 0, p, .inl (fI f)))] ++ wi) (Sb.bl [2, 0, 1] 3 fl3 fl3 rfl rfl (by decide +kernel)) ?_
                          show V X (156 + 1 * i + 1) (154204 + 5 * i + 5) 333 [(0, .ref (A 0)), (1, .ref ((vG X).1.2 300)), (2, .ref a), (3, vI ((0 + (1 + x19)) + (1 + x20))), (4, vI cn), (5, vI (20 * (i : Int)))] [.ref q] ([(q, .inl ((vG X).2 1, 5, .inl (fI (fun _ => 0))))] ++ [(a, .inr (8, [.ref v, vI 0, vI 0, vI cn])), (v, .inl ((vG X).2 0, p, .inl (fI f)))] ++ wi)
                          refine v_astore C M dL_begins_333 (by decide) (L' := [(6, .ref q), (0, .ref (A 0)), (1, .ref ((vG X).1.2 300)), (2, .ref a), (3, vI ((0 + (1 + x19)) + (1 + x20))), (4, vI cn), (5, vI (20 * (i : Int)))]) rfl ?_
                          refine v_iconst C dL_begins_335 ?_
                          refine v_istore C M dL_begins_336 (by decide) (L' := [(7, vI 0), (6, .ref q), (0, .ref (A 0)), (1, .ref ((vG X).1.2 300)), (2, .ref a), (3, vI ((0 + (1 + x19)) + (1 + x20))), (4, vI cn), (5, vI (20 * (i : Int)))]) rfl ?_
                          refine V.loc (L' := [(0, .ref (A 0)), (1, .ref ((vG X).1.2 300)), (2, .ref a), (3, vI ((0 + (1 + x19)) + (1 + x20))), (4, vI cn), (5, vI (20 * (i : Int))), (6, .ref q), (7, vI 0)]) [2, 3, 4, 5, 6, 7, 1, 0] rfl ?_
                          have hkf := hk
                          obtain ⟨Tx, hTx⟩ : ∃ Tx : Int → Int, Tx = fun j => if 20 * (i : Int) + j < cn then f (20 * (i : Int) + j) else 32 := ⟨_, rfl⟩
                          have hT8 : ∀ j, 0 ≤ Tx j ∧ Tx j < 128 := fun j => by rw [hTx]; show 0 ≤ (if 20 * (i : Int) + j < cn then f (20 * (i : Int) + j) else 32) ∧ (if 20 * (i : Int) + j < cn then f (20 * (i : Int) + j) else 32) < 128; have := hk.2.2 (20 * (i : Int) + j); split <;> omega
                          have iho := ih
                          have lps : ∀ (n : Nat) (s : Nat) (g : Int → Int) (hs : (s : Int) ≤ 20) (hg : ∀ q : Int, 0 ≤ q → q < 5 → g q = pvP Tx q (s : Int)) (hm : 20 - (s : Int) < (n : Int)), V X (156 + 1 * i + 1) (154204 + 5 * i + 5) 338 [(0, .ref (A 0)), (1, .ref ((vG X).1.2 300)), (2, .ref a), (3, vI ((0 + (1 + x19)) + (1 + x20))), (4, vI cn), (5, vI (20 * (i : Int))), (6, .ref q), (7, vI (s : Int))] [] ([(q, .inl ((vG X).2 1, 5, .inl (fI g)))] ++ [(a, .inr (8, [.ref v, vI 0, vI 0, vI cn])), (v, .inl ((vG X).2 0, p, .inl (fI f)))] ++ wi) := by
                            intro n
                            induction n with
                            | zero => intro s g hs hg hm; exact absurd hm (by omega)
                            | succ n ih =>
                              intro s g hs hg hm
                              refine v_iload C dL_begins_338 7 rfl ?_
                              refine v_bipush C dL_begins_340 (by decide +kernel) ?_
                              refine v_icmp_ge (tgt := 393) C dL_begins_342 (by decide) (by  first | assumption | exact ⟨by omega, by omega⟩) (by decide) (fun c342 => ?_) (fun c342 => ?_)
                              · skip
                                have hs20 : (s : Int) = 20 := by omega
                                have hg9 : ∀ q : Int, 0 ≤ q → q < 5 → g q = pv Tx q := fun q h0 h1 => by rw [hg q h0 h1, hs20]; exact pvP_20 h0 h1
                                refine v_aload_n C dL_begins_393 rfl 0 rfl ?_
                                refine v_aload C dL_begins_394 6 rfl ?_
                                refine v_iconst C dL_begins_396 ?_
                                refine v_iald C 0 rfl (by decide) (by decide) (by decide) dL_begins_397 ?_
                                refine v_aload C dL_begins_398 6 rfl ?_
                                refine v_iconst C dL_begins_400 ?_
                                refine v_iald C 0 rfl (by decide) (by decide) (by decide) dL_begins_401 ?_
                                refine v_aload C dL_begins_402 6 rfl ?_
                                refine v_iconst C dL_begins_404 ?_
                                refine v_iald C 0 rfl (by decide) (by decide) (by decide) dL_begins_405 ?_
                                refine v_aload C dL_begins_406 6 rfl ?_
                                refine v_iconst C dL_begins_408 ?_
                                refine v_iald C 0 rfl (by decide) (by decide) (by decide) dL_begins_409 ?_
                                refine v_aload C dL_begins_410 6 rfl ?_
                                refine v_iconst C dL_begins_412 ?_
                                refine v_iald C 0 rfl (by decide) (by decide) (by decide) dL_begins_413 ?_
                                refine v_callV (na := 5) (wy := (Cond.code yX7_append cX7_append 6 (some .int) :: wsL_law)) (wc := wi) (wr := [(q, .inl ((vG X).2 1, 5, .inl (fI g)))] ++ [(a, .inr (8, [.ref v, vI 0, vI 0, vI cn])), (v, .inl ((vG X).2 0, p, .inl (fI f)))]) C [vI ( g 0), vI ( g 1), vI ( g 2), vI ( g 3), vI ( g 4)] [] (j_append (T := Tx) hst hwi ⟨by omega, by omega⟩ (hg9 0 (by decide) (by decide)) (hg9 1 (by decide) (by decide)) (hg9 2 (by decide) (by decide)) (hg9 3 (by decide) (by decide)) (hg9 4 (by decide) (by decide))) rfl (gwV mw_436 mw_433 mw_434 mw_435 mw_2) rfl (by decide +kernel) 0 hwi.at0 rfl (hR_k rfl rfl (by omega) (by omega)) rfl (Sb.bl [2, 0, 1] 3 fl3 (fl_app fl1 fl2) rfl rfl (by decide +kernel)) rfl rfl dL_begins_414 (fun r w8 hp414 => ?_)
                                obtain ⟨z9, rfl, hw8⟩ := hp414
                                refine V.sb (ws' := [(a, .inr (8, [.ref v, vI 0, vI 0, vI cn])), (v, .inl ((vG X).2 0, p, .inl (fI f)))] ++ w8) (Sb.bl3d) ?_
                                show V X (156 + 1 * i + 1) (154204 + 5 * i + 5) 417 [(0, .ref (A 0)), (1, .ref ((vG X).1.2 300)), (2, .ref a), (3, vI ((0 + (1 + x19)) + (1 + x20))), (4, vI cn), (5, vI (20 * (i : Int))), (6, .ref q), (7, vI (s : Int))] [vI z9] ([(a, .inr (8, [.ref v, vI 0, vI 0, vI cn])), (v, .inl ((vG X).2 0, p, .inl (fI f)))] ++ w8)
                                refine v_pop C dL_begins_417 rfl ?_
                                refine v_iinc C M dL_begins_418 5 rfl (by decide) (z' := ((20 * (i : Int)) + 20)) rfl (L' := [(5, vI ((20 * (i : Int)) + 20)), (0, .ref (A 0)), (1, .ref ((vG X).1.2 300)), (2, .ref a), (3, vI ((0 + (1 + x19)) + (1 + x20))), (4, vI cn), (6, .ref q), (7, vI (s : Int))]) rfl ?_
                                refine v_goto (tgt := 323) C dL_begins_421 (by decide) ?_
                                refine V.loc (L' := [(0, .ref (A 0)), (1, .ref ((vG X).1.2 300)), (2, .ref a), (3, vI ((0 + (1 + x19)) + (1 + x20))), (4, vI cn), (5, vI ((20 * (i : Int)) + 20))]) [1, 2, 3, 4, 5, 0] rfl ?_
                                refine V.wid (k' := (156 + 1 * (i + 1))) (n' := (154204 + 5 * (i + 1))) (by omega) (by omega) ?_
                                refine V.eq rfl rfl rfl (L' := [(0, .ref (A 0)), (1, .ref ((vG X).1.2 300)), (2, .ref a), (3, vI ((0 + (1 + x19)) + (1 + x20))), (4, vI cn), (5, vI (20 * ((i + 1 : Nat) : Int)))]) (by rw [show 20 * ((i + 1 : Nat) : Int) = 20 * (i : Int) + 20 by omega]) rfl rfl ?_
                                refine iho (i + 1) w8 (bu20 (20 * (i : Int)) bu Tx) (by rw [show 20 * ((i + 1 : Nat) : Int) = 20 * (i : Int) + 20 by omega]; exact hw8) (bu20_B hbB) (fun j h0 h1 h2 => ?_) (by omega) (by omega)
                                by_cases hjl : j < 20 * (i : Int)
                                · rw [bu20_lo hjl]; exact hag j h0 hjl h2
                                · have x := bu20_in (c := 20 * (i : Int)) (bu := bu) (j := j - 20 * (i : Int)) hT8 (by omega) (by omega)
                                  rw [show 20 * (i : Int) + (j - 20 * (i : Int)) = j by omega] at x
                                  rw [x, hTx]
                                  show (if 20 * (i : Int) + (j - 20 * (i : Int)) < cn then f (20 * (i : Int) + (j - 20 * (i : Int))) else 32) = f j
                                  rw [show 20 * (i : Int) + (j - 20 * (i : Int)) = j by omega, if_pos h2]
                              · skip
                                have hsl : (s : Int) < 20 := by omega
                                have hq4 : 0 ≤ (s : Int) / 4 ∧ (s : Int) / 4 < 5 := ⟨by omega, by omega⟩
                                have hpb := pvP_in hT8 (q := (s : Int) / 4) (s := (s : Int)) hq4.1 (by omega)
                                refine v_aload C dL_begins_345 6 rfl ?_
                                refine v_iload C dL_begins_347 7 rfl ?_
                                refine v_iconst C dL_begins_349 ?_
                                refine v_idiv (z := (s : Int) / 4) C dL_begins_350 (iI_n0 (by decide) (by decide)) (iI_div (by omega) (by omega) (by decide) (by decide)) ?_
                                refine v_aload C dL_begins_351 6 rfl ?_
                                refine v_iload C dL_begins_353 7 rfl ?_
                                refine v_iconst C dL_begins_355 ?_
                                refine v_idiv (z := (s : Int) / 4) C dL_begins_356 (iI_n0 (by decide) (by decide)) (iI_div (by omega) (by omega) (by decide) (by decide)) ?_
                                refine v_iald C 0 rfl (show (0 : Int) ≤ (s : Int) / 4 from hq4.1) (show (s : Int) / 4 < 5 from hq4.2) (by decide) dL_begins_357 ?_
                                rw [hg ((s : Int) / 4) hq4.1 hq4.2]
                                show V X (156 + 1 * i + 1) (154204 + 5 * i + 5) 358 [(0, .ref (A 0)), (1, .ref ((vG X).1.2 300)), (2, .ref a), (3, vI ((0 + (1 + x19)) + (1 + x20))), (4, vI cn), (5, vI (20 * (i : Int))), (6, .ref q), (7, vI (s : Int))] [vI (pvP Tx ((s : Int) / 4) (s : Int)), vI ((s : Int) / 4), .ref q] ([(q, .inl ((vG X).2 1, 5, .inl (fI g)))] ++ [(a, .inr (8, [.ref v, vI 0, vI 0, vI cn])), (v, .inl ((vG X).2 0, p, .inl (fI f)))] ++ wi)
                                refine v_bipush C dL_begins_358 (by decide +kernel) ?_
                                refine v_ishl C dL_begins_360 (shl8 hpb.1 hpb.2) ?_
                                refine v_iload C dL_begins_361 5 rfl ?_
                                refine v_iload C dL_begins_363 7 rfl ?_
                                refine v_iadd C dL_begins_365 ?_
                                refine v_iload C dL_begins_366 4 rfl ?_
                                refine v_icmp_ge (tgt := 383) C dL_begins_368 (by decide) (by  first | assumption | exact ⟨by omega, by omega⟩) (by  first | assumption | exact ⟨by omega, by omega⟩) (fun c368 => ?_) (fun c368 => ?_)
                                · skip
                                  have hsp : Tx (s : Int) = 32 := by rw [hTx]; exact if_neg (by omega)
                                  refine v_bipush C dL_begins_383 (by decide +kernel) ?_
                                  rw [← hsp]
                                  show V X (156 + 1 * i + 1) (154204 + 5 * i + 5) 385 [(0, .ref (A 0)), (1, .ref ((vG X).1.2 300)), (2, .ref a), (3, vI ((0 + (1 + x19)) + (1 + x20))), (4, vI cn), (5, vI (20 * (i : Int))), (6, .ref q), (7, vI (s : Int))] [vI (Tx (s : Int)), vI ((pvP Tx ((s : Int) / 4) (s : Int)) * 256), vI ((s : Int) / 4), .ref q] ([(q, .inl ((vG X).2 1, 5, .inl (fI g)))] ++ [(a, .inr (8, [.ref v, vI 0, vI 0, vI cn])), (v, .inl ((vG X).2 0, p, .inl (fI f)))] ++ wi)
                                  refine v_ior C dL_begins_385 (or8 hpb.1 hpb.2 (by have := hT8 (s : Int); exact ⟨this.1, by omega⟩)) ?_
                                  refine v_iast C 0 rfl (show (0 : Int) ≤ (s : Int) / 4 from hq4.1) (show (s : Int) / 4 < 5 from hq4.2) (by decide) dL_begins_386 (ws' := [(q, .inl ((vG X).2 1, 5, .inl (fI (up g ((s : Int) / 4) ((pvP Tx ((s : Int) / 4) (s : Int)) * 256 + Tx (s : Int))))))] ++ [(a, .inr (8, [.ref v, vI 0, vI 0, vI cn])), (v, .inl ((vG X).2 0, p, .inl (fI f)))] ++ wi) rfl ?_
                                  refine v_iinc C M dL_begins_387 7 rfl (by decide) (z' := ((s : Int) + 1)) rfl (L' := [(7, vI ((s : Int) + 1)), (0, .ref (A 0)), (1, .ref ((vG X).1.2 300)), (2, .ref a), (3, vI ((0 + (1 + x19)) + (1 + x20))), (4, vI cn), (5, vI (20 * (i : Int))), (6, .ref q)]) rfl ?_
                                  refine v_goto (tgt := 338) C dL_begins_390 (by decide) ?_
                                  refine V.loc (L' := [(0, .ref (A 0)), (1, .ref ((vG X).1.2 300)), (2, .ref a), (3, vI ((0 + (1 + x19)) + (1 + x20))), (4, vI cn), (5, vI (20 * (i : Int))), (6, .ref q), (7, vI ((s : Int) + 1))]) [1, 2, 3, 4, 5, 6, 7, 0] rfl ?_
                                  refine V.eq rfl rfl rfl (L' := [(0, .ref (A 0)), (1, .ref ((vG X).1.2 300)), (2, .ref a), (3, vI ((0 + (1 + x19)) + (1 + x20))), (4, vI cn), (5, vI (20 * (i : Int))), (6, .ref q), (7, vI ((s + 1 : Nat) : Int))]) (by rw [show ((s + 1 : Nat) : Int) = (s : Int) + 1 by omega]) rfl rfl ?_
                                  exact ih (s + 1) (up g ((s : Int) / 4) ((pvP Tx ((s : Int) / 4) (s : Int)) * 256 + Tx (s : Int))) (by omega) (fun q h0 h1 => by rw [show ((s + 1 : Nat) : Int) = (s : Int) + 1 by omega]; by_cases hq : q = (s : Int) / 4; rw [hq, up_s]; exact (pvP_s (by omega)).symm; rw [up_n hq, hg q h0 h1]; exact (pvP_o h0 hq (by omega)).symm) (by omega)
                                · skip
                                  have hsp : Tx (s : Int) = f (20 * (i : Int) + (s : Int)) := by rw [hTx]; exact if_pos (by omega)
                                  refine v_aload_n C dL_begins_371 rfl 2 rfl ?_
                                  refine v_iload C dL_begins_372 5 rfl ?_
                                  refine v_iload C dL_begins_374 7 rfl ?_
                                  refine v_iadd C dL_begins_376 ?_
                                  refine v_callV (na := 1) (wy := (Cond.code yJ4_charAt_5068e cJ4_charAt_5068e 2 (some .char) :: wsL_law)) (wc := [(a, .inr (8, [.ref v, vI 0, vI 0, vI cn])), (v, .inl ((vG X).2 0, p, .inl (fI f)))]) (wr := [(q, .inl ((vG X).2 1, 5, .inl (fI g)))] ++ wi) C [vI ((20 * (i : Int)) + (s : Int))] [vI ((pvP Tx ((s : Int) / 4) (s : Int)) * 256), vI ((s : Int) / 4), .ref q] (c_J4_charAt_5068e _ _ a v p cn f ((20 * (i : Int)) + (s : Int)) hk.1 hk.2.1 hk.2.2 (by omega) (by omega)) rfl (gwV mw_418 mw_415 mw_416 mw_417 mw_217) rfl (by decide +kernel) 0 rfl rfl (hR_k rfl rfl (by omega) (by omega)) rfl (Sb.bl [1, 0, 2] 3 fl3 (fl_app fl1 fl2) rfl rfl (by decide +kernel)) rfl rfl dL_begins_377 (fun r w1 hp377 => ?_)
                                  obtain ⟨rfl, rfl⟩ := hp377
                                  refine V.sb (ws' := [(q, .inl ((vG X).2 1, 5, .inl (fI g)))] ++ [(a, .inr (8, [.ref v, vI 0, vI 0, vI cn])), (v, .inl ((vG X).2 0, p, .inl (fI f)))] ++ wi) (Sb.bl [1, 0, 2] 3 (fl_app fl1 fl2) fl3 rfl rfl (by decide +kernel)) ?_
                                  show V X (156 + 1 * i + 1) (154204 + 5 * i + 5) 380 [(0, .ref (A 0)), (1, .ref ((vG X).1.2 300)), (2, .ref a), (3, vI ((0 + (1 + x19)) + (1 + x20))), (4, vI cn), (5, vI (20 * (i : Int))), (6, .ref q), (7, vI (s : Int))] [vI (f ((20 * (i : Int)) + (s : Int))), vI ((pvP Tx ((s : Int) / 4) (s : Int)) * 256), vI ((s : Int) / 4), .ref q] ([(q, .inl ((vG X).2 1, 5, .inl (fI g)))] ++ [(a, .inr (8, [.ref v, vI 0, vI 0, vI cn])), (v, .inl ((vG X).2 0, p, .inl (fI f)))] ++ wi)
                                  refine v_goto (tgt := 385) C dL_begins_380 (by decide) ?_
                                  rw [show f ((20 * (i : Int)) + (s : Int)) = Tx (s : Int) from hsp.symm]
                                  show V X (156 + 1 * i + 1) (154204 + 5 * i + 5) 385 [(0, .ref (A 0)), (1, .ref ((vG X).1.2 300)), (2, .ref a), (3, vI ((0 + (1 + x19)) + (1 + x20))), (4, vI cn), (5, vI (20 * (i : Int))), (6, .ref q), (7, vI (s : Int))] [vI (Tx (s : Int)), vI ((pvP Tx ((s : Int) / 4) (s : Int)) * 256), vI ((s : Int) / 4), .ref q] ([(q, .inl ((vG X).2 1, 5, .inl (fI g)))] ++ [(a, .inr (8, [.ref v, vI 0, vI 0, vI cn])), (v, .inl ((vG X).2 0, p, .inl (fI f)))] ++ wi)
                                  refine v_ior C dL_begins_385 (or8 hpb.1 hpb.2 (by have := hT8 (s : Int); exact ⟨this.1, by omega⟩)) ?_
                                  refine v_iast C 0 rfl (show (0 : Int) ≤ (s : Int) / 4 from hq4.1) (show (s : Int) / 4 < 5 from hq4.2) (by decide) dL_begins_386 (ws' := [(q, .inl ((vG X).2 1, 5, .inl (fI (up g ((s : Int) / 4) ((pvP Tx ((s : Int) / 4) (s : Int)) * 256 + Tx (s : Int))))))] ++ [(a, .inr (8, [.ref v, vI 0, vI 0, vI cn])), (v, .inl ((vG X).2 0, p, .inl (fI f)))] ++ wi) rfl ?_
                                  refine v_iinc C M dL_begins_387 7 rfl (by decide) (z' := ((s : Int) + 1)) rfl (L' := [(7, vI ((s : Int) + 1)), (0, .ref (A 0)), (1, .ref ((vG X).1.2 300)), (2, .ref a), (3, vI ((0 + (1 + x19)) + (1 + x20))), (4, vI cn), (5, vI (20 * (i : Int))), (6, .ref q)]) rfl ?_
                                  refine v_goto (tgt := 338) C dL_begins_390 (by decide) ?_
                                  refine V.loc (L' := [(0, .ref (A 0)), (1, .ref ((vG X).1.2 300)), (2, .ref a), (3, vI ((0 + (1 + x19)) + (1 + x20))), (4, vI cn), (5, vI (20 * (i : Int))), (6, .ref q), (7, vI ((s : Int) + 1))]) [1, 2, 3, 4, 5, 6, 7, 0] rfl ?_
                                  refine V.eq rfl rfl rfl (L' := [(0, .ref (A 0)), (1, .ref ((vG X).1.2 300)), (2, .ref a), (3, vI ((0 + (1 + x19)) + (1 + x20))), (4, vI cn), (5, vI (20 * (i : Int))), (6, .ref q), (7, vI ((s + 1 : Nat) : Int))]) (by rw [show ((s + 1 : Nat) : Int) = (s : Int) + 1 by omega]) rfl rfl ?_
                                  exact ih (s + 1) (up g ((s : Int) / 4) ((pvP Tx ((s : Int) / 4) (s : Int)) * 256 + Tx (s : Int))) (by omega) (fun q h0 h1 => by rw [show ((s + 1 : Nat) : Int) = (s : Int) + 1 by omega]; by_cases hq : q = (s : Int) / 4; rw [hq, up_s]; exact (pvP_s (by omega)).symm; rw [up_n hq, hg q h0 h1]; exact (pvP_o h0 hq (by omega)).symm) (by omega)
                          exact lps 21 0 (fun _ => 0) (by omega) (fun q h0 h1 => (pvP_0 h0).symm) (by omega)
                    exact lpi 41 0 w (fun _ => 0) (show tlX (vG X) A B (20 * ((0 : Nat) : Int)) (fun _ => 0) F K w from hw) (fun _ => (show -1000 < (0 : Int) ∧ (0 : Int) < 1000 by decide)) (fun j h0 h1 _ => absurd h1 (by omega)) (by have := hk.2.1; omega) (by omega)
                  · skip
                    refine v_aload_n C dL_begins_276 rfl 2 rfl ?_
                    refine v_ldcK (i := 9) C rfl dL_begins_277 ?_
                    refine v_callV (na := 1) (wy := (Cond.code yJ4_append_15ec4 cJ4_append_15ec4 2 (some (.object "java/lang/StringBuilder")) :: wsL_law)) (wc := [(a, .inr (8, [.ref v, vI 0, vI 0, vI cn])), (v, .inl ((vG X).2 0, p, .inl (fI f)))]) (wr := w) C [.ref ((vG X).1.2 9)] [] (b_str _ _ 9 _ [108, 111, 115, 101, 32] a v p cn f rfl (by decide +kernel) hk (by show cn + 5 ≤ 500; omega)) rfl (gwV mw_260 mw_406 mw_258 mw_259 mw_217) rfl (by decide +kernel) 0 rfl rfl (hR_k rfl rfl (by omega) (by omega)) rfl Sb.rf rfl rfl dL_begins_279 (fun r w1 hp279 => ?_)
                    obtain ⟨rfl, v22, p22, n22, f22, rfl, hk22, he22, hn22⟩ := hp279
                    have hn22 : n22 = cn + 5 := hn22
                    show V X ((147 + 3 * t) + 1) ((145204 + 3000 * t) + 1000) 282 [(0, .ref (A 0)), (1, .ref ((vG X).1.2 300)), (2, .ref a), (3, vI ((0 + (1 + x19)) + (1 + x20))), (4, vI (x21 - (t : Int)))] [.ref a] ([(a, .inr (8, [.ref v22, vI 0, vI 0, vI n22])), (v22, .inl ((vG X).2 0, p22, .inl (fI f22)))] ++ w)
                    refine v_bipush C dL_begins_282 (by decide +kernel) ?_
                    refine v_iload C dL_begins_284 4 rfl ?_
                    refine v_imul C dL_begins_286 ?_
                    refine v_aload_n C dL_begins_287 rfl 1 rfl ?_
                    refine v_bipush C dL_begins_288 (by decide +kernel) ?_
                    refine v_iload C dL_begins_290 4 rfl ?_
                    refine v_iadd C dL_begins_292 ?_
                    refine v_bipush C dL_begins_293 (by decide +kernel) ?_
                    refine v_callS (na := 3) (wy := (Cond.code yL_pick cL_pick 3 (some .int) :: wsL_law)) (wc := []) (wr := [(a, .inr (8, [.ref v22, vI 0, vI 0, vI n22])), (v22, .inl ((vG X).2 0, p22, .inl (fI f22)))] ++ w) C [.ref ((vG X).1.2 300), vI (80 + (x21 - (t : Int))), vI 7] [vI (7 * (x21 - (t : Int))), .ref a] (c_L_pick _ _ (80 + (x21 - (t : Int))) 7 (by omega) (by omega) (by omega) (by omega)) rfl (gwS mw_375 mw_373 mw_374 mw_213) (by decide +kernel) (hR_k rfl rfl (by omega) (by omega)) rfl Sb.rf rfl rfl dL_begins_295 (fun r w1 hp295 => ?_)
                    obtain ⟨⟨x23, rfl, hx23⟩, rfl⟩ := hp295
                    show V X ((147 + 3 * t) + 1) ((145204 + 3000 * t) + 1000) 298 [(0, .ref (A 0)), (1, .ref ((vG X).1.2 300)), (2, .ref a), (3, vI ((0 + (1 + x19)) + (1 + x20))), (4, vI (x21 - (t : Int)))] [vI x23, vI (7 * (x21 - (t : Int))), .ref a] ([(a, .inr (8, [.ref v22, vI 0, vI 0, vI n22])), (v22, .inl ((vG X).2 0, p22, .inl (fI f22)))] ++ w)
                    refine v_iadd C dL_begins_298 ?_
                    have hzv := szI_v (v := ((7 * (x21 - (t : Int))) + x23))
                    refine v_callV (na := 1) (wy := (Cond.code yJ4_append_bf812 cJ4_append_bf812 2 (some (.object "java/lang/StringBuilder")) :: wsL_law)) (wc := [(a, .inr (8, [.ref v22, vI 0, vI 0, vI n22])), (v22, .inl ((vG X).2 0, p22, .inl (fI f22)))]) (wr := w) C [vI ((7 * (x21 - (t : Int))) + x23)] [] (b_int _ _ a v22 p22 n22 f22 ((7 * (x21 - (t : Int))) + x23) hk22 (by omega) (by omega)) rfl (gwV mw_384 mw_381 mw_382 mw_383 mw_217) rfl (by decide +kernel) 0 rfl rfl (hR_k rfl rfl (by omega) (by omega)) rfl Sb.rf rfl rfl dL_begins_299 (fun r w1 hp299 => ?_)
                    obtain ⟨rfl, v24, p24, n24, f24, rfl, hk24, he24, hn24, hz24⟩ := hp299
                    show V X (((147 + 3 * t) + 1) + 1) (((145204 + 3000 * t) + 1000) + 1000) 302 [(0, .ref (A 0)), (1, .ref ((vG X).1.2 300)), (2, .ref a), (3, vI ((0 + (1 + x19)) + (1 + x20))), (4, vI (x21 - (t : Int)))] [.ref a] ([(a, .inr (8, [.ref v24, vI 0, vI 0, vI n24])), (v24, .inl ((vG X).2 0, p24, .inl (fI f24)))] ++ w)
                    refine v_ldcK (i := 6) C rfl dL_begins_302 ?_
                    refine v_callV (na := 1) (wy := (Cond.code yJ4_append_15ec4 cJ4_append_15ec4 2 (some (.object "java/lang/StringBuilder")) :: wsL_law)) (wc := [(a, .inr (8, [.ref v24, vI 0, vI 0, vI n24])), (v24, .inl ((vG X).2 0, p24, .inl (fI f24)))]) (wr := w) C [.ref ((vG X).1.2 6)] [] (b_str _ _ 6 _ [59] a v24 p24 n24 f24 rfl (by decide +kernel) hk24 (by show n24 + 1 ≤ 500; omega)) rfl (gwV mw_260 mw_406 mw_258 mw_259 mw_217) rfl (by decide +kernel) 0 rfl rfl (hR_k rfl rfl (by omega) (by omega)) rfl Sb.rf rfl rfl dL_begins_304 (fun r w1 hp304 => ?_)
                    obtain ⟨rfl, v25, p25, n25, f25, rfl, hk25, he25, hn25⟩ := hp304
                    have hn25 : n25 = n24 + 1 := hn25
                    show V X ((((147 + 3 * t) + 1) + 1) + 1) ((((145204 + 3000 * t) + 1000) + 1000) + 1000) 307 [(0, .ref (A 0)), (1, .ref ((vG X).1.2 300)), (2, .ref a), (3, vI ((0 + (1 + x19)) + (1 + x20))), (4, vI (x21 - (t : Int)))] [.ref a] ([(a, .inr (8, [.ref v25, vI 0, vI 0, vI n25])), (v25, .inl ((vG X).2 0, p25, .inl (fI f25)))] ++ w)
                    have hel : ET f cn f25 n25 ([108, 111, 115, 101] ++ 32 :: (dcL ((7 * (x21 - (t : Int))) + x23) ++ [59])) := by
                      have x := ET.trans (by omega) he22 (ET.trans (by omega) he24 he25)
                      exact x
                    have hr2 := rds_lose (v := ((7 * (x21 - (t : Int))) + x23)) hrd (by omega) (by omega) (by omega) (by omega) hel
                    refine v_pop C dL_begins_307 rfl ?_
                    refine v_iinc C M dL_begins_308 4 rfl (by decide) (z' := ((x21 - (t : Int)) + (-1))) rfl (L' := [(4, vI ((x21 - (t : Int)) + (-1))), (0, .ref (A 0)), (1, .ref ((vG X).1.2 300)), (2, .ref a), (3, vI ((0 + (1 + x19)) + (1 + x20)))]) rfl ?_
                    refine v_goto (tgt := 271) C dL_begins_311 (by decide) ?_
                    refine V.loc (L' := [(0, .ref (A 0)), (1, .ref ((vG X).1.2 300)), (2, .ref a), (3, vI ((0 + (1 + x19)) + (1 + x20))), (4, vI ((x21 - (t : Int)) + (-1)))]) [1, 2, 3, 4, 0] rfl ?_
                    refine V.wid (k' := (147 + 3 * (t + 1))) (n' := (145204 + 3000 * (t + 1))) (by omega) (by omega) ?_
                    refine V.eq rfl rfl rfl (L' := [(0, .ref (A 0)), (1, .ref ((vG X).1.2 300)), (2, .ref a), (3, vI ((0 + (1 + x19)) + (1 + x20))), (4, vI (x21 - ((t + 1 : Nat) : Int)))]) (by rw [show x21 - ((t + 1 : Nat) : Int) = x21 - (t : Int) + (-1) by omega]) rfl rfl ?_
                    exact ih (t + 1) v25 p25 n25 f25 hk25 (by omega) ⟨_, _, (by omega), (by omega), hr2⟩ (by omega) (by omega)
              refine V.eq rfl rfl rfl (L' := [(0, .ref (A 0)), (1, .ref ((vG X).1.2 300)), (2, .ref a), (3, vI ((0 + (1 + x19)) + (1 + x20))), (4, vI (x21 - ((0 : Nat) : Int)))]) (by rw [show x21 - ((0 : Nat) : Int) = x21 by omega]) rfl rfl ?_
              exact lpt 9 0 v p cn f hk (by omega) ⟨0, 1000, rfl, by omega, hrd⟩ (by omega) (by omega)
            · skip
              refine v_aload_n C dL_begins_124 rfl 2 rfl ?_
              refine v_ldcK (i := 8) C rfl dL_begins_125 ?_
              refine v_callV (na := 1) (wy := (Cond.code yJ4_append_15ec4 cJ4_append_15ec4 2 (some (.object "java/lang/StringBuilder")) :: wsL_law)) (wc := [(a, .inr (8, [.ref v, vI 0, vI 0, vI cn])), (v, .inl ((vG X).2 0, p, .inl (fI f)))]) (wr := w) C [.ref ((vG X).1.2 8)] [] (b_str _ _ 8 _ [109, 101, 115, 115, 97, 103, 101, 32] a v p cn f rfl (by decide +kernel) hk (by show cn + 8 ≤ 500; omega)) rfl (gwV mw_260 mw_406 mw_258 mw_259 mw_217) rfl (by decide +kernel) 0 rfl rfl (hR_k rfl rfl (by omega) (by omega)) rfl Sb.rf rfl rfl dL_begins_127 (fun r w1 hp127 => ?_)
              obtain ⟨rfl, v26, p26, n26, f26, rfl, hk26, he26, hn26⟩ := hp127
              have hn26 : n26 = cn + 8 := hn26
              show V X ((82 + 13 * m1) + 1) ((80204 + 13000 * m1) + 1000) 130 [(0, .ref (A 0)), (1, .ref ((vG X).1.2 300)), (2, .ref a), (3, vI (0 + (1 + x19))), (4, vI 1), (5, vI (1 + x20)), (6, vI (m1 : Int))] [.ref a] ([(a, .inr (8, [.ref v26, vI 0, vI 0, vI n26])), (v26, .inl ((vG X).2 0, p26, .inl (fI f26)))] ++ w)
              refine v_iload C dL_begins_130 4 rfl ?_
              refine v_callV (na := 1) (wy := (Cond.code yJ4_append_bf812 cJ4_append_bf812 2 (some (.object "java/lang/StringBuilder")) :: wsL_law)) (wc := [(a, .inr (8, [.ref v26, vI 0, vI 0, vI n26])), (v26, .inl ((vG X).2 0, p26, .inl (fI f26)))]) (wr := w) C [vI 1] [] (b_int _ _ a v26 p26 n26 f26 1 hk26 (by omega) (by omega)) rfl (gwV mw_384 mw_381 mw_382 mw_383 mw_217) rfl (by decide +kernel) 0 rfl rfl (hR_k rfl rfl (by omega) (by omega)) rfl Sb.rf rfl rfl dL_begins_132 (fun r w1 hp132 => ?_)
              obtain ⟨rfl, v27, p27, n27, f27, rfl, hk27, he27, hn27, hz27⟩ := hp132
              show V X (((82 + 13 * m1) + 1) + 1) (((80204 + 13000 * m1) + 1000) + 1000) 135 [(0, .ref (A 0)), (1, .ref ((vG X).1.2 300)), (2, .ref a), (3, vI (0 + (1 + x19))), (4, vI 1), (5, vI (1 + x20)), (6, vI (m1 : Int))] [.ref a] ([(a, .inr (8, [.ref v27, vI 0, vI 0, vI n27])), (v27, .inl ((vG X).2 0, p27, .inl (fI f27)))] ++ w)
              refine v_pop C dL_begins_135 rfl ?_
              refine v_iconst C dL_begins_136 ?_
              refine v_aload_n C dL_begins_137 rfl 1 rfl ?_
              refine v_bipush C dL_begins_138 (by decide +kernel) ?_
              refine v_iconst C dL_begins_140 ?_
              refine v_iload C dL_begins_141 4 rfl ?_
              refine v_imul C dL_begins_143 ?_
              show V X (((82 + 13 * m1) + 1) + 1) (((80204 + 13000 * m1) + 1000) + 1000) 144 [(0, .ref (A 0)), (1, .ref ((vG X).1.2 300)), (2, .ref a), (3, vI (0 + (1 + x19))), (4, vI 1), (5, vI (1 + x20)), (6, vI (m1 : Int))] [vI 5, vI 6, .ref ((vG X).1.2 300), vI 1] ([(a, .inr (8, [.ref v27, vI 0, vI 0, vI n27])), (v27, .inl ((vG X).2 0, p27, .inl (fI f27)))] ++ w)
              refine v_iadd C dL_begins_144 ?_
              show V X (((82 + 13 * m1) + 1) + 1) (((80204 + 13000 * m1) + 1000) + 1000) 145 [(0, .ref (A 0)), (1, .ref ((vG X).1.2 300)), (2, .ref a), (3, vI (0 + (1 + x19))), (4, vI 1), (5, vI (1 + x20)), (6, vI (m1 : Int))] [vI 11, .ref ((vG X).1.2 300), vI 1] ([(a, .inr (8, [.ref v27, vI 0, vI 0, vI n27])), (v27, .inl ((vG X).2 0, p27, .inl (fI f27)))] ++ w)
              refine v_iload C dL_begins_145 6 rfl ?_
              refine v_iadd C dL_begins_147 ?_
              refine v_iconst C dL_begins_148 ?_
              refine v_callS (na := 3) (wy := (Cond.code yL_pick cL_pick 3 (some .int) :: wsL_law)) (wc := []) (wr := [(a, .inr (8, [.ref v27, vI 0, vI 0, vI n27])), (v27, .inl ((vG X).2 0, p27, .inl (fI f27)))] ++ w) C [.ref ((vG X).1.2 300), vI (11 + (m1 : Int)), vI 5] [vI 1] (c_L_pick _ _ (11 + (m1 : Int)) 5 (by omega) (by omega) (by omega) (by omega)) rfl (gwS mw_375 mw_373 mw_374 mw_213) (by decide +kernel) (hR_k rfl rfl (by omega) (by omega)) rfl Sb.rf rfl rfl dL_begins_149 (fun r w1 hp149 => ?_)
              obtain ⟨⟨x28, rfl, hx28⟩, rfl⟩ := hp149
              show V X (((82 + 13 * m1) + 1) + 1) (((80204 + 13000 * m1) + 1000) + 1000) 152 [(0, .ref (A 0)), (1, .ref ((vG X).1.2 300)), (2, .ref a), (3, vI (0 + (1 + x19))), (4, vI 1), (5, vI (1 + x20)), (6, vI (m1 : Int))] [vI x28, vI 1] ([(a, .inr (8, [.ref v27, vI 0, vI 0, vI n27])), (v27, .inl ((vG X).2 0, p27, .inl (fI f27)))] ++ w)
              refine v_iadd C dL_begins_152 ?_
              refine v_istore C M dL_begins_153 (by decide) (L' := [(7, vI (1 + x28)), (0, .ref (A 0)), (1, .ref ((vG X).1.2 300)), (2, .ref a), (3, vI (0 + (1 + x19))), (4, vI 1), (5, vI (1 + x20)), (6, vI (m1 : Int))]) rfl ?_
              refine v_iconst C dL_begins_155 ?_
              refine v_istore C M dL_begins_156 (by decide) (L' := [(8, vI 0), (7, vI (1 + x28)), (0, .ref (A 0)), (1, .ref ((vG X).1.2 300)), (2, .ref a), (3, vI (0 + (1 + x19))), (4, vI 1), (5, vI (1 + x20)), (6, vI (m1 : Int))]) rfl ?_
              refine V.loc (L' := [(0, .ref (A 0)), (1, .ref ((vG X).1.2 300)), (2, .ref a), (3, vI (0 + (1 + x19))), (4, vI 1), (5, vI (1 + x20)), (6, vI (m1 : Int)), (7, vI (1 + x28)), (8, vI 0)]) [2, 3, 4, 5, 6, 7, 8, 1, 0] rfl ?_
              have hzk : szI 1 = 1 := rfl
              have hbs0 : ∃ bs : List Int, bs.length = 0 ∧ (∀ x ∈ bs, 0 ≤ x ∧ x ≤ 255) ∧ ET f cn f27 n27 ([109, 101, 115, 115, 97, 103, 101] ++ 32 :: (dcL 1 ++ bsT bs)) := by
                refine ⟨[], rfl, fun x hx => absurd hx List.not_mem_nil, ?_⟩
                have x := ET.trans (by omega) he26 he27
                exact x
              have ihm := ih
              have lpb1 : ∀ (n : Nat) (b1 : Nat) (v2 : Nat) (p2 : Nat) (c2 : Int) (f2 : Int → Int) (hk2 : SBK p2 c2 f2) (hbs : ∃ bs : List Int, bs.length = b1 ∧ (∀ x ∈ bs, 0 ≤ x ∧ x ≤ 255) ∧ ET f cn f2 c2 ([109, 101, 115, 115, 97, 103, 101] ++ 32 :: (dcL 1 ++ bsT bs))) (hb5 : (b1 : Int) ≤ (1 + x28) ∧ c2 ≤ cn + 9 + 4 * (b1 : Int)) (hm : 8 - (b1 : Int) < (n : Int)), V X (82 + 13 * m1 + 2 + 2 * b1) (80204 + 13000 * m1 + 2000 + 2000 * b1) 158 [(0, .ref (A 0)), (1, .ref ((vG X).1.2 300)), (2, .ref a), (3, vI (0 + (1 + x19))), (4, vI 1), (5, vI (1 + x20)), (6, vI (m1 : Int)), (7, vI (1 + x28)), (8, vI (b1 : Int))] [] ([(a, .inr (8, [.ref v2, vI 0, vI 0, vI c2])), (v2, .inl ((vG X).2 0, p2, .inl (fI f2)))] ++ w) := by
                intro n
                induction n with
                | zero => intro b1 v2 p2 c2 f2 hk2 hbs hb5 hm; exact absurd hm (by omega)
                | succ n ih =>
                  intro b1 v2 p2 c2 f2 hk2 hbs hb5 hm
                  have hc20 : 0 ≤ c2 := hk2.2.1.1
                  obtain ⟨bs, hbl, hb255, het⟩ := hbs
                  refine v_iload C dL_begins_158 8 rfl ?_
                  refine v_iload C dL_begins_160 7 rfl ?_
                  refine v_icmp_ge (tgt := 238) C dL_begins_162 (by decide) (by  first | assumption | exact ⟨by omega, by omega⟩) (by  first | assumption | exact ⟨by omega, by omega⟩) (fun c162 => ?_) (fun c162 => ?_)
                  · skip
                    have hbE : (b1 : Int) = (1 + x28) := by omega
                    refine v_aload_n C dL_begins_238 rfl 2 rfl ?_
                    refine v_ldcK (i := 6) C rfl dL_begins_239 ?_
                    refine v_callV (na := 1) (wy := (Cond.code yJ4_append_15ec4 cJ4_append_15ec4 2 (some (.object "java/lang/StringBuilder")) :: wsL_law)) (wc := [(a, .inr (8, [.ref v2, vI 0, vI 0, vI c2])), (v2, .inl ((vG X).2 0, p2, .inl (fI f2)))]) (wr := w) C [.ref ((vG X).1.2 6)] [] (b_str _ _ 6 _ [59] a v2 p2 c2 f2 rfl (by decide +kernel) hk2 (by show c2 + 1 ≤ 500; omega)) rfl (gwV mw_260 mw_406 mw_258 mw_259 mw_217) rfl (by decide +kernel) 0 rfl rfl (hR_k rfl rfl (by omega) (by omega)) rfl Sb.rf rfl rfl dL_begins_241 (fun r w1 hp241 => ?_)
                    obtain ⟨rfl, v29, p29, n29, f29, rfl, hk29, he29, hn29⟩ := hp241
                    have hn29 : n29 = c2 + 1 := hn29
                    show V X ((82 + 13 * m1 + 2 + 2 * b1) + 1) ((80204 + 13000 * m1 + 2000 + 2000 * b1) + 1000) 244 [(0, .ref (A 0)), (1, .ref ((vG X).1.2 300)), (2, .ref a), (3, vI (0 + (1 + x19))), (4, vI 1), (5, vI (1 + x20)), (6, vI (m1 : Int)), (7, vI (1 + x28)), (8, vI (b1 : Int))] [.ref a] ([(a, .inr (8, [.ref v29, vI 0, vI 0, vI n29])), (v29, .inl ((vG X).2 0, p29, .inl (fI f29)))] ++ w)
                    have hst : ET f cn f29 n29 ([109, 101, 115, 115, 97, 103, 101] ++ 32 :: (dcL 1 ++ (bsT bs ++ [59]))) := by
                      have x := ET.trans (by omega) het he29
                      have e9 : ([109, 101, 115, 115, 97, 103, 101] ++ 32 :: (dcL 1 ++ bsT bs)) ++ [59] = [109, 101, 115, 115, 97, 103, 101] ++ 32 :: (dcL 1 ++ (bsT bs ++ [59])) := by simp
                      rw [e9] at x
                      exact x
                    have hr2 := rds_msg (k := 1) hrd (by omega) (by decide) hb255 (by omega) (by omega) (by omega) hst
                    have hr2 : RDS liI f29 n29 1 1 (TXF (1 + x19) ((m1 : Int) + 1) 0 1000) := hr2
                    refine v_pop C dL_begins_244 rfl ?_
                    refine v_iinc C M dL_begins_245 6 rfl (by decide) (z' := ((m1 : Int) + 1)) rfl (L' := [(6, vI ((m1 : Int) + 1)), (0, .ref (A 0)), (1, .ref ((vG X).1.2 300)), (2, .ref a), (3, vI (0 + (1 + x19))), (4, vI 1), (5, vI (1 + x20)), (7, vI (1 + x28)), (8, vI (b1 : Int))]) rfl ?_
                    refine v_goto (tgt := 117) C dL_begins_248 (by decide) ?_
                    refine V.loc (L' := [(0, .ref (A 0)), (1, .ref ((vG X).1.2 300)), (2, .ref a), (3, vI (0 + (1 + x19))), (4, vI 1), (5, vI (1 + x20)), (6, vI ((m1 : Int) + 1))]) [1, 2, 3, 4, 5, 6, 0] rfl ?_
                    refine V.wid (k' := (82 + 13 * (m1 + 1))) (n' := (80204 + 13000 * (m1 + 1))) (by omega) (by omega) ?_
                    refine V.eq rfl rfl rfl (L' := [(0, .ref (A 0)), (1, .ref ((vG X).1.2 300)), (2, .ref a), (3, vI (0 + (1 + x19))), (4, vI 1), (5, vI (1 + x20)), (6, vI ((m1 + 1 : Nat) : Int))]) (by rw [show ((m1 + 1 : Nat) : Int) = (m1 : Int) + 1 by omega]) rfl rfl ?_
                    exact ihm (m1 + 1) v29 p29 n29 f29 hk29 (by omega) (by rw [show ((m1 + 1 : Nat) : Int) = (m1 : Int) + 1 by omega]; exact hr2) (by omega) (by omega)
                  · skip
                    refine v_aload_n C dL_begins_165 rfl 2 rfl ?_
                    refine v_ldcK (i := 5) C rfl dL_begins_166 ?_
                    refine v_callV (na := 1) (wy := (Cond.code yJ4_append_15ec4 cJ4_append_15ec4 2 (some (.object "java/lang/StringBuilder")) :: wsL_law)) (wc := [(a, .inr (8, [.ref v2, vI 0, vI 0, vI c2])), (v2, .inl ((vG X).2 0, p2, .inl (fI f2)))]) (wr := w) C [.ref ((vG X).1.2 5)] [] (b_str _ _ 5 _ [32] a v2 p2 c2 f2 rfl (by decide +kernel) hk2 (by show c2 + 1 ≤ 500; omega)) rfl (gwV mw_260 mw_406 mw_258 mw_259 mw_217) rfl (by decide +kernel) 0 rfl rfl (hR_k rfl rfl (by omega) (by omega)) rfl Sb.rf rfl rfl dL_begins_168 (fun r w1 hp168 => ?_)
                    obtain ⟨rfl, v30, p30, n30, f30, rfl, hk30, he30, hn30⟩ := hp168
                    have hn30 : n30 = c2 + 1 := hn30
                    show V X ((82 + 13 * m1 + 2 + 2 * b1) + 1) ((80204 + 13000 * m1 + 2000 + 2000 * b1) + 1000) 171 [(0, .ref (A 0)), (1, .ref ((vG X).1.2 300)), (2, .ref a), (3, vI (0 + (1 + x19))), (4, vI 1), (5, vI (1 + x20)), (6, vI (m1 : Int)), (7, vI (1 + x28)), (8, vI (b1 : Int))] [.ref a] ([(a, .inr (8, [.ref v30, vI 0, vI 0, vI n30])), (v30, .inl ((vG X).2 0, p30, .inl (fI f30)))] ++ w)
                    refine v_aload_n C dL_begins_171 rfl 1 rfl ?_
                    refine v_bipush C dL_begins_172 (by decide +kernel) ?_
                    refine v_bipush C dL_begins_174 (by decide +kernel) ?_
                    refine v_iload C dL_begins_176 4 rfl ?_
                    refine v_imul C dL_begins_178 ?_
                    show V X ((82 + 13 * m1 + 2 + 2 * b1) + 1) ((80204 + 13000 * m1 + 2000 + 2000 * b1) + 1000) 179 [(0, .ref (A 0)), (1, .ref ((vG X).1.2 300)), (2, .ref a), (3, vI (0 + (1 + x19))), (4, vI 1), (5, vI (1 + x20)), (6, vI (m1 : Int)), (7, vI (1 + x28)), (8, vI (b1 : Int))] [vI 30, vI 20, .ref ((vG X).1.2 300), .ref a] ([(a, .inr (8, [.ref v30, vI 0, vI 0, vI n30])), (v30, .inl ((vG X).2 0, p30, .inl (fI f30)))] ++ w)
                    refine v_iadd C dL_begins_179 ?_
                    show V X ((82 + 13 * m1 + 2 + 2 * b1) + 1) ((80204 + 13000 * m1 + 2000 + 2000 * b1) + 1000) 180 [(0, .ref (A 0)), (1, .ref ((vG X).1.2 300)), (2, .ref a), (3, vI (0 + (1 + x19))), (4, vI 1), (5, vI (1 + x20)), (6, vI (m1 : Int)), (7, vI (1 + x28)), (8, vI (b1 : Int))] [vI 50, .ref ((vG X).1.2 300), .ref a] ([(a, .inr (8, [.ref v30, vI 0, vI 0, vI n30])), (v30, .inl ((vG X).2 0, p30, .inl (fI f30)))] ++ w)
                    refine v_iconst C dL_begins_180 ?_
                    refine v_iload C dL_begins_181 6 rfl ?_
                    refine v_imul C dL_begins_183 ?_
                    refine v_iadd C dL_begins_184 ?_
                    refine v_iload C dL_begins_185 8 rfl ?_
                    refine v_iadd C dL_begins_187 ?_
                    refine v_iconst C dL_begins_188 ?_
                    refine v_callS (na := 3) (wy := (Cond.code yL_pick cL_pick 3 (some .int) :: wsL_law)) (wc := []) (wr := [(a, .inr (8, [.ref v30, vI 0, vI 0, vI n30])), (v30, .inl ((vG X).2 0, p30, .inl (fI f30)))] ++ w) C [.ref ((vG X).1.2 300), vI ((50 + (5 * (m1 : Int))) + (b1 : Int)), vI 3] [.ref a] (c_L_pick _ _ ((50 + (5 * (m1 : Int))) + (b1 : Int)) 3 (by omega) (by omega) (by omega) (by omega)) rfl (gwS mw_375 mw_373 mw_374 mw_213) (by decide +kernel) (hR_k rfl rfl (by omega) (by omega)) rfl Sb.rf rfl rfl dL_begins_189 (fun r w1 hp189 => ?_)
                    obtain ⟨⟨x31, rfl, hx31⟩, rfl⟩ := hp189
                    show V X ((82 + 13 * m1 + 2 + 2 * b1) + 1) ((80204 + 13000 * m1 + 2000 + 2000 * b1) + 1000) 192 [(0, .ref (A 0)), (1, .ref ((vG X).1.2 300)), (2, .ref a), (3, vI (0 + (1 + x19))), (4, vI 1), (5, vI (1 + x20)), (6, vI (m1 : Int)), (7, vI (1 + x28)), (8, vI (b1 : Int))] [vI x31, .ref a] ([(a, .inr (8, [.ref v30, vI 0, vI 0, vI n30])), (v30, .inl ((vG X).2 0, p30, .inl (fI f30)))] ++ w)
                    refine v_if_ne (tgt := 205) C dL_begins_192 (by decide) (by  first | assumption | exact ⟨by omega, by omega⟩) (fun c192 => ?_) (fun c192 => ?_)
                    · skip
                      refine v_aload_n C dL_begins_205 rfl 1 rfl ?_
                      refine v_bipush C dL_begins_206 (by decide +kernel) ?_
                      refine v_bipush C dL_begins_208 (by decide +kernel) ?_
                      refine v_iload C dL_begins_210 4 rfl ?_
                      refine v_imul C dL_begins_212 ?_
                      show V X ((82 + 13 * m1 + 2 + 2 * b1) + 1) ((80204 + 13000 * m1 + 2000 + 2000 * b1) + 1000) 213 [(0, .ref (A 0)), (1, .ref ((vG X).1.2 300)), (2, .ref a), (3, vI (0 + (1 + x19))), (4, vI 1), (5, vI (1 + x20)), (6, vI (m1 : Int)), (7, vI (1 + x28)), (8, vI (b1 : Int))] [vI 30, vI 21, .ref ((vG X).1.2 300), .ref a] ([(a, .inr (8, [.ref v30, vI 0, vI 0, vI n30])), (v30, .inl ((vG X).2 0, p30, .inl (fI f30)))] ++ w)
                      refine v_iadd C dL_begins_213 ?_
                      show V X ((82 + 13 * m1 + 2 + 2 * b1) + 1) ((80204 + 13000 * m1 + 2000 + 2000 * b1) + 1000) 214 [(0, .ref (A 0)), (1, .ref ((vG X).1.2 300)), (2, .ref a), (3, vI (0 + (1 + x19))), (4, vI 1), (5, vI (1 + x20)), (6, vI (m1 : Int)), (7, vI (1 + x28)), (8, vI (b1 : Int))] [vI 51, .ref ((vG X).1.2 300), .ref a] ([(a, .inr (8, [.ref v30, vI 0, vI 0, vI n30])), (v30, .inl ((vG X).2 0, p30, .inl (fI f30)))] ++ w)
                      refine v_iconst C dL_begins_214 ?_
                      refine v_iload C dL_begins_215 6 rfl ?_
                      refine v_imul C dL_begins_217 ?_
                      refine v_iadd C dL_begins_218 ?_
                      refine v_iload C dL_begins_219 8 rfl ?_
                      refine v_iadd C dL_begins_221 ?_
                      refine v_sipush C dL_begins_222 (by decide +kernel) ?_
                      refine v_callS (na := 3) (wy := (Cond.code yL_pick cL_pick 3 (some .int) :: wsL_law)) (wc := []) (wr := [(a, .inr (8, [.ref v30, vI 0, vI 0, vI n30])), (v30, .inl ((vG X).2 0, p30, .inl (fI f30)))] ++ w) C [.ref ((vG X).1.2 300), vI ((51 + (5 * (m1 : Int))) + (b1 : Int)), vI 256] [.ref a] (c_L_pick _ _ ((51 + (5 * (m1 : Int))) + (b1 : Int)) 256 (by omega) (by omega) (by omega) (by omega)) rfl (gwS mw_375 mw_373 mw_374 mw_213) (by decide +kernel) (hR_k rfl rfl (by omega) (by omega)) rfl Sb.rf rfl rfl dL_begins_225 (fun r w1 hp225 => ?_)
                      obtain ⟨⟨x32, rfl, hx32⟩, rfl⟩ := hp225
                      show V X ((82 + 13 * m1 + 2 + 2 * b1) + 1) ((80204 + 13000 * m1 + 2000 + 2000 * b1) + 1000) 228 [(0, .ref (A 0)), (1, .ref ((vG X).1.2 300)), (2, .ref a), (3, vI (0 + (1 + x19))), (4, vI 1), (5, vI (1 + x20)), (6, vI (m1 : Int)), (7, vI (1 + x28)), (8, vI (b1 : Int))] [vI x32, .ref a] ([(a, .inr (8, [.ref v30, vI 0, vI 0, vI n30])), (v30, .inl ((vG X).2 0, p30, .inl (fI f30)))] ++ w)
                      refine v_callV (na := 1) (wy := (Cond.code yJ4_append_bf812 cJ4_append_bf812 2 (some (.object "java/lang/StringBuilder")) :: wsL_law)) (wc := [(a, .inr (8, [.ref v30, vI 0, vI 0, vI n30])), (v30, .inl ((vG X).2 0, p30, .inl (fI f30)))]) (wr := w) C [vI x32] [] (b_int _ _ a v30 p30 n30 f30 x32 hk30 (by omega) (by omega)) rfl (gwV mw_384 mw_381 mw_382 mw_383 mw_217) rfl (by decide +kernel) 0 rfl rfl (hR_k rfl rfl (by omega) (by omega)) rfl Sb.rf rfl rfl dL_begins_228 (fun r w1 hp228 => ?_)
                      obtain ⟨rfl, v33, p33, n33, f33, rfl, hk33, he33, hn33, hz33⟩ := hp228
                      show V X (((82 + 13 * m1 + 2 + 2 * b1) + 1) + 1) (((80204 + 13000 * m1 + 2000 + 2000 * b1) + 1000) + 1000) 231 [(0, .ref (A 0)), (1, .ref ((vG X).1.2 300)), (2, .ref a), (3, vI (0 + (1 + x19))), (4, vI 1), (5, vI (1 + x20)), (6, vI (m1 : Int)), (7, vI (1 + x28)), (8, vI (b1 : Int))] [.ref a] ([(a, .inr (8, [.ref v33, vI 0, vI 0, vI n33])), (v33, .inl ((vG X).2 0, p33, .inl (fI f33)))] ++ w)
                      have hbs2 : ∃ bs : List Int, bs.length = b1 + 1 ∧ (∀ x ∈ bs, 0 ≤ x ∧ x ≤ 255) ∧ ET f cn f33 n33 ([109, 101, 115, 115, 97, 103, 101] ++ 32 :: (dcL 1 ++ bsT bs)) := by
                        refine ⟨bs ++ [x32], by simp [hbl], fun x hx => ?_, ?_⟩
                        · rcases List.mem_append.mp hx with h | h
                          · exact hb255 x h
                          · rw [List.mem_singleton.mp h]; exact ⟨by omega, by omega⟩
                        · have x := ET.trans (by omega) het (ET.trans (by omega) he30 he33)
                          have e9 : ([109, 101, 115, 115, 97, 103, 101] ++ 32 :: (dcL 1 ++ bsT bs)) ++ ([32] ++ dcL (x32)) = [109, 101, 115, 115, 97, 103, 101] ++ 32 :: (dcL 1 ++ bsT (bs ++ [x32])) := by rw [bsT_app]; simp [bsT]
                          rw [e9] at x
                          exact x
                      refine v_pop C dL_begins_231 rfl ?_
                      refine v_iinc C M dL_begins_232 8 rfl (by decide) (z' := ((b1 : Int) + 1)) rfl (L' := [(8, vI ((b1 : Int) + 1)), (0, .ref (A 0)), (1, .ref ((vG X).1.2 300)), (2, .ref a), (3, vI (0 + (1 + x19))), (4, vI 1), (5, vI (1 + x20)), (6, vI (m1 : Int)), (7, vI (1 + x28))]) rfl ?_
                      refine v_goto (tgt := 158) C dL_begins_235 (by decide) ?_
                      refine V.loc (L' := [(0, .ref (A 0)), (1, .ref ((vG X).1.2 300)), (2, .ref a), (3, vI (0 + (1 + x19))), (4, vI 1), (5, vI (1 + x20)), (6, vI (m1 : Int)), (7, vI (1 + x28)), (8, vI ((b1 : Int) + 1))]) [1, 2, 3, 4, 5, 6, 7, 8, 0] rfl ?_
                      refine V.wid (k' := (82 + 13 * m1 + 2 + 2 * (b1 + 1))) (n' := (80204 + 13000 * m1 + 2000 + 2000 * (b1 + 1))) (by omega) (by omega) ?_
                      refine V.eq rfl rfl rfl (L' := [(0, .ref (A 0)), (1, .ref ((vG X).1.2 300)), (2, .ref a), (3, vI (0 + (1 + x19))), (4, vI 1), (5, vI (1 + x20)), (6, vI (m1 : Int)), (7, vI (1 + x28)), (8, vI ((b1 + 1 : Nat) : Int))]) (by rw [show ((b1 + 1 : Nat) : Int) = (b1 : Int) + 1 by omega]) rfl rfl ?_
                      exact ih (b1 + 1) v33 p33 n33 f33 hk33 hbs2 (by omega) (by omega)
                    · skip
                      refine v_bipush C dL_begins_195 (by decide +kernel) ?_
                      refine v_iload C dL_begins_197 8 rfl ?_
                      refine v_iconst C dL_begins_199 ?_
                      refine v_irem C dL_begins_200 (iI_n0 (by decide) (by decide)) (iI_rem (by omega) (by omega) (by decide) (by decide)) ?_
                      refine v_iadd C dL_begins_201 ?_
                      refine v_goto (tgt := 228) C dL_begins_202 (by decide) ?_
                      refine v_callV (na := 1) (wy := (Cond.code yJ4_append_bf812 cJ4_append_bf812 2 (some (.object "java/lang/StringBuilder")) :: wsL_law)) (wc := [(a, .inr (8, [.ref v30, vI 0, vI 0, vI n30])), (v30, .inl ((vG X).2 0, p30, .inl (fI f30)))]) (wr := w) C [vI (125 + ((b1 : Int) % 2))] [] (b_int _ _ a v30 p30 n30 f30 (125 + ((b1 : Int) % 2)) hk30 (by omega) (by omega)) rfl (gwV mw_384 mw_381 mw_382 mw_383 mw_217) rfl (by decide +kernel) 0 rfl rfl (hR_k rfl rfl (by omega) (by omega)) rfl Sb.rf rfl rfl dL_begins_228 (fun r w1 hp228 => ?_)
                      obtain ⟨rfl, v34, p34, n34, f34, rfl, hk34, he34, hn34, hz34⟩ := hp228
                      show V X (((82 + 13 * m1 + 2 + 2 * b1) + 1) + 1) (((80204 + 13000 * m1 + 2000 + 2000 * b1) + 1000) + 1000) 231 [(0, .ref (A 0)), (1, .ref ((vG X).1.2 300)), (2, .ref a), (3, vI (0 + (1 + x19))), (4, vI 1), (5, vI (1 + x20)), (6, vI (m1 : Int)), (7, vI (1 + x28)), (8, vI (b1 : Int))] [.ref a] ([(a, .inr (8, [.ref v34, vI 0, vI 0, vI n34])), (v34, .inl ((vG X).2 0, p34, .inl (fI f34)))] ++ w)
                      have hbs2 : ∃ bs : List Int, bs.length = b1 + 1 ∧ (∀ x ∈ bs, 0 ≤ x ∧ x ≤ 255) ∧ ET f cn f34 n34 ([109, 101, 115, 115, 97, 103, 101] ++ 32 :: (dcL 1 ++ bsT bs)) := by
                        refine ⟨bs ++ [(125 + ((b1 : Int) % 2))], by simp [hbl], fun x hx => ?_, ?_⟩
                        · rcases List.mem_append.mp hx with h | h
                          · exact hb255 x h
                          · rw [List.mem_singleton.mp h]; exact ⟨by omega, by omega⟩
                        · have x := ET.trans (by omega) het (ET.trans (by omega) he30 he34)
                          have e9 : ([109, 101, 115, 115, 97, 103, 101] ++ 32 :: (dcL 1 ++ bsT bs)) ++ ([32] ++ dcL ((125 + ((b1 : Int) % 2)))) = [109, 101, 115, 115, 97, 103, 101] ++ 32 :: (dcL 1 ++ bsT (bs ++ [(125 + ((b1 : Int) % 2))])) := by rw [bsT_app]; simp [bsT]
                          rw [e9] at x
                          exact x
                      refine v_pop C dL_begins_231 rfl ?_
                      refine v_iinc C M dL_begins_232 8 rfl (by decide) (z' := ((b1 : Int) + 1)) rfl (L' := [(8, vI ((b1 : Int) + 1)), (0, .ref (A 0)), (1, .ref ((vG X).1.2 300)), (2, .ref a), (3, vI (0 + (1 + x19))), (4, vI 1), (5, vI (1 + x20)), (6, vI (m1 : Int)), (7, vI (1 + x28))]) rfl ?_
                      refine v_goto (tgt := 158) C dL_begins_235 (by decide) ?_
                      refine V.loc (L' := [(0, .ref (A 0)), (1, .ref ((vG X).1.2 300)), (2, .ref a), (3, vI (0 + (1 + x19))), (4, vI 1), (5, vI (1 + x20)), (6, vI (m1 : Int)), (7, vI (1 + x28)), (8, vI ((b1 : Int) + 1))]) [1, 2, 3, 4, 5, 6, 7, 8, 0] rfl ?_
                      refine V.wid (k' := (82 + 13 * m1 + 2 + 2 * (b1 + 1))) (n' := (80204 + 13000 * m1 + 2000 + 2000 * (b1 + 1))) (by omega) (by omega) ?_
                      refine V.eq rfl rfl rfl (L' := [(0, .ref (A 0)), (1, .ref ((vG X).1.2 300)), (2, .ref a), (3, vI (0 + (1 + x19))), (4, vI 1), (5, vI (1 + x20)), (6, vI (m1 : Int)), (7, vI (1 + x28)), (8, vI ((b1 + 1 : Nat) : Int))]) (by rw [show ((b1 + 1 : Nat) : Int) = (b1 : Int) + 1 by omega]) rfl rfl ?_
                      exact ih (b1 + 1) v34 p34 n34 f34 hk34 hbs2 (by omega) (by omega)
              exact lpb1 9 0 v27 p27 n27 f27 hk27 hbs0 (by omega) (by omega)
        exact lpm1 9 0 v p cn f hk (by omega) (show RDS liI f cn 1 1 (TXF (1 + x19) 0 0 1000) from hrd) (by omega) (by omega)
      · skip
        refine v_aload_n C dL_begins_124 rfl 2 rfl ?_
        refine v_ldcK (i := 8) C rfl dL_begins_125 ?_
        refine v_callV (na := 1) (wy := (Cond.code yJ4_append_15ec4 cJ4_append_15ec4 2 (some (.object "java/lang/StringBuilder")) :: wsL_law)) (wc := [(a, .inr (8, [.ref v, vI 0, vI 0, vI cn])), (v, .inl ((vG X).2 0, p, .inl (fI f)))]) (wr := w) C [.ref ((vG X).1.2 8)] [] (b_str _ _ 8 _ [109, 101, 115, 115, 97, 103, 101, 32] a v p cn f rfl (by decide +kernel) hk (by show cn + 8 ≤ 500; omega)) rfl (gwV mw_260 mw_406 mw_258 mw_259 mw_217) rfl (by decide +kernel) 0 rfl rfl (hR_k rfl rfl (by omega) (by omega)) rfl Sb.rf rfl rfl dL_begins_127 (fun r w1 hp127 => ?_)
        obtain ⟨rfl, v35, p35, n35, f35, rfl, hk35, he35, hn35⟩ := hp127
        have hn35 : n35 = cn + 8 := hn35
        show V X ((17 + 13 * m0) + 1) ((15204 + 13000 * m0) + 1000) 130 [(0, .ref (A 0)), (1, .ref ((vG X).1.2 300)), (2, .ref a), (3, vI 0), (4, vI 0), (5, vI (1 + x19)), (6, vI (m0 : Int))] [.ref a] ([(a, .inr (8, [.ref v35, vI 0, vI 0, vI n35])), (v35, .inl ((vG X).2 0, p35, .inl (fI f35)))] ++ w)
        refine v_iload C dL_begins_130 4 rfl ?_
        refine v_callV (na := 1) (wy := (Cond.code yJ4_append_bf812 cJ4_append_bf812 2 (some (.object "java/lang/StringBuilder")) :: wsL_law)) (wc := [(a, .inr (8, [.ref v35, vI 0, vI 0, vI n35])), (v35, .inl ((vG X).2 0, p35, .inl (fI f35)))]) (wr := w) C [vI 0] [] (b_int _ _ a v35 p35 n35 f35 0 hk35 (by omega) (by omega)) rfl (gwV mw_384 mw_381 mw_382 mw_383 mw_217) rfl (by decide +kernel) 0 rfl rfl (hR_k rfl rfl (by omega) (by omega)) rfl Sb.rf rfl rfl dL_begins_132 (fun r w1 hp132 => ?_)
        obtain ⟨rfl, v36, p36, n36, f36, rfl, hk36, he36, hn36, hz36⟩ := hp132
        show V X (((17 + 13 * m0) + 1) + 1) (((15204 + 13000 * m0) + 1000) + 1000) 135 [(0, .ref (A 0)), (1, .ref ((vG X).1.2 300)), (2, .ref a), (3, vI 0), (4, vI 0), (5, vI (1 + x19)), (6, vI (m0 : Int))] [.ref a] ([(a, .inr (8, [.ref v36, vI 0, vI 0, vI n36])), (v36, .inl ((vG X).2 0, p36, .inl (fI f36)))] ++ w)
        refine v_pop C dL_begins_135 rfl ?_
        refine v_iconst C dL_begins_136 ?_
        refine v_aload_n C dL_begins_137 rfl 1 rfl ?_
        refine v_bipush C dL_begins_138 (by decide +kernel) ?_
        refine v_iconst C dL_begins_140 ?_
        refine v_iload C dL_begins_141 4 rfl ?_
        refine v_imul C dL_begins_143 ?_
        show V X (((17 + 13 * m0) + 1) + 1) (((15204 + 13000 * m0) + 1000) + 1000) 144 [(0, .ref (A 0)), (1, .ref ((vG X).1.2 300)), (2, .ref a), (3, vI 0), (4, vI 0), (5, vI (1 + x19)), (6, vI (m0 : Int))] [vI 0, vI 6, .ref ((vG X).1.2 300), vI 1] ([(a, .inr (8, [.ref v36, vI 0, vI 0, vI n36])), (v36, .inl ((vG X).2 0, p36, .inl (fI f36)))] ++ w)
        refine v_iadd C dL_begins_144 ?_
        show V X (((17 + 13 * m0) + 1) + 1) (((15204 + 13000 * m0) + 1000) + 1000) 145 [(0, .ref (A 0)), (1, .ref ((vG X).1.2 300)), (2, .ref a), (3, vI 0), (4, vI 0), (5, vI (1 + x19)), (6, vI (m0 : Int))] [vI 6, .ref ((vG X).1.2 300), vI 1] ([(a, .inr (8, [.ref v36, vI 0, vI 0, vI n36])), (v36, .inl ((vG X).2 0, p36, .inl (fI f36)))] ++ w)
        refine v_iload C dL_begins_145 6 rfl ?_
        refine v_iadd C dL_begins_147 ?_
        refine v_iconst C dL_begins_148 ?_
        refine v_callS (na := 3) (wy := (Cond.code yL_pick cL_pick 3 (some .int) :: wsL_law)) (wc := []) (wr := [(a, .inr (8, [.ref v36, vI 0, vI 0, vI n36])), (v36, .inl ((vG X).2 0, p36, .inl (fI f36)))] ++ w) C [.ref ((vG X).1.2 300), vI (6 + (m0 : Int)), vI 5] [vI 1] (c_L_pick _ _ (6 + (m0 : Int)) 5 (by omega) (by omega) (by omega) (by omega)) rfl (gwS mw_375 mw_373 mw_374 mw_213) (by decide +kernel) (hR_k rfl rfl (by omega) (by omega)) rfl Sb.rf rfl rfl dL_begins_149 (fun r w1 hp149 => ?_)
        obtain ⟨⟨x37, rfl, hx37⟩, rfl⟩ := hp149
        show V X (((17 + 13 * m0) + 1) + 1) (((15204 + 13000 * m0) + 1000) + 1000) 152 [(0, .ref (A 0)), (1, .ref ((vG X).1.2 300)), (2, .ref a), (3, vI 0), (4, vI 0), (5, vI (1 + x19)), (6, vI (m0 : Int))] [vI x37, vI 1] ([(a, .inr (8, [.ref v36, vI 0, vI 0, vI n36])), (v36, .inl ((vG X).2 0, p36, .inl (fI f36)))] ++ w)
        refine v_iadd C dL_begins_152 ?_
        refine v_istore C M dL_begins_153 (by decide) (L' := [(7, vI (1 + x37)), (0, .ref (A 0)), (1, .ref ((vG X).1.2 300)), (2, .ref a), (3, vI 0), (4, vI 0), (5, vI (1 + x19)), (6, vI (m0 : Int))]) rfl ?_
        refine v_iconst C dL_begins_155 ?_
        refine v_istore C M dL_begins_156 (by decide) (L' := [(8, vI 0), (7, vI (1 + x37)), (0, .ref (A 0)), (1, .ref ((vG X).1.2 300)), (2, .ref a), (3, vI 0), (4, vI 0), (5, vI (1 + x19)), (6, vI (m0 : Int))]) rfl ?_
        refine V.loc (L' := [(0, .ref (A 0)), (1, .ref ((vG X).1.2 300)), (2, .ref a), (3, vI 0), (4, vI 0), (5, vI (1 + x19)), (6, vI (m0 : Int)), (7, vI (1 + x37)), (8, vI 0)]) [2, 3, 4, 5, 6, 7, 8, 1, 0] rfl ?_
        have hzk : szI 0 = 1 := rfl
        have hbs0 : ∃ bs : List Int, bs.length = 0 ∧ (∀ x ∈ bs, 0 ≤ x ∧ x ≤ 255) ∧ ET f cn f36 n36 ([109, 101, 115, 115, 97, 103, 101] ++ 32 :: (dcL 0 ++ bsT bs)) := by
          refine ⟨[], rfl, fun x hx => absurd hx List.not_mem_nil, ?_⟩
          have x := ET.trans (by omega) he35 he36
          exact x
        have ihm := ih
        have lpb0 : ∀ (n : Nat) (b0 : Nat) (v2 : Nat) (p2 : Nat) (c2 : Int) (f2 : Int → Int) (hk2 : SBK p2 c2 f2) (hbs : ∃ bs : List Int, bs.length = b0 ∧ (∀ x ∈ bs, 0 ≤ x ∧ x ≤ 255) ∧ ET f cn f2 c2 ([109, 101, 115, 115, 97, 103, 101] ++ 32 :: (dcL 0 ++ bsT bs))) (hb5 : (b0 : Int) ≤ (1 + x37) ∧ c2 ≤ cn + 9 + 4 * (b0 : Int)) (hm : 8 - (b0 : Int) < (n : Int)), V X (17 + 13 * m0 + 2 + 2 * b0) (15204 + 13000 * m0 + 2000 + 2000 * b0) 158 [(0, .ref (A 0)), (1, .ref ((vG X).1.2 300)), (2, .ref a), (3, vI 0), (4, vI 0), (5, vI (1 + x19)), (6, vI (m0 : Int)), (7, vI (1 + x37)), (8, vI (b0 : Int))] [] ([(a, .inr (8, [.ref v2, vI 0, vI 0, vI c2])), (v2, .inl ((vG X).2 0, p2, .inl (fI f2)))] ++ w) := by
          intro n
          induction n with
          | zero => intro b0 v2 p2 c2 f2 hk2 hbs hb5 hm; exact absurd hm (by omega)
          | succ n ih =>
            intro b0 v2 p2 c2 f2 hk2 hbs hb5 hm
            have hc20 : 0 ≤ c2 := hk2.2.1.1
            obtain ⟨bs, hbl, hb255, het⟩ := hbs
            refine v_iload C dL_begins_158 8 rfl ?_
            refine v_iload C dL_begins_160 7 rfl ?_
            refine v_icmp_ge (tgt := 238) C dL_begins_162 (by decide) (by  first | assumption | exact ⟨by omega, by omega⟩) (by  first | assumption | exact ⟨by omega, by omega⟩) (fun c162 => ?_) (fun c162 => ?_)
            · skip
              have hbE : (b0 : Int) = (1 + x37) := by omega
              refine v_aload_n C dL_begins_238 rfl 2 rfl ?_
              refine v_ldcK (i := 6) C rfl dL_begins_239 ?_
              refine v_callV (na := 1) (wy := (Cond.code yJ4_append_15ec4 cJ4_append_15ec4 2 (some (.object "java/lang/StringBuilder")) :: wsL_law)) (wc := [(a, .inr (8, [.ref v2, vI 0, vI 0, vI c2])), (v2, .inl ((vG X).2 0, p2, .inl (fI f2)))]) (wr := w) C [.ref ((vG X).1.2 6)] [] (b_str _ _ 6 _ [59] a v2 p2 c2 f2 rfl (by decide +kernel) hk2 (by show c2 + 1 ≤ 500; omega)) rfl (gwV mw_260 mw_406 mw_258 mw_259 mw_217) rfl (by decide +kernel) 0 rfl rfl (hR_k rfl rfl (by omega) (by omega)) rfl Sb.rf rfl rfl dL_begins_241 (fun r w1 hp241 => ?_)
              obtain ⟨rfl, v38, p38, n38, f38, rfl, hk38, he38, hn38⟩ := hp241
              have hn38 : n38 = c2 + 1 := hn38
              show V X ((17 + 13 * m0 + 2 + 2 * b0) + 1) ((15204 + 13000 * m0 + 2000 + 2000 * b0) + 1000) 244 [(0, .ref (A 0)), (1, .ref ((vG X).1.2 300)), (2, .ref a), (3, vI 0), (4, vI 0), (5, vI (1 + x19)), (6, vI (m0 : Int)), (7, vI (1 + x37)), (8, vI (b0 : Int))] [.ref a] ([(a, .inr (8, [.ref v38, vI 0, vI 0, vI n38])), (v38, .inl ((vG X).2 0, p38, .inl (fI f38)))] ++ w)
              have hst : ET f cn f38 n38 ([109, 101, 115, 115, 97, 103, 101] ++ 32 :: (dcL 0 ++ (bsT bs ++ [59]))) := by
                have x := ET.trans (by omega) het he38
                have e9 : ([109, 101, 115, 115, 97, 103, 101] ++ 32 :: (dcL 0 ++ bsT bs)) ++ [59] = [109, 101, 115, 115, 97, 103, 101] ++ 32 :: (dcL 0 ++ (bsT bs ++ [59])) := by simp
                rw [e9] at x
                exact x
              have hr2 := rds_msg (k := 0) hrd (by omega) (by decide) hb255 (by omega) (by omega) (by omega) hst
              have hr2 : RDS liI f38 n38 1 1 (TXF ((m0 : Int) + 1) 0 0 1000) := hr2
              refine v_pop C dL_begins_244 rfl ?_
              refine v_iinc C M dL_begins_245 6 rfl (by decide) (z' := ((m0 : Int) + 1)) rfl (L' := [(6, vI ((m0 : Int) + 1)), (0, .ref (A 0)), (1, .ref ((vG X).1.2 300)), (2, .ref a), (3, vI 0), (4, vI 0), (5, vI (1 + x19)), (7, vI (1 + x37)), (8, vI (b0 : Int))]) rfl ?_
              refine v_goto (tgt := 117) C dL_begins_248 (by decide) ?_
              refine V.loc (L' := [(0, .ref (A 0)), (1, .ref ((vG X).1.2 300)), (2, .ref a), (3, vI 0), (4, vI 0), (5, vI (1 + x19)), (6, vI ((m0 : Int) + 1))]) [1, 2, 3, 4, 5, 6, 0] rfl ?_
              refine V.wid (k' := (17 + 13 * (m0 + 1))) (n' := (15204 + 13000 * (m0 + 1))) (by omega) (by omega) ?_
              refine V.eq rfl rfl rfl (L' := [(0, .ref (A 0)), (1, .ref ((vG X).1.2 300)), (2, .ref a), (3, vI 0), (4, vI 0), (5, vI (1 + x19)), (6, vI ((m0 + 1 : Nat) : Int))]) (by rw [show ((m0 + 1 : Nat) : Int) = (m0 : Int) + 1 by omega]) rfl rfl ?_
              exact ihm (m0 + 1) v38 p38 n38 f38 hk38 (by omega) (by rw [show ((m0 + 1 : Nat) : Int) = (m0 : Int) + 1 by omega]; exact hr2) (by omega) (by omega)
            · skip
              refine v_aload_n C dL_begins_165 rfl 2 rfl ?_
              refine v_ldcK (i := 5) C rfl dL_begins_166 ?_
              refine v_callV (na := 1) (wy := (Cond.code yJ4_append_15ec4 cJ4_append_15ec4 2 (some (.object "java/lang/StringBuilder")) :: wsL_law)) (wc := [(a, .inr (8, [.ref v2, vI 0, vI 0, vI c2])), (v2, .inl ((vG X).2 0, p2, .inl (fI f2)))]) (wr := w) C [.ref ((vG X).1.2 5)] [] (b_str _ _ 5 _ [32] a v2 p2 c2 f2 rfl (by decide +kernel) hk2 (by show c2 + 1 ≤ 500; omega)) rfl (gwV mw_260 mw_406 mw_258 mw_259 mw_217) rfl (by decide +kernel) 0 rfl rfl (hR_k rfl rfl (by omega) (by omega)) rfl Sb.rf rfl rfl dL_begins_168 (fun r w1 hp168 => ?_)
              obtain ⟨rfl, v39, p39, n39, f39, rfl, hk39, he39, hn39⟩ := hp168
              have hn39 : n39 = c2 + 1 := hn39
              show V X ((17 + 13 * m0 + 2 + 2 * b0) + 1) ((15204 + 13000 * m0 + 2000 + 2000 * b0) + 1000) 171 [(0, .ref (A 0)), (1, .ref ((vG X).1.2 300)), (2, .ref a), (3, vI 0), (4, vI 0), (5, vI (1 + x19)), (6, vI (m0 : Int)), (7, vI (1 + x37)), (8, vI (b0 : Int))] [.ref a] ([(a, .inr (8, [.ref v39, vI 0, vI 0, vI n39])), (v39, .inl ((vG X).2 0, p39, .inl (fI f39)))] ++ w)
              refine v_aload_n C dL_begins_171 rfl 1 rfl ?_
              refine v_bipush C dL_begins_172 (by decide +kernel) ?_
              refine v_bipush C dL_begins_174 (by decide +kernel) ?_
              refine v_iload C dL_begins_176 4 rfl ?_
              refine v_imul C dL_begins_178 ?_
              show V X ((17 + 13 * m0 + 2 + 2 * b0) + 1) ((15204 + 13000 * m0 + 2000 + 2000 * b0) + 1000) 179 [(0, .ref (A 0)), (1, .ref ((vG X).1.2 300)), (2, .ref a), (3, vI 0), (4, vI 0), (5, vI (1 + x19)), (6, vI (m0 : Int)), (7, vI (1 + x37)), (8, vI (b0 : Int))] [vI 0, vI 20, .ref ((vG X).1.2 300), .ref a] ([(a, .inr (8, [.ref v39, vI 0, vI 0, vI n39])), (v39, .inl ((vG X).2 0, p39, .inl (fI f39)))] ++ w)
              refine v_iadd C dL_begins_179 ?_
              show V X ((17 + 13 * m0 + 2 + 2 * b0) + 1) ((15204 + 13000 * m0 + 2000 + 2000 * b0) + 1000) 180 [(0, .ref (A 0)), (1, .ref ((vG X).1.2 300)), (2, .ref a), (3, vI 0), (4, vI 0), (5, vI (1 + x19)), (6, vI (m0 : Int)), (7, vI (1 + x37)), (8, vI (b0 : Int))] [vI 20, .ref ((vG X).1.2 300), .ref a] ([(a, .inr (8, [.ref v39, vI 0, vI 0, vI n39])), (v39, .inl ((vG X).2 0, p39, .inl (fI f39)))] ++ w)
              refine v_iconst C dL_begins_180 ?_
              refine v_iload C dL_begins_181 6 rfl ?_
              refine v_imul C dL_begins_183 ?_
              refine v_iadd C dL_begins_184 ?_
              refine v_iload C dL_begins_185 8 rfl ?_
              refine v_iadd C dL_begins_187 ?_
              refine v_iconst C dL_begins_188 ?_
              refine v_callS (na := 3) (wy := (Cond.code yL_pick cL_pick 3 (some .int) :: wsL_law)) (wc := []) (wr := [(a, .inr (8, [.ref v39, vI 0, vI 0, vI n39])), (v39, .inl ((vG X).2 0, p39, .inl (fI f39)))] ++ w) C [.ref ((vG X).1.2 300), vI ((20 + (5 * (m0 : Int))) + (b0 : Int)), vI 3] [.ref a] (c_L_pick _ _ ((20 + (5 * (m0 : Int))) + (b0 : Int)) 3 (by omega) (by omega) (by omega) (by omega)) rfl (gwS mw_375 mw_373 mw_374 mw_213) (by decide +kernel) (hR_k rfl rfl (by omega) (by omega)) rfl Sb.rf rfl rfl dL_begins_189 (fun r w1 hp189 => ?_)
              obtain ⟨⟨x40, rfl, hx40⟩, rfl⟩ := hp189
              show V X ((17 + 13 * m0 + 2 + 2 * b0) + 1) ((15204 + 13000 * m0 + 2000 + 2000 * b0) + 1000) 192 [(0, .ref (A 0)), (1, .ref ((vG X).1.2 300)), (2, .ref a), (3, vI 0), (4, vI 0), (5, vI (1 + x19)), (6, vI (m0 : Int)), (7, vI (1 + x37)), (8, vI (b0 : Int))] [vI x40, .ref a] ([(a, .inr (8, [.ref v39, vI 0, vI 0, vI n39])), (v39, .inl ((vG X).2 0, p39, .inl (fI f39)))] ++ w)
              refine v_if_ne (tgt := 205) C dL_begins_192 (by decide) (by  first | assumption | exact ⟨by omega, by omega⟩) (fun c192 => ?_) (fun c192 => ?_)
              · skip
                refine v_aload_n C dL_begins_205 rfl 1 rfl ?_
                refine v_bipush C dL_begins_206 (by decide +kernel) ?_
                refine v_bipush C dL_begins_208 (by decide +kernel) ?_
                refine v_iload C dL_begins_210 4 rfl ?_
                refine v_imul C dL_begins_212 ?_
                show V X ((17 + 13 * m0 + 2 + 2 * b0) + 1) ((15204 + 13000 * m0 + 2000 + 2000 * b0) + 1000) 213 [(0, .ref (A 0)), (1, .ref ((vG X).1.2 300)), (2, .ref a), (3, vI 0), (4, vI 0), (5, vI (1 + x19)), (6, vI (m0 : Int)), (7, vI (1 + x37)), (8, vI (b0 : Int))] [vI 0, vI 21, .ref ((vG X).1.2 300), .ref a] ([(a, .inr (8, [.ref v39, vI 0, vI 0, vI n39])), (v39, .inl ((vG X).2 0, p39, .inl (fI f39)))] ++ w)
                refine v_iadd C dL_begins_213 ?_
                show V X ((17 + 13 * m0 + 2 + 2 * b0) + 1) ((15204 + 13000 * m0 + 2000 + 2000 * b0) + 1000) 214 [(0, .ref (A 0)), (1, .ref ((vG X).1.2 300)), (2, .ref a), (3, vI 0), (4, vI 0), (5, vI (1 + x19)), (6, vI (m0 : Int)), (7, vI (1 + x37)), (8, vI (b0 : Int))] [vI 21, .ref ((vG X).1.2 300), .ref a] ([(a, .inr (8, [.ref v39, vI 0, vI 0, vI n39])), (v39, .inl ((vG X).2 0, p39, .inl (fI f39)))] ++ w)
                refine v_iconst C dL_begins_214 ?_
                refine v_iload C dL_begins_215 6 rfl ?_
                refine v_imul C dL_begins_217 ?_
                refine v_iadd C dL_begins_218 ?_
                refine v_iload C dL_begins_219 8 rfl ?_
                refine v_iadd C dL_begins_221 ?_
                refine v_sipush C dL_begins_222 (by decide +kernel) ?_
                refine v_callS (na := 3) (wy := (Cond.code yL_pick cL_pick 3 (some .int) :: wsL_law)) (wc := []) (wr := [(a, .inr (8, [.ref v39, vI 0, vI 0, vI n39])), (v39, .inl ((vG X).2 0, p39, .inl (fI f39)))] ++ w) C [.ref ((vG X).1.2 300), vI ((21 + (5 * (m0 : Int))) + (b0 : Int)), vI 256] [.ref a] (c_L_pick _ _ ((21 + (5 * (m0 : Int))) + (b0 : Int)) 256 (by omega) (by omega) (by omega) (by omega)) rfl (gwS mw_375 mw_373 mw_374 mw_213) (by decide +kernel) (hR_k rfl rfl (by omega) (by omega)) rfl Sb.rf rfl rfl dL_begins_225 (fun r w1 hp225 => ?_)
                obtain ⟨⟨x41, rfl, hx41⟩, rfl⟩ := hp225
                show V X ((17 + 13 * m0 + 2 + 2 * b0) + 1) ((15204 + 13000 * m0 + 2000 + 2000 * b0) + 1000) 228 [(0, .ref (A 0)), (1, .ref ((vG X).1.2 300)), (2, .ref a), (3, vI 0), (4, vI 0), (5, vI (1 + x19)), (6, vI (m0 : Int)), (7, vI (1 + x37)), (8, vI (b0 : Int))] [vI x41, .ref a] ([(a, .inr (8, [.ref v39, vI 0, vI 0, vI n39])), (v39, .inl ((vG X).2 0, p39, .inl (fI f39)))] ++ w)
                refine v_callV (na := 1) (wy := (Cond.code yJ4_append_bf812 cJ4_append_bf812 2 (some (.object "java/lang/StringBuilder")) :: wsL_law)) (wc := [(a, .inr (8, [.ref v39, vI 0, vI 0, vI n39])), (v39, .inl ((vG X).2 0, p39, .inl (fI f39)))]) (wr := w) C [vI x41] [] (b_int _ _ a v39 p39 n39 f39 x41 hk39 (by omega) (by omega)) rfl (gwV mw_384 mw_381 mw_382 mw_383 mw_217) rfl (by decide +kernel) 0 rfl rfl (hR_k rfl rfl (by omega) (by omega)) rfl Sb.rf rfl rfl dL_begins_228 (fun r w1 hp228 => ?_)
                obtain ⟨rfl, v42, p42, n42, f42, rfl, hk42, he42, hn42, hz42⟩ := hp228
                show V X (((17 + 13 * m0 + 2 + 2 * b0) + 1) + 1) (((15204 + 13000 * m0 + 2000 + 2000 * b0) + 1000) + 1000) 231 [(0, .ref (A 0)), (1, .ref ((vG X).1.2 300)), (2, .ref a), (3, vI 0), (4, vI 0), (5, vI (1 + x19)), (6, vI (m0 : Int)), (7, vI (1 + x37)), (8, vI (b0 : Int))] [.ref a] ([(a, .inr (8, [.ref v42, vI 0, vI 0, vI n42])), (v42, .inl ((vG X).2 0, p42, .inl (fI f42)))] ++ w)
                have hbs2 : ∃ bs : List Int, bs.length = b0 + 1 ∧ (∀ x ∈ bs, 0 ≤ x ∧ x ≤ 255) ∧ ET f cn f42 n42 ([109, 101, 115, 115, 97, 103, 101] ++ 32 :: (dcL 0 ++ bsT bs)) := by
                  refine ⟨bs ++ [x41], by simp [hbl], fun x hx => ?_, ?_⟩
                  · rcases List.mem_append.mp hx with h | h
                    · exact hb255 x h
                    · rw [List.mem_singleton.mp h]; exact ⟨by omega, by omega⟩
                  · have x := ET.trans (by omega) het (ET.trans (by omega) he39 he42)
                    have e9 : ([109, 101, 115, 115, 97, 103, 101] ++ 32 :: (dcL 0 ++ bsT bs)) ++ ([32] ++ dcL (x41)) = [109, 101, 115, 115, 97, 103, 101] ++ 32 :: (dcL 0 ++ bsT (bs ++ [x41])) := by rw [bsT_app]; simp [bsT]
                    rw [e9] at x
                    exact x
                refine v_pop C dL_begins_231 rfl ?_
                refine v_iinc C M dL_begins_232 8 rfl (by decide) (z' := ((b0 : Int) + 1)) rfl (L' := [(8, vI ((b0 : Int) + 1)), (0, .ref (A 0)), (1, .ref ((vG X).1.2 300)), (2, .ref a), (3, vI 0), (4, vI 0), (5, vI (1 + x19)), (6, vI (m0 : Int)), (7, vI (1 + x37))]) rfl ?_
                refine v_goto (tgt := 158) C dL_begins_235 (by decide) ?_
                refine V.loc (L' := [(0, .ref (A 0)), (1, .ref ((vG X).1.2 300)), (2, .ref a), (3, vI 0), (4, vI 0), (5, vI (1 + x19)), (6, vI (m0 : Int)), (7, vI (1 + x37)), (8, vI ((b0 : Int) + 1))]) [1, 2, 3, 4, 5, 6, 7, 8, 0] rfl ?_
                refine V.wid (k' := (17 + 13 * m0 + 2 + 2 * (b0 + 1))) (n' := (15204 + 13000 * m0 + 2000 + 2000 * (b0 + 1))) (by omega) (by omega) ?_
                refine V.eq rfl rfl rfl (L' := [(0, .ref (A 0)), (1, .ref ((vG X).1.2 300)), (2, .ref a), (3, vI 0), (4, vI 0), (5, vI (1 + x19)), (6, vI (m0 : Int)), (7, vI (1 + x37)), (8, vI ((b0 + 1 : Nat) : Int))]) (by rw [show ((b0 + 1 : Nat) : Int) = (b0 : Int) + 1 by omega]) rfl rfl ?_
                exact ih (b0 + 1) v42 p42 n42 f42 hk42 hbs2 (by omega) (by omega)
              · skip
                refine v_bipush C dL_begins_195 (by decide +kernel) ?_
                refine v_iload C dL_begins_197 8 rfl ?_
                refine v_iconst C dL_begins_199 ?_
                refine v_irem C dL_begins_200 (iI_n0 (by decide) (by decide)) (iI_rem (by omega) (by omega) (by decide) (by decide)) ?_
                refine v_iadd C dL_begins_201 ?_
                refine v_goto (tgt := 228) C dL_begins_202 (by decide) ?_
                refine v_callV (na := 1) (wy := (Cond.code yJ4_append_bf812 cJ4_append_bf812 2 (some (.object "java/lang/StringBuilder")) :: wsL_law)) (wc := [(a, .inr (8, [.ref v39, vI 0, vI 0, vI n39])), (v39, .inl ((vG X).2 0, p39, .inl (fI f39)))]) (wr := w) C [vI (125 + ((b0 : Int) % 2))] [] (b_int _ _ a v39 p39 n39 f39 (125 + ((b0 : Int) % 2)) hk39 (by omega) (by omega)) rfl (gwV mw_384 mw_381 mw_382 mw_383 mw_217) rfl (by decide +kernel) 0 rfl rfl (hR_k rfl rfl (by omega) (by omega)) rfl Sb.rf rfl rfl dL_begins_228 (fun r w1 hp228 => ?_)
                obtain ⟨rfl, v43, p43, n43, f43, rfl, hk43, he43, hn43, hz43⟩ := hp228
                show V X (((17 + 13 * m0 + 2 + 2 * b0) + 1) + 1) (((15204 + 13000 * m0 + 2000 + 2000 * b0) + 1000) + 1000) 231 [(0, .ref (A 0)), (1, .ref ((vG X).1.2 300)), (2, .ref a), (3, vI 0), (4, vI 0), (5, vI (1 + x19)), (6, vI (m0 : Int)), (7, vI (1 + x37)), (8, vI (b0 : Int))] [.ref a] ([(a, .inr (8, [.ref v43, vI 0, vI 0, vI n43])), (v43, .inl ((vG X).2 0, p43, .inl (fI f43)))] ++ w)
                have hbs2 : ∃ bs : List Int, bs.length = b0 + 1 ∧ (∀ x ∈ bs, 0 ≤ x ∧ x ≤ 255) ∧ ET f cn f43 n43 ([109, 101, 115, 115, 97, 103, 101] ++ 32 :: (dcL 0 ++ bsT bs)) := by
                  refine ⟨bs ++ [(125 + ((b0 : Int) % 2))], by simp [hbl], fun x hx => ?_, ?_⟩
                  · rcases List.mem_append.mp hx with h | h
                    · exact hb255 x h
                    · rw [List.mem_singleton.mp h]; exact ⟨by omega, by omega⟩
                  · have x := ET.trans (by omega) het (ET.trans (by omega) he39 he43)
                    have e9 : ([109, 101, 115, 115, 97, 103, 101] ++ 32 :: (dcL 0 ++ bsT bs)) ++ ([32] ++ dcL ((125 + ((b0 : Int) % 2)))) = [109, 101, 115, 115, 97, 103, 101] ++ 32 :: (dcL 0 ++ bsT (bs ++ [(125 + ((b0 : Int) % 2))])) := by rw [bsT_app]; simp [bsT]
                    rw [e9] at x
                    exact x
                refine v_pop C dL_begins_231 rfl ?_
                refine v_iinc C M dL_begins_232 8 rfl (by decide) (z' := ((b0 : Int) + 1)) rfl (L' := [(8, vI ((b0 : Int) + 1)), (0, .ref (A 0)), (1, .ref ((vG X).1.2 300)), (2, .ref a), (3, vI 0), (4, vI 0), (5, vI (1 + x19)), (6, vI (m0 : Int)), (7, vI (1 + x37))]) rfl ?_
                refine v_goto (tgt := 158) C dL_begins_235 (by decide) ?_
                refine V.loc (L' := [(0, .ref (A 0)), (1, .ref ((vG X).1.2 300)), (2, .ref a), (3, vI 0), (4, vI 0), (5, vI (1 + x19)), (6, vI (m0 : Int)), (7, vI (1 + x37)), (8, vI ((b0 : Int) + 1))]) [1, 2, 3, 4, 5, 6, 7, 8, 0] rfl ?_
                refine V.wid (k' := (17 + 13 * m0 + 2 + 2 * (b0 + 1))) (n' := (15204 + 13000 * m0 + 2000 + 2000 * (b0 + 1))) (by omega) (by omega) ?_
                refine V.eq rfl rfl rfl (L' := [(0, .ref (A 0)), (1, .ref ((vG X).1.2 300)), (2, .ref a), (3, vI 0), (4, vI 0), (5, vI (1 + x19)), (6, vI (m0 : Int)), (7, vI (1 + x37)), (8, vI ((b0 + 1 : Nat) : Int))]) (by rw [show ((b0 + 1 : Nat) : Int) = (b0 : Int) + 1 by omega]) rfl rfl ?_
                exact ih (b0 + 1) v43 p43 n43 f43 hk43 hbs2 (by omega) (by omega)
        exact lpb0 9 0 v36 p36 n36 f36 hk36 hbs0 (by omega) (by omega)
  exact lpm0 9 0 v18 p18 n18 f18 hk18 (by omega) (show RDS liI f18 n18 1 1 (TXF 0 0 0 1000) from hRw1) (by omega) (by omega)
end K5
