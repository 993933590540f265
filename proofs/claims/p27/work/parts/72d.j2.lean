section J2
set_option maxHeartbeats 4000000 in
set_option maxRecDepth 100000 in
theorem c_J0_getBytes_840e7 (G : GG) (l : Launch) (i : Nat) (b : List Int32) (v cap : Nat) (g : Int → Int) (d : Int) (hi : strB[i]? = some b) (h0 : 0 ≤ d) (h1 : d + (b.length : Int) ≤ (cap : Int)) (hc : cap ≤ 1000) : Ct G l yJ0_getBytes_840e7 (Cond.code yJ0_getBytes_840e7 cJ0_getBytes_840e7 4 none :: wsL_law) 1 60 0 0 [.ref (G.1.2 i), .ref v, vI d, vI 0] ([(v, .inl (G.2 0, cap, .inl (fI g)))]) (fun r w => r = none ∧ w = [(v, .inl (G.2 0, cap, .inl (fI (cpA (fun z => chK b z) g 0 d (b.length : Int)))))]) := by
  refine Ct.of (own := RJ0) (cc := cJ0_getBytes_840e7) (maxL := 4) (ret := none) (by decide) rfl rfl (Nat.le_of_ble_eq_true rfl) (fun X C E M hG hl => ?_)
  subst hG hl
  refine v_aload_n C dJ0_getBytes_840e7_0 rfl 0 rfl ?_
  refine v_callK (na := 0) (wy := (Cond.code yJ0_coder_7d493 cJ0_coder_7d493 1 (some .byte) :: wsL_law)) (wc := []) (wr := [(v, .inl ((vG X).2 0, cap, .inl (fI g)))]) C [] [] (c_J0_coder_7d493 _ _ i b hi) rfl (gwV mw_239 mw_236 mw_237 mw_238 mw_233) rfl (by decide +kernel) hi rfl rfl Sb.rf rfl rfl dJ0_getBytes_840e7_1 (fun r w1 hp1 => ?_)
  obtain ⟨rfl, rfl⟩ := hp1
  show V X 0 0 4 [(0, .ref ((vG X).1.2 i)), (1, .ref v), (2, vI d), (3, vI 0)] [vI 0] ([(v, .inl ((vG X).2 0, cap, .inl (fI g)))])
  refine v_iload_n C dJ0_getBytes_840e7_4 rfl 3 rfl ?_
  refine v_icmp_ne (tgt := 28) C dJ0_getBytes_840e7_5 (by decide) (by decide) (by decide) (fun c => absurd rfl c) (fun _ => ?_)
  refine v_aload_n C dJ0_getBytes_840e7_8 rfl 0 rfl ?_
  refine v_getKv C hi (List.mem_cons_of_mem _ mw_235) dJ0_getBytes_840e7_9 ?_
  refine v_iconst C dJ0_getBytes_840e7_12 ?_
  refine v_aload_n C dJ0_getBytes_840e7_13 rfl 1 rfl ?_
  refine v_iload_n C dJ0_getBytes_840e7_14 rfl 2 rfl ?_
  refine v_iload_n C dJ0_getBytes_840e7_15 rfl 3 rfl ?_
  refine v_ishl (z := d) C dJ0_getBytes_840e7_16 ishl0 ?_
  refine v_aload_n C dJ0_getBytes_840e7_17 rfl 0 rfl ?_
  refine v_getKv C hi (List.mem_cons_of_mem _ mw_235) dJ0_getBytes_840e7_18 ?_
  refine v_lenK C hi dJ0_getBytes_840e7_21 ?_
  refine v_cpyK C hi 0 (List.mem_cons_of_mem _ mw_371) (List.mem_cons_of_mem _ mw_185) (List.mem_cons_of_mem _ mw_186) (List.mem_cons_of_mem _ mw_187) rfl (by omega) (by omega) (by omega) (by decide) rfl dJ0_getBytes_840e7_22 (ws' := [(v, .inl ((vG X).2 0, cap, .inl (fI (cpA (fun z => chK b z) g 0 d (b.length : Int)))))]) rfl ?_
  refine v_goto (tgt := 43) C dJ0_getBytes_840e7_25 (by decide) ?_
  exact v_vret C E rfl dJ0_getBytes_840e7_43 (by decide) (by decide) (⟨rfl, rfl⟩)
set_option maxHeartbeats 4000000 in
set_option maxRecDepth 100000 in
theorem c_J5_inflateIfNeededFor_a7421 (G : GG) (l : Launch) (i : Nat) (b : List Int32) (a v cap : Nat) (n : Int) (f : Int → Int) (hi : strB[i]? = some b) : Ct G l yJ5_inflateIfNeededFor_a7421 (Cond.code yJ5_inflateIfNeededFor_a7421 cJ5_inflateIfNeededFor_a7421 2 none :: wsL_law) 1 20 0 0 [.ref a, .ref (G.1.2 i)] ([(a, .inr (8, [.ref v, vI 0, vI 0, vI n])), (v, .inl (G.2 0, cap, .inl (fI f)))]) (fun r w => r = none ∧ w = [(a, .inr (8, [.ref v, vI 0, vI 0, vI n])), (v, .inl (G.2 0, cap, .inl (fI f)))]) := by
  refine Ct.of (own := RJ5) (cc := cJ5_inflateIfNeededFor_a7421) (maxL := 2) (ret := none) (by decide) rfl rfl (Nat.le_of_ble_eq_true rfl) (fun X C E M hG hl => ?_)
  subst hG hl
  refine v_getCS C (List.mem_cons_of_mem _ mw_312) dJ5_inflateIfNeededFor_a7421_0 ?_
  refine v_if_eq (tgt := 21) C dJ5_inflateIfNeededFor_a7421_3 (by decide) (by decide) (fun c => absurd c (by decide)) (fun _ => ?_)
  refine v_aload_n C dJ5_inflateIfNeededFor_a7421_6 rfl 0 rfl ?_
  refine v_get (v := vI 0) C inw_8 0 1 rfl (by decide) (List.mem_cons_of_mem _ mw_228) rfl rfl dJ5_inflateIfNeededFor_a7421_7 ?_
  refine v_aload_n C dJ5_inflateIfNeededFor_a7421_10 rfl 1 rfl ?_
  refine v_callK (na := 0) (wy := (Cond.code yJ0_coder_7d493 cJ0_coder_7d493 1 (some .byte) :: wsL_law)) (wc := []) (wr := [(a, .inr (8, [.ref v, vI 0, vI 0, vI n])), (v, .inl ((vG X).2 0, cap, .inl (fI f)))]) C [] [vI 0] (c_J0_coder_7d493 _ _ i b hi) rfl (gwV mw_239 mw_242 mw_237 mw_238 mw_233) rfl (by decide +kernel) hi rfl rfl Sb.rf rfl rfl dJ5_inflateIfNeededFor_a7421_11 (fun r w1 hp11 => ?_)
  obtain ⟨rfl, rfl⟩ := hp11
  show V X 0 0 14 [(0, .ref a), (1, .ref ((vG X).1.2 i))] [vI 0, vI 0] ([(a, .inr (8, [.ref v, vI 0, vI 0, vI n])), (v, .inl ((vG X).2 0, cap, .inl (fI f)))])
  refine v_icmp_eq (tgt := 21) C dJ5_inflateIfNeededFor_a7421_14 (by decide) (by decide) (by decide) (fun _ => ?_) (fun c => absurd (by decide) c)
  exact v_vret C E rfl dJ5_inflateIfNeededFor_a7421_21 (by decide) (by decide) (⟨rfl, rfl⟩)
set_option maxHeartbeats 4000000 in
set_option maxRecDepth 100000 in
theorem c_J5_putStringAt_47b60 (G : GG) (l : Launch) (i : Nat) (b : List Int32) (a v cap : Nat) (n : Int) (f : Int → Int) (d : Int) (hi : strB[i]? = some b) (h0 : 0 ≤ d) (h1 : d + (b.length : Int) ≤ (cap : Int)) (hc : cap ≤ 1000) : Ct G l yJ5_putStringAt_47b60 (Cond.code yJ5_putStringAt_47b60 cJ5_putStringAt_47b60 3 none :: wsL_law) 2 83 0 0 [.ref a, vI d, .ref (G.1.2 i)] ([(a, .inr (8, [.ref v, vI 0, vI 0, vI n])), (v, .inl (G.2 0, cap, .inl (fI f)))]) (fun r w => r = none ∧ w = [(a, .inr (8, [.ref v, vI 0, vI 0, vI n])), (v, .inl (G.2 0, cap, .inl (fI (cpA (fun z => chK b z) f 0 d (b.length : Int)))))]) := by
  refine Ct.of (own := RJ5) (cc := cJ5_putStringAt_47b60) (maxL := 3) (ret := none) (by decide) rfl rfl (Nat.le_of_ble_eq_true rfl) (fun X C E M hG hl => ?_)
  subst hG hl
  refine v_aload_n C dJ5_putStringAt_47b60_0 rfl 0 rfl ?_
  refine v_aload_n C dJ5_putStringAt_47b60_1 rfl 2 rfl ?_
  refine v_callU (na := 1) (wy := (Cond.code yJ5_inflateIfNeededFor_a7421 cJ5_inflateIfNeededFor_a7421 2 none :: wsL_law)) (wc := [(a, .inr (8, [.ref v, vI 0, vI 0, vI n])), (v, .inl ((vG X).2 0, cap, .inl (fI f)))]) (wr := []) (owner := "java/lang/AbstractStringBuilder") (x := ⟨"java/lang/AbstractStringBuilder", "inflateIfNeededFor", "(Ljava/lang/String;)V"⟩) C [.ref ((vG X).1.2 i)] [] (c_J5_inflateIfNeededFor_a7421 _ _ i b a v cap n f hi) rfl (gwU mw_345 mw_341 mw_342 mw_343 mw_344 mw_223) rfl (by decide +kernel) 0 rfl rfl rfl rfl Sb.w rfl rfl dJ5_putStringAt_47b60_2 (fun r w1 hp2 => ?_)
  obtain ⟨rfl, rfl⟩ := hp2
  show V X 0 0 5 [(0, .ref a), (1, vI d), (2, .ref ((vG X).1.2 i))] [] ([(a, .inr (8, [.ref v, vI 0, vI 0, vI n])), (v, .inl ((vG X).2 0, cap, .inl (fI f)))])
  refine v_aload_n C dJ5_putStringAt_47b60_5 rfl 2 rfl ?_
  refine v_aload_n C dJ5_putStringAt_47b60_6 rfl 0 rfl ?_
  refine v_get (v := .ref v) C inw_8 0 0 rfl (by decide) (List.mem_cons_of_mem _ mw_229) rfl rfl dJ5_putStringAt_47b60_7 ?_
  refine v_iload_n C dJ5_putStringAt_47b60_10 rfl 1 rfl ?_
  refine v_aload_n C dJ5_putStringAt_47b60_11 rfl 0 rfl ?_
  refine v_get (v := vI 0) C inw_8 0 1 rfl (by decide) (List.mem_cons_of_mem _ mw_228) rfl rfl dJ5_putStringAt_47b60_12 ?_
  refine v_callK (na := 3) (wy := (Cond.code yJ0_getBytes_840e7 cJ0_getBytes_840e7 4 none :: wsL_law)) (wc := [(v, .inl ((vG X).2 0, cap, .inl (fI f)))]) (wr := [(a, .inr (8, [.ref v, vI 0, vI 0, vI n]))]) C [.ref v, vI d, vI 0] [] (c_J0_getBytes_840e7 _ _ i b v cap f d hi h0 h1 hc) rfl (gwV mw_370 mw_367 mw_368 mw_369 mw_233) rfl (by decide +kernel) hi rfl rfl (Sb.pl [1, 0] rfl rfl) rfl rfl dJ5_putStringAt_47b60_15 (fun r w1 hp15 => ?_)
  obtain ⟨rfl, rfl⟩ := hp15
  refine V.sb (ws' := [(a, .inr (8, [.ref v, vI 0, vI 0, vI n])), (v, .inl ((vG X).2 0, cap, .inl (fI (cpA (fun z => chK b z) f 0 d (b.length : Int)))))]) (Sb.pl [1, 0] rfl rfl) ?_
  show V X 0 0 18 [(0, .ref a), (1, vI d), (2, .ref ((vG X).1.2 i))] [] ([(a, .inr (8, [.ref v, vI 0, vI 0, vI n])), (v, .inl ((vG X).2 0, cap, .inl (fI (cpA (fun z => chK b z) f 0 d (b.length : Int)))))])
  exact v_vret C E rfl dJ5_putStringAt_47b60_18 (by decide) (by decide) (⟨rfl, rfl⟩)
set_option maxHeartbeats 4000000 in
set_option maxRecDepth 100000 in
theorem c_J5_append_cf1ce (G : GG) (l : Launch) (i : Nat) (b : List Int32) (a v cap : Nat) (n : Int) (f : Int → Int) (hi : strB[i]? = some b) (hc : cap ≤ 1000) (hn : 0 ≤ n ∧ n ≤ (cap : Int)) (hb : btO f) (hm : n + (b.length : Int) ≤ 500) : Ct G l yJ5_append_cf1ce (Cond.code yJ5_append_cf1ce cJ5_append_cf1ce 3 (some (.object "java/lang/AbstractStringBuilder")) :: wsL_law) 4 105 1 1000 [.ref a, .ref (G.1.2 i)] ([(a, .inr (8, [.ref v, vI 0, vI 0, vI n])), (v, .inl (G.2 0, cap, .inl (fI f)))]) (fun r w => r = some (.ref a) ∧ ∃ (v2 cap2 : Nat) (f2 : Int → Int), w = [(a, .inr (8, [.ref v2, vI 0, vI 0, vI (n + (b.length : Int))])), (v2, .inl (G.2 0, cap2, .inl (fI f2)))] ∧ cap2 ≤ 1000 ∧ (n + (b.length : Int)) ≤ (cap2 : Int) ∧ btO f2 ∧ apS f n (fun j => chK b j) (b.length : Int) f2) := by
  refine Ct.of (own := RJ5) (cc := cJ5_append_cf1ce) (maxL := 3) (ret := (some (.object "java/lang/AbstractStringBuilder"))) (by decide) rfl rfl (Nat.le_of_ble_eq_true rfl) (fun X C E M hG hl => ?_)
  subst hG hl
  have hk := strB_ok hi
  refine v_aload_n C dJ5_append_cf1ce_0 rfl 1 rfl ?_
  refine v_ifnonnull (tgt := 9) C dJ5_append_cf1ce_1 (by decide) ?_
  refine v_aload_n C dJ5_append_cf1ce_9 rfl 1 rfl ?_
  refine v_callK (na := 0) (wy := (Cond.code yJ0_length_8abf5 cJ0_length_8abf5 1 (some .int) :: wsL_law)) (wc := []) (wr := [(a, .inr (8, [.ref v, vI 0, vI 0, vI n])), (v, .inl ((vG X).2 0, cap, .inl (fI f)))]) C [] [] (c_J0_length_8abf5 _ _ i b hi) rfl (gwV mw_234 mw_230 mw_231 mw_232 mw_233) rfl (by decide +kernel) hi rfl rfl Sb.rf rfl rfl dJ5_append_cf1ce_10 (fun r w1 hp10 => ?_)
  obtain ⟨rfl, rfl⟩ := hp10
  show V X 0 0 13 [(0, .ref a), (1, .ref ((vG X).1.2 i))] [vI (b.length : Int)] ([(a, .inr (8, [.ref v, vI 0, vI 0, vI n])), (v, .inl ((vG X).2 0, cap, .inl (fI f)))])
  refine v_istore_n C M dJ5_append_cf1ce_13 rfl (by decide) (L' := [(2, vI (b.length : Int)), (0, .ref a), (1, .ref ((vG X).1.2 i))]) rfl ?_
  refine v_aload_n C dJ5_append_cf1ce_14 rfl 1 rfl ?_
  refine v_aload_n C dJ5_append_cf1ce_15 rfl 1 rfl ?_
  refine v_get (v := vI n) C inw_8 0 3 rfl (by decide) (List.mem_cons_of_mem _ mw_265) rfl rfl dJ5_append_cf1ce_16 ?_
  refine v_iload_n C dJ5_append_cf1ce_19 rfl 0 rfl ?_
  refine v_iadd C dJ5_append_cf1ce_20 ?_
  refine v_callU (na := 1) (wy := (Cond.code yJ5_ensureCapacityInternal_d00df cJ5_ensureCapacityInternal_d00df 3 none :: wsL_law)) (wc := [(a, .inr (8, [.ref v, vI 0, vI 0, vI n])), (v, .inl ((vG X).2 0, cap, .inl (fI f)))]) (wr := []) (owner := "java/lang/AbstractStringBuilder") (x := ⟨"java/lang/AbstractStringBuilder", "ensureCapacityInternal", "(I)V"⟩) C [vI (n + (b.length : Int))] [] (c_J5_ensureCapacityInternal_d00df _ _ a v cap n f (n + (b.length : Int)) hc hn hb (by omega)) rfl (gwU mw_275 mw_271 mw_272 mw_273 mw_274 mw_223) rfl (by decide +kernel) 0 rfl rfl rfl rfl Sb.w rfl rfl dJ5_append_cf1ce_21 (fun r w1 hp21 => ?_)
  obtain ⟨rfl, v2, cap2, f2, rfl, ⟨e1, e2, e3⟩, e4, e5⟩ := hp21
  show V X 1 1000 24 [(2, vI (b.length : Int)), (0, .ref a), (1, .ref ((vG X).1.2 i))] [] ([(a, .inr (8, [.ref v2, vI 0, vI 0, vI n])), (v2, .inl ((vG X).2 0, cap2, .inl (fI f2)))])
  refine v_aload_n C dJ5_append_cf1ce_24 rfl 1 rfl ?_
  refine v_aload_n C dJ5_append_cf1ce_25 rfl 1 rfl ?_
  refine v_get (v := vI n) C inw_8 0 3 rfl (by decide) (List.mem_cons_of_mem _ mw_265) rfl rfl dJ5_append_cf1ce_26 ?_
  refine v_aload_n C dJ5_append_cf1ce_29 rfl 2 rfl ?_
  refine v_callU (na := 2) (wy := (Cond.code yJ5_putStringAt_47b60 cJ5_putStringAt_47b60 3 none :: wsL_law)) (wc := [(a, .inr (8, [.ref v2, vI 0, vI 0, vI n])), (v2, .inl ((vG X).2 0, cap2, .inl (fI f2)))]) (wr := []) (owner := "java/lang/AbstractStringBuilder") (x := ⟨"java/lang/AbstractStringBuilder", "putStringAt", "(ILjava/lang/String;)V"⟩) C [vI n, .ref ((vG X).1.2 i)] [] (c_J5_putStringAt_47b60 _ _ i b a v2 cap2 n f2 n hi hn.1 e1 e3) rfl (gwU mw_340 mw_336 mw_337 mw_338 mw_339 mw_223) rfl (by decide +kernel) 0 rfl rfl rfl rfl Sb.w rfl rfl dJ5_append_cf1ce_30 (fun r w1 hp30 => ?_)
  obtain ⟨rfl, rfl⟩ := hp30
  show V X 1 1000 33 [(2, vI (b.length : Int)), (0, .ref a), (1, .ref ((vG X).1.2 i))] [] ([(a, .inr (8, [.ref v2, vI 0, vI 0, vI n])), (v2, .inl ((vG X).2 0, cap2, .inl (fI (cpA (fun z => chK b z) f2 0 n (b.length : Int)))))])
  refine v_aload_n C dJ5_append_cf1ce_33 rfl 1 rfl ?_
  refine v_dup C dJ5_append_cf1ce_34 rfl ?_
  refine v_get (v := vI n) C inw_8 0 3 rfl (by decide) (List.mem_cons_of_mem _ mw_265) rfl rfl dJ5_append_cf1ce_35 ?_
  refine v_iload_n C dJ5_append_cf1ce_38 rfl 0 rfl ?_
  refine v_iadd C dJ5_append_cf1ce_39 ?_
  refine v_put C inw_8 tyX8 tyX8_ok nmX8 0 3 rfl (by decide) (List.mem_cons_of_mem _ mw_265) rfl rfl rfl rfl (Nat.le_of_ble_eq_true rfl) dJ5_append_cf1ce_40 (ws' := [(a, .inr (8, [.ref v2, vI 0, vI 0, vI (n + (b.length : Int))])), (v2, .inl ((vG X).2 0, cap2, .inl (fI (cpA (fun z => chK b z) f2 0 n (b.length : Int)))))]) rfl ?_
  refine v_aload_n C dJ5_append_cf1ce_43 rfl 1 rfl ?_
  exact v_aret C E rfl (Or.inl ⟨_, rfl⟩) (Or.inr ⟨_, rfl⟩) dJ5_append_cf1ce_44 (by decide) (by decide) ⟨rfl, v2, cap2, (cpA (fun z => chK b z) f2 0 n (b.length : Int)), rfl, e3, e1, cpA_bt hi e4, cpA_ap hn e2 e5⟩
set_option maxHeartbeats 4000000 in
set_option maxRecDepth 100000 in
theorem c_J4_append_15ec4 (G : GG) (l : Launch) (i : Nat) (b : List Int32) (a v cap : Nat) (n : Int) (f : Int → Int) (hi : strB[i]? = some b) (hc : cap ≤ 1000) (hn : 0 ≤ n ∧ n ≤ (cap : Int)) (hb : btO f) (hm : n + (b.length : Int) ≤ 500) : Ct G l yJ4_append_15ec4 (Cond.code yJ4_append_15ec4 cJ4_append_15ec4 2 (some (.object "java/lang/StringBuilder")) :: wsL_law) 5 127 1 1000 [.ref a, .ref (G.1.2 i)] ([(a, .inr (8, [.ref v, vI 0, vI 0, vI n])), (v, .inl (G.2 0, cap, .inl (fI f)))]) (fun r w => r = some (.ref a) ∧ ∃ (v2 cap2 : Nat) (f2 : Int → Int), w = [(a, .inr (8, [.ref v2, vI 0, vI 0, vI (n + (b.length : Int))])), (v2, .inl (G.2 0, cap2, .inl (fI f2)))] ∧ cap2 ≤ 1000 ∧ (n + (b.length : Int)) ≤ (cap2 : Int) ∧ btO f2 ∧ apS f n (fun j => chK b j) (b.length : Int) f2) := by
  refine Ct.of (own := RJ4) (cc := cJ4_append_15ec4) (maxL := 2) (ret := (some (.object "java/lang/StringBuilder"))) (by decide) rfl rfl (Nat.le_of_ble_eq_true rfl) (fun X C E M hG hl => ?_)
  subst hG hl
  refine v_aload_n C dJ4_append_15ec4_0 rfl 0 rfl ?_
  refine v_aload_n C dJ4_append_15ec4_1 rfl 1 rfl ?_
  refine v_callSU (na := 1) (wy := (Cond.code yJ5_append_cf1ce cJ5_append_cf1ce 3 (some (.object "java/lang/AbstractStringBuilder")) :: wsL_law)) (wc := [(a, .inr (8, [.ref v, vI 0, vI 0, vI n])), (v, .inl ((vG X).2 0, cap, .inl (fI f)))]) (wr := []) C [.ref ((vG X).1.2 i)] [] (c_J5_append_cf1ce _ _ i b a v cap n f hi hc hn hb hm) rfl (gwSU mw_264 mw_261 mw_252 mw_262 mw_263 mw_223) (by decide +kernel) 0 rfl rfl rfl rfl Sb.w rfl rfl dJ4_append_15ec4_2 (fun r w1 hp2 => ?_)
  obtain ⟨rfl, v2, cap2, f2, rfl, e1, e2, e3, e4⟩ := hp2
  show V X 1 1000 5 [(0, .ref a), (1, .ref ((vG X).1.2 i))] [.ref a] ([(a, .inr (8, [.ref v2, vI 0, vI 0, vI (n + (b.length : Int))])), (v2, .inl ((vG X).2 0, cap2, .inl (fI f2)))])
  refine v_pop C dJ4_append_15ec4_5 rfl ?_
  refine v_aload_n C dJ4_append_15ec4_6 rfl 0 rfl ?_
  exact v_aret C E rfl (Or.inl ⟨_, rfl⟩) (Or.inr ⟨_, rfl⟩) dJ4_append_15ec4_7 (by decide) (by decide) ⟨rfl, v2, cap2, f2, rfl, e1, e2, e3, e4⟩
set_option maxHeartbeats 4000000 in
set_option maxRecDepth 100000 in
theorem c_J4_append_cf1ce (G : GG) (l : Launch) (i : Nat) (b : List Int32) (a v cap : Nat) (n : Int) (f : Int → Int) (hi : strB[i]? = some b) (hc : cap ≤ 1000) (hn : 0 ≤ n ∧ n ≤ (cap : Int)) (hb : btO f) (hm : n + (b.length : Int) ≤ 500) : Ct G l yJ4_append_cf1ce (Cond.code yJ4_append_cf1ce cJ4_append_cf1ce 2 (some (.object "java/lang/AbstractStringBuilder")) :: wsL_law) 6 148 1 1000 [.ref a, .ref (G.1.2 i)] ([(a, .inr (8, [.ref v, vI 0, vI 0, vI n])), (v, .inl (G.2 0, cap, .inl (fI f)))]) (fun r w => r = some (.ref a) ∧ ∃ (v2 cap2 : Nat) (f2 : Int → Int), w = [(a, .inr (8, [.ref v2, vI 0, vI 0, vI (n + (b.length : Int))])), (v2, .inl (G.2 0, cap2, .inl (fI f2)))] ∧ cap2 ≤ 1000 ∧ (n + (b.length : Int)) ≤ (cap2 : Int) ∧ btO f2 ∧ apS f n (fun j => chK b j) (b.length : Int) f2) := by
  refine Ct.of (own := RJ4) (cc := cJ4_append_cf1ce) (maxL := 2) (ret := (some (.object "java/lang/AbstractStringBuilder"))) (by decide) rfl rfl (Nat.le_of_ble_eq_true rfl) (fun X C E M hG hl => ?_)
  subst hG hl
  refine v_aload_n C dJ4_append_cf1ce_0 rfl 0 rfl ?_
  refine v_aload_n C dJ4_append_cf1ce_1 rfl 1 rfl ?_
  refine v_callV (na := 1) (wy := (Cond.code yJ4_append_15ec4 cJ4_append_15ec4 2 (some (.object "java/lang/StringBuilder")) :: wsL_law)) (wc := [(a, .inr (8, [.ref v, vI 0, vI 0, vI n])), (v, .inl ((vG X).2 0, cap, .inl (fI f)))]) (wr := []) C [.ref ((vG X).1.2 i)] [] (c_J4_append_15ec4 _ _ i b a v cap n f hi hc hn hb hm) rfl (gwV mw_260 mw_257 mw_258 mw_259 mw_217) rfl (by decide +kernel) 0 rfl rfl rfl rfl Sb.w rfl rfl dJ4_append_cf1ce_2 (fun r w1 hp2 => ?_)
  obtain ⟨rfl, v2, cap2, f2, rfl, e1, e2, e3, e4⟩ := hp2
  show V X 1 1000 5 [(0, .ref a), (1, .ref ((vG X).1.2 i))] [.ref a] ([(a, .inr (8, [.ref v2, vI 0, vI 0, vI (n + (b.length : Int))])), (v2, .inl ((vG X).2 0, cap2, .inl (fI f2)))])
  exact v_aret C E rfl (Or.inl ⟨_, rfl⟩) (Or.inr ⟨_, rfl⟩) dJ4_append_cf1ce_5 (by decide) (by decide) ⟨rfl, v2, cap2, f2, rfl, e1, e2, e3, e4⟩
set_option maxHeartbeats 4000000 in
set_option maxRecDepth 100000 in
theorem c_J5_isLatin1_aae02 (G : GG) (l : Launch) (a v cap : Nat) (n : Int) (f : Int → Int)  : Ct G l yJ5_isLatin1_aae02 (Cond.code yJ5_isLatin1_aae02 cJ5_isLatin1_aae02 1 (some .boolean) :: wsL_law) 0 0 0 0 [.ref a] ([(a, .inr (8, [.ref v, vI 0, vI 0, vI n])), (v, .inl (G.2 0, cap, .inl (fI f)))]) (fun r w => r = some (vI 1) ∧ w = [(a, .inr (8, [.ref v, vI 0, vI 0, vI n])), (v, .inl (G.2 0, cap, .inl (fI f)))]) := by
  refine Ct.of (own := RJ5) (cc := cJ5_isLatin1_aae02) (maxL := 1) (ret := (some .boolean)) (by decide) rfl rfl (Nat.le_of_ble_eq_true rfl) (fun X C E M hG hl => ?_)
  subst hG hl
  refine v_getCS C (List.mem_cons_of_mem _ mw_312) dJ5_isLatin1_aae02_0 ?_
  refine v_if_eq (tgt := 17) C dJ5_isLatin1_aae02_3 (by decide) (by decide) (fun c => absurd c (by decide)) (fun _ => ?_)
  refine v_aload_n C dJ5_isLatin1_aae02_6 rfl 0 rfl ?_
  refine v_get (v := vI 0) C inw_8 0 1 rfl (by decide) (List.mem_cons_of_mem _ mw_228) rfl rfl dJ5_isLatin1_aae02_7 ?_
  refine v_if_ne (tgt := 17) C dJ5_isLatin1_aae02_10 (by decide) (by decide) (fun c => absurd (by decide) c) (fun _ => ?_)
  refine v_iconst C dJ5_isLatin1_aae02_13 ?_
  refine v_goto (tgt := 18) C dJ5_isLatin1_aae02_14 (by decide) ?_
  exact v_zret C E rfl rfl dJ5_isLatin1_aae02_18 (by decide) (by decide) (⟨rfl, rfl⟩)
set_option maxHeartbeats 4000000 in
set_option maxRecDepth 100000 in
theorem c_J5_append_c97b9 (G : GG) (l : Launch) (a v cap : Nat) (n : Int) (f : Int → Int) (x : Int) (hc : cap ≤ 1000) (hn : 0 ≤ n ∧ n ≤ (cap : Int)) (hb : btO f) (hx : 0 ≤ x ∧ x ≤ 255) (hm : n + szI x ≤ 500) : Ct G l yJ5_append_c97b9 (Cond.code yJ5_append_c97b9 cJ5_append_c97b9 4 (some (.object "java/lang/AbstractStringBuilder")) :: wsL_law) 4 104 1 1000 [.ref a, vI x] ([(a, .inr (8, [.ref v, vI 0, vI 0, vI n])), (v, .inl (G.2 0, cap, .inl (fI f)))]) (fun r w => r = some (.ref a) ∧ ∃ (v2 cap2 : Nat) (f2 : Int → Int), w = [(a, .inr (8, [.ref v2, vI 0, vI 0, vI (n + (szI x))])), (v2, .inl (G.2 0, cap2, .inl (fI f2)))] ∧ cap2 ≤ 1000 ∧ (n + (szI x)) ≤ (cap2 : Int) ∧ btO f2 ∧ apS f n (dgI x) (szI x) f2) := by
  refine Ct.of (own := RJ5) (cc := cJ5_append_c97b9) (maxL := 4) (ret := (some (.object "java/lang/AbstractStringBuilder"))) (by decide) rfl rfl (Nat.le_of_ble_eq_true rfl) (fun X C E M hG hl => ?_)
  subst hG hl
  have hs := szI_in (v := x)
  refine v_aload_n C dJ5_append_c97b9_0 rfl 0 rfl ?_
  refine v_get (v := vI n) C inw_8 0 3 rfl (by decide) (List.mem_cons_of_mem _ mw_265) rfl rfl dJ5_append_c97b9_1 ?_
  refine v_istore_n C M dJ5_append_c97b9_4 rfl (by decide) (L' := [(2, vI n), (0, .ref a), (1, vI x)]) rfl ?_
  refine v_iload_n C dJ5_append_c97b9_5 rfl 0 rfl ?_
  refine v_iload_n C dJ5_append_c97b9_6 rfl 2 rfl ?_
  refine v_callS (na := 1) (wy := (Cond.code yJ6_stringSize_0f7a4 cJ6_stringSize_0f7a4 4 (some .int) :: wsL_law)) (wc := []) (wr := [(a, .inr (8, [.ref v, vI 0, vI 0, vI n])), (v, .inl ((vG X).2 0, cap, .inl (fI f)))]) C [vI x] [vI n] (c_J6_stringSize_0f7a4 _ _ x hx.1 hx.2) rfl (gwS mw_392 mw_389 mw_390 mw_391) (by decide +kernel) rfl rfl Sb.rf rfl rfl dJ5_append_c97b9_7 (fun r w1 hp7 => ?_)
  obtain ⟨rfl, rfl⟩ := hp7
  show V X 0 0 10 [(2, vI n), (0, .ref a), (1, vI x)] [vI (szI x), vI n] ([(a, .inr (8, [.ref v, vI 0, vI 0, vI n])), (v, .inl ((vG X).2 0, cap, .inl (fI f)))])
  refine v_iadd C dJ5_append_c97b9_10 ?_
  refine v_istore_n C M dJ5_append_c97b9_11 rfl (by decide) (L' := [(3, vI (n + (szI x))), (2, vI n), (0, .ref a), (1, vI x)]) rfl ?_
  refine v_aload_n C dJ5_append_c97b9_12 rfl 2 rfl ?_
  refine v_iload_n C dJ5_append_c97b9_13 rfl 0 rfl ?_
  refine v_callU (na := 1) (wy := (Cond.code yJ5_ensureCapacityInternal_d00df cJ5_ensureCapacityInternal_d00df 3 none :: wsL_law)) (wc := [(a, .inr (8, [.ref v, vI 0, vI 0, vI n])), (v, .inl ((vG X).2 0, cap, .inl (fI f)))]) (wr := []) (owner := "java/lang/AbstractStringBuilder") (x := ⟨"java/lang/AbstractStringBuilder", "ensureCapacityInternal", "(I)V"⟩) C [vI (n + (szI x))] [] (c_J5_ensureCapacityInternal_d00df _ _ a v cap n f (n + (szI x)) hc hn hb (by omega)) rfl (gwU mw_275 mw_271 mw_272 mw_273 mw_274 mw_223) rfl (by decide +kernel) 0 rfl rfl rfl rfl Sb.w rfl rfl dJ5_append_c97b9_14 (fun r w1 hp14 => ?_)
  obtain ⟨rfl, v2, cap2, f2, rfl, ⟨e1, e2, e3⟩, e4, e5⟩ := hp14
  show V X 1 1000 17 [(3, vI (n + (szI x))), (2, vI n), (0, .ref a), (1, vI x)] [] ([(a, .inr (8, [.ref v2, vI 0, vI 0, vI n])), (v2, .inl ((vG X).2 0, cap2, .inl (fI f2)))])
  refine v_aload_n C dJ5_append_c97b9_17 rfl 2 rfl ?_
  refine v_callU (na := 0) (wy := (Cond.code yJ5_isLatin1_aae02 cJ5_isLatin1_aae02 1 (some .boolean) :: wsL_law)) (wc := [(a, .inr (8, [.ref v2, vI 0, vI 0, vI n])), (v2, .inl ((vG X).2 0, cap2, .inl (fI f2)))]) (wr := []) (owner := "java/lang/AbstractStringBuilder") (x := ⟨"java/lang/AbstractStringBuilder", "isLatin1", "()Z"⟩) C [] [] (c_J5_isLatin1_aae02 _ _ a v2 cap2 n f2) rfl (gwU mw_311 mw_307 mw_308 mw_309 mw_310 mw_223) rfl (by decide +kernel) 0 rfl rfl rfl rfl Sb.w rfl rfl dJ5_append_c97b9_18 (fun r w1 hp18 => ?_)
  obtain ⟨rfl, rfl⟩ := hp18
  show V X 1 1000 21 [(3, vI (n + (szI x))), (2, vI n), (0, .ref a), (1, vI x)] [vI 1] ([(a, .inr (8, [.ref v2, vI 0, vI 0, vI n])), (v2, .inl ((vG X).2 0, cap2, .inl (fI f2)))])
  refine v_if_eq (tgt := 37) C dJ5_append_c97b9_21 (by decide) (by decide) (fun c => absurd c (by decide)) (fun _ => ?_)
  refine v_iload_n C dJ5_append_c97b9_24 rfl 3 rfl ?_
  refine v_iload_n C dJ5_append_c97b9_25 rfl 0 rfl ?_
  refine v_aload_n C dJ5_append_c97b9_26 rfl 2 rfl ?_
  refine v_get (v := .ref v2) C inw_8 0 0 rfl (by decide) (List.mem_cons_of_mem _ mw_229) rfl rfl dJ5_append_c97b9_27 ?_
  refine v_callS (na := 3) (wy := (Cond.code yJ6_getChars_ba4f3 cJ6_getChars_ba4f3 7 (some .int) :: wsL_law)) (wc := [(v2, .inl ((vG X).2 0, cap2, .inl (fI f2)))]) (wr := [(a, .inr (8, [.ref v2, vI 0, vI 0, vI n]))]) C [vI x, vI (n + (szI x)), .ref v2] [] (c_J6_getChars_ba4f3 _ _ v2 cap2 f2 x (n + (szI x)) hx.1 hx.2 (by omega) e1 e3) rfl (gwS mw_395 mw_393 mw_394 mw_391) (by decide +kernel) rfl rfl (Sb.pl [1, 0] rfl rfl) rfl rfl dJ5_append_c97b9_30 (fun r w1 hp30 => ?_)
  obtain ⟨z, rfl, rfl⟩ := hp30
  refine V.sb (ws' := [(a, .inr (8, [.ref v2, vI 0, vI 0, vI n])), (v2, .inl ((vG X).2 0, cap2, .inl (fI (wdI f2 x (n + (szI x))))))]) (Sb.pl [1, 0] rfl rfl) ?_
  show V X 1 1000 33 [(3, vI (n + (szI x))), (2, vI n), (0, .ref a), (1, vI x)] [vI z] ([(a, .inr (8, [.ref v2, vI 0, vI 0, vI n])), (v2, .inl ((vG X).2 0, cap2, .inl (fI (wdI f2 x (n + (szI x))))))])
  refine v_pop C dJ5_append_c97b9_33 rfl ?_
  refine v_goto (tgt := 48) C dJ5_append_c97b9_34 (by decide) ?_
  refine v_aload_n C dJ5_append_c97b9_48 rfl 2 rfl ?_
  refine v_iload_n C dJ5_append_c97b9_49 rfl 0 rfl ?_
  refine v_put C inw_8 tyX8 tyX8_ok nmX8 0 3 rfl (by decide) (List.mem_cons_of_mem _ mw_265) rfl rfl rfl rfl (Nat.le_of_ble_eq_true rfl) dJ5_append_c97b9_50 (ws' := [(a, .inr (8, [.ref v2, vI 0, vI 0, vI (n + (szI x))])), (v2, .inl ((vG X).2 0, cap2, .inl (fI (wdI f2 x (n + (szI x))))))]) rfl ?_
  refine v_aload_n C dJ5_append_c97b9_53 rfl 2 rfl ?_
  exact v_aret C E rfl (Or.inl ⟨_, rfl⟩) (Or.inr ⟨_, rfl⟩) dJ5_append_c97b9_54 (by decide) (by decide) ⟨rfl, v2, cap2, (wdI f2 x (n + (szI x))), rfl, e3, e1, wdI_bt hx e4, wdI_ap hx hn e2 e5⟩
set_option maxHeartbeats 4000000 in
set_option maxRecDepth 100000 in
theorem c_J4_append_bf812 (G : GG) (l : Launch) (a v cap : Nat) (n : Int) (f : Int → Int) (x : Int) (hc : cap ≤ 1000) (hn : 0 ≤ n ∧ n ≤ (cap : Int)) (hb : btO f) (hx : 0 ≤ x ∧ x ≤ 255) (hm : n + szI x ≤ 500) : Ct G l yJ4_append_bf812 (Cond.code yJ4_append_bf812 cJ4_append_bf812 2 (some (.object "java/lang/StringBuilder")) :: wsL_law) 5 127 1 1000 [.ref a, vI x] ([(a, .inr (8, [.ref v, vI 0, vI 0, vI n])), (v, .inl (G.2 0, cap, .inl (fI f)))]) (fun r w => r = some (.ref a) ∧ ∃ (v2 cap2 : Nat) (f2 : Int → Int), w = [(a, .inr (8, [.ref v2, vI 0, vI 0, vI (n + (szI x))])), (v2, .inl (G.2 0, cap2, .inl (fI f2)))] ∧ cap2 ≤ 1000 ∧ (n + (szI x)) ≤ (cap2 : Int) ∧ btO f2 ∧ apS f n (dgI x) (szI x) f2) := by
  refine Ct.of (own := RJ4) (cc := cJ4_append_bf812) (maxL := 2) (ret := (some (.object "java/lang/StringBuilder"))) (by decide) rfl rfl (Nat.le_of_ble_eq_true rfl) (fun X C E M hG hl => ?_)
  subst hG hl
  refine v_aload_n C dJ4_append_bf812_0 rfl 0 rfl ?_
  refine v_iload_n C dJ4_append_bf812_1 rfl 1 rfl ?_
  refine v_callSU (na := 1) (wy := (Cond.code yJ5_append_c97b9 cJ5_append_c97b9 4 (some (.object "java/lang/AbstractStringBuilder")) :: wsL_law)) (wc := [(a, .inr (8, [.ref v, vI 0, vI 0, vI n])), (v, .inl ((vG X).2 0, cap, .inl (fI f)))]) (wr := []) C [vI x] [] (c_J5_append_c97b9 _ _ a v cap n f x hc hn hb hx hm) rfl (gwSU mw_388 mw_385 mw_386 mw_262 mw_387 mw_223) (by decide +kernel) 0 rfl rfl rfl rfl Sb.w rfl rfl dJ4_append_bf812_2 (fun r w1 hp2 => ?_)
  obtain ⟨rfl, v2, cap2, f2, rfl, e1, e2, e3, e4⟩ := hp2
  show V X 1 1000 5 [(0, .ref a), (1, vI x)] [.ref a] ([(a, .inr (8, [.ref v2, vI 0, vI 0, vI (n + (szI x))])), (v2, .inl ((vG X).2 0, cap2, .inl (fI f2)))])
  refine v_pop C dJ4_append_bf812_5 rfl ?_
  refine v_aload_n C dJ4_append_bf812_6 rfl 0 rfl ?_
  exact v_aret C E rfl (Or.inl ⟨_, rfl⟩) (Or.inr ⟨_, rfl⟩) dJ4_append_bf812_7 (by decide) (by decide) ⟨rfl, v2, cap2, f2, rfl, e1, e2, e3, e4⟩
set_option maxHeartbeats 4000000 in
set_option maxRecDepth 100000 in
theorem c_J5_length_8abf5 (G : GG) (l : Launch) (a v cap : Nat) (n : Int) (f : Int → Int)  : Ct G l yJ5_length_8abf5 (Cond.code yJ5_length_8abf5 cJ5_length_8abf5 1 (some .int) :: wsL_law) 0 0 0 0 [.ref a] ([(a, .inr (8, [.ref v, vI 0, vI 0, vI n])), (v, .inl (G.2 0, cap, .inl (fI f)))]) (fun r w => r = some (vI n) ∧ w = [(a, .inr (8, [.ref v, vI 0, vI 0, vI n])), (v, .inl (G.2 0, cap, .inl (fI f)))]) := by
  refine Ct.of (own := RJ5) (cc := cJ5_length_8abf5) (maxL := 1) (ret := (some .int)) (by decide) rfl rfl (Nat.le_of_ble_eq_true rfl) (fun X C E M hG hl => ?_)
  subst hG hl
  refine v_aload_n C dJ5_length_8abf5_0 rfl 0 rfl ?_
  refine v_get (v := vI n) C inw_8 0 3 rfl (by decide) (List.mem_cons_of_mem _ mw_265) rfl rfl dJ5_length_8abf5_1 ?_
  exact v_iret C E rfl dJ5_length_8abf5_4 (by decide) (by decide) (⟨rfl, rfl⟩)
set_option maxHeartbeats 4000000 in
set_option maxRecDepth 100000 in
theorem c_J4_length_8abf5 (G : GG) (l : Launch) (a v cap : Nat) (n : Int) (f : Int → Int)  : Ct G l yJ4_length_8abf5 (Cond.code yJ4_length_8abf5 cJ4_length_8abf5 1 (some .int) :: wsL_law) 1 20 0 0 [.ref a] ([(a, .inr (8, [.ref v, vI 0, vI 0, vI n])), (v, .inl (G.2 0, cap, .inl (fI f)))]) (fun r w => r = some (vI n) ∧ w = [(a, .inr (8, [.ref v, vI 0, vI 0, vI n])), (v, .inl (G.2 0, cap, .inl (fI f)))]) := by
  refine Ct.of (own := RJ4) (cc := cJ4_length_8abf5) (maxL := 1) (ret := (some .int)) (by decide) rfl rfl (Nat.le_of_ble_eq_true rfl) (fun X C E M hG hl => ?_)
  subst hG hl
  refine v_aload_n C dJ4_length_8abf5_0 rfl 0 rfl ?_
  refine v_callSU (na := 0) (wy := (Cond.code yJ5_length_8abf5 cJ5_length_8abf5 1 (some .int) :: wsL_law)) (wc := [(a, .inr (8, [.ref v, vI 0, vI 0, vI n])), (v, .inl ((vG X).2 0, cap, .inl (fI f)))]) (wr := []) C [] [] (c_J5_length_8abf5 _ _ a v cap n f) rfl (gwSU mw_414 mw_411 mw_412 mw_262 mw_413 mw_223) (by decide +kernel) 0 rfl rfl rfl rfl Sb.w rfl rfl dJ4_length_8abf5_1 (fun r w1 hp1 => ?_)
  obtain ⟨rfl, rfl⟩ := hp1
  show V X 0 0 4 [(0, .ref a)] [vI n] ([(a, .inr (8, [.ref v, vI 0, vI 0, vI n])), (v, .inl ((vG X).2 0, cap, .inl (fI f)))])
  exact v_iret C E rfl dJ4_length_8abf5_4 (by decide) (by decide) (⟨rfl, rfl⟩)
set_option maxHeartbeats 4000000 in
set_option maxRecDepth 100000 in
theorem c_J5_charAt_5068e (G : GG) (l : Launch) (a v cap : Nat) (n : Int) (f : Int → Int) (z : Int) (hc : cap ≤ 1000) (hn : 0 ≤ n ∧ n ≤ (cap : Int)) (hb : btO f) (h0 : 0 ≤ z) (h1 : z < n) : Ct G l yJ5_charAt_5068e (Cond.code yJ5_charAt_5068e cJ5_charAt_5068e 5 (some .char) :: wsL_law) 2 60 0 0 [.ref a, vI z] ([(a, .inr (8, [.ref v, vI 0, vI 0, vI n])), (v, .inl (G.2 0, cap, .inl (fI f)))]) (fun r w => r = some (vI (f z)) ∧ w = [(a, .inr (8, [.ref v, vI 0, vI 0, vI n])), (v, .inl (G.2 0, cap, .inl (fI f)))]) := by
  refine Ct.of (own := RJ5) (cc := cJ5_charAt_5068e) (maxL := 5) (ret := (some .char)) (by decide) rfl rfl (Nat.le_of_ble_eq_true rfl) (fun X C E M hG hl => ?_)
  subst hG hl
  refine v_aload_n C dJ5_charAt_5068e_0 rfl 0 rfl ?_
  refine v_get (v := vI 0) C inw_8 0 1 rfl (by decide) (List.mem_cons_of_mem _ mw_228) rfl rfl dJ5_charAt_5068e_1 ?_
  refine v_istore_n C M dJ5_charAt_5068e_4 rfl (by decide) (L' := [(2, vI 0), (0, .ref a), (1, vI z)]) rfl ?_
  refine v_aload_n C dJ5_charAt_5068e_5 rfl 1 rfl ?_
  refine v_get (v := .ref v) C inw_8 0 0 rfl (by decide) (List.mem_cons_of_mem _ mw_229) rfl rfl dJ5_charAt_5068e_6 ?_
  refine v_astore_n C M dJ5_charAt_5068e_9 rfl (by decide) (L' := [(3, .ref v), (2, vI 0), (0, .ref a), (1, vI z)]) rfl ?_
  refine v_aload_n C dJ5_charAt_5068e_10 rfl 2 rfl ?_
  refine v_get (v := vI n) C inw_8 0 3 rfl (by decide) (List.mem_cons_of_mem _ mw_265) rfl rfl dJ5_charAt_5068e_11 ?_
  refine v_aload_n C dJ5_charAt_5068e_14 rfl 0 rfl ?_
  refine v_alen (z := (cap : Int)) C 1 0 rfl rfl (Int32.ofInt_eq_ofNat).symm dJ5_charAt_5068e_15 ?_
  refine v_iload_n C dJ5_charAt_5068e_16 rfl 1 rfl ?_
  refine v_ishr (z := (cap : Int)) C dJ5_charAt_5068e_17 ishr0 ?_
  refine v_mmin C ⟨by omega, by omega⟩ ⟨by omega, by omega⟩ (List.mem_cons_of_mem _ mw_423) (List.mem_cons_of_mem _ mw_304) (List.mem_cons_of_mem _ mw_287) (List.mem_cons_of_mem _ mw_305) (by decide) rfl rfl rfl dJ5_charAt_5068e_18 ?_
  refine V.top (show (if (cap : Int) < n then (cap : Int) else n) = n from (by split <;> omega)) ?_
  refine v_istore C M dJ5_charAt_5068e_21 (by decide) (L' := [(4, vI n), (3, .ref v), (2, vI 0), (0, .ref a), (1, vI z)]) rfl ?_
  refine v_iload_n C dJ5_charAt_5068e_23 rfl 4 rfl ?_
  refine v_iload C dJ5_charAt_5068e_24 0 rfl ?_
  refine v_callS (na := 2) (wy := (Cond.code yJ0_checkIndex_df160 cJ0_checkIndex_df160 2 none :: wsL_law)) (wc := []) (wr := [(a, .inr (8, [.ref v, vI 0, vI 0, vI n])), (v, .inl ((vG X).2 0, cap, .inl (fI f)))]) C [vI z, vI n] [] (c_J0_checkIndex_df160 _ _ z n h0 h1 (by omega)) rfl (gwS mw_426 mw_424 mw_425 mw_233) (by decide +kernel) rfl rfl Sb.rf rfl rfl dJ5_charAt_5068e_26 (fun r w1 hp26 => ?_)
  obtain ⟨rfl, rfl⟩ := hp26
  show V X 0 0 29 [(4, vI n), (3, .ref v), (2, vI 0), (0, .ref a), (1, vI z)] [] ([(a, .inr (8, [.ref v, vI 0, vI 0, vI n])), (v, .inl ((vG X).2 0, cap, .inl (fI f)))])
  refine v_iload_n C dJ5_charAt_5068e_29 rfl 2 rfl ?_
  refine v_if_ne (tgt := 42) C dJ5_charAt_5068e_30 (by decide) (by decide) (fun c => absurd (by decide) c) (fun _ => ?_)
  refine v_aload_n C dJ5_charAt_5068e_33 rfl 1 rfl ?_
  refine v_iload_n C dJ5_charAt_5068e_34 rfl 4 rfl ?_
  refine v_bald C 1 rfl (show (0 : Int) ≤ z by omega) (show z < ((cap : Nat) : Int) by omega) (by omega) dJ5_charAt_5068e_35 ?_
  have hk := hb z
  have e1 : f z % 256 = f z := by omega
  refine v_sipush C dJ5_charAt_5068e_36 (by decide +kernel) ?_
  refine v_iand C dJ5_charAt_5068e_39 (iI_and255 (f z)) ?_
  rw [e1]
  refine v_i2c C dJ5_charAt_5068e_40 (ch_16 hk.1 hk.2) ?_
  exact v_zret C E rfl (ch_nar hk.1 hk.2) dJ5_charAt_5068e_41 (by decide) (by decide) ⟨rfl, rfl⟩
set_option maxHeartbeats 4000000 in
set_option maxRecDepth 100000 in
theorem c_J4_charAt_5068e (G : GG) (l : Launch) (a v cap : Nat) (n : Int) (f : Int → Int) (z : Int) (hc : cap ≤ 1000) (hn : 0 ≤ n ∧ n ≤ (cap : Int)) (hb : btO f) (h0 : 0 ≤ z) (h1 : z < n) : Ct G l yJ4_charAt_5068e (Cond.code yJ4_charAt_5068e cJ4_charAt_5068e 2 (some .char) :: wsL_law) 3 84 0 0 [.ref a, vI z] ([(a, .inr (8, [.ref v, vI 0, vI 0, vI n])), (v, .inl (G.2 0, cap, .inl (fI f)))]) (fun r w => r = some (vI (f z)) ∧ w = [(a, .inr (8, [.ref v, vI 0, vI 0, vI n])), (v, .inl (G.2 0, cap, .inl (fI f)))]) := by
  refine Ct.of (own := RJ4) (cc := cJ4_charAt_5068e) (maxL := 2) (ret := (some .char)) (by decide) rfl rfl (Nat.le_of_ble_eq_true rfl) (fun X C E M hG hl => ?_)
  subst hG hl
  refine v_aload_n C dJ4_charAt_5068e_0 rfl 0 rfl ?_
  refine v_iload_n C dJ4_charAt_5068e_1 rfl 1 rfl ?_
  refine v_callSU (na := 1) (wy := (Cond.code yJ5_charAt_5068e cJ5_charAt_5068e 5 (some .char) :: wsL_law)) (wc := [(a, .inr (8, [.ref v, vI 0, vI 0, vI n])), (v, .inl ((vG X).2 0, cap, .inl (fI f)))]) (wr := []) C [vI z] [] (c_J5_charAt_5068e _ _ a v cap n f z hc hn hb h0 h1) rfl (gwSU mw_422 mw_419 mw_420 mw_262 mw_421 mw_223) (by decide +kernel) 0 rfl rfl rfl rfl Sb.w rfl rfl dJ4_charAt_5068e_2 (fun r w1 hp2 => ?_)
  obtain ⟨rfl, rfl⟩ := hp2
  show V X 0 0 5 [(0, .ref a), (1, vI z)] [vI (f z)] ([(a, .inr (8, [.ref v, vI 0, vI 0, vI n])), (v, .inl ((vG X).2 0, cap, .inl (fI f)))])
  have hk := hb z
  exact v_zret C E rfl (ch_nar hk.1 hk.2) dJ4_charAt_5068e_5 (by decide) (by decide) ⟨rfl, rfl⟩
set_option maxHeartbeats 4000000 in
set_option maxRecDepth 100000 in
theorem c_J5_init_a7421 (G : GG) (l : Launch) (i : Nat) (b : List Int32) (a : Nat) (hi : strB[i]? = some b) : Ct G l yJ5_init_a7421 (Cond.code yJ5_init_a7421 cJ5_init_a7421 5 none :: wsL_law) 7 169 2 1200 [.ref a, .ref (G.1.2 i)] ([(a, .inr (8, [.null, vI 0, vI 0, vI 0]))]) (fun r w => r = none ∧ ∃ (v2 cap2 : Nat) (f2 : Int → Int), w = [(a, .inr (8, [.ref v2, vI 0, vI 0, vI (b.length : Int)])), (v2, .inl (G.2 0, cap2, .inl (fI f2)))] ∧ cap2 ≤ 1000 ∧ (b.length : Int) ≤ (cap2 : Int) ∧ btO f2 ∧ apS (fun _ => 0) 0 (fun j => chK b j) (b.length : Int) f2) := by
  refine Ct.ofI (own := RJ5) (cc := cJ5_init_a7421) (maxL := 5) (ret := none) (by decide) rfl rfl (Nat.le_of_ble_eq_true rfl) (fun X C E M I hG hl => ?_)
  subst hG hl
  have hk := strB_ok hi
  refine v_aload_n C dJ5_init_a7421_0 rfl 0 rfl ?_
  refine v_objInit C (List.mem_cons_of_mem _ mw_225) (List.mem_cons_of_mem _ mw_7) (List.mem_cons_of_mem _ mw_8) (by decide) (by decide) dJ5_init_a7421_1 ?_
  refine v_aload_n C dJ5_init_a7421_4 rfl 1 rfl ?_
  refine v_callK (na := 0) (wy := (Cond.code yJ0_length_8abf5 cJ0_length_8abf5 1 (some .int) :: wsL_law)) (wc := []) (wr := [(a, .inr (8, [.null, vI 0, vI 0, vI 0]))]) C [] [] (c_J0_length_8abf5 _ _ i b hi) rfl (gwV mw_234 mw_230 mw_231 mw_232 mw_233) rfl (by decide +kernel) hi rfl rfl Sb.rf rfl rfl dJ5_init_a7421_5 (fun r w1 hp5 => ?_)
  obtain ⟨rfl, rfl⟩ := hp5
  show V X 0 0 8 [(0, .ref a), (1, .ref ((vG X).1.2 i))] [vI (b.length : Int)] ([(a, .inr (8, [.null, vI 0, vI 0, vI 0]))])
  refine v_istore_n C M dJ5_init_a7421_8 rfl (by decide) (L' := [(2, vI (b.length : Int)), (0, .ref a), (1, .ref ((vG X).1.2 i))]) rfl ?_
  refine v_iload_n C dJ5_init_a7421_9 rfl 0 rfl ?_
  refine v_ldcI (z := 2147483631) C (List.mem_cons_of_mem _ mw_226) (by decide +kernel) dJ5_init_a7421_10 ?_
  refine v_icmp_ge (tgt := 22) C dJ5_init_a7421_12 (by decide) ⟨by omega, by omega⟩ (by decide) (fun c => absurd c (by omega)) (fun _ => ?_)
  refine v_iload_n C dJ5_init_a7421_15 rfl 0 rfl ?_
  refine v_bipush C dJ5_init_a7421_16 (by decide +kernel) ?_
  refine v_iadd C dJ5_init_a7421_18 ?_
  refine v_goto (tgt := 24) C dJ5_init_a7421_19 (by decide) ?_
  refine v_istore_n C M dJ5_init_a7421_24 rfl (by decide) (L' := [(3, vI ((b.length : Int) + 16)), (2, vI (b.length : Int)), (0, .ref a), (1, .ref ((vG X).1.2 i))]) rfl ?_
  refine v_aload_n C dJ5_init_a7421_25 rfl 3 rfl ?_
  refine v_callK (na := 0) (wy := (Cond.code yJ0_coder_7d493 cJ0_coder_7d493 1 (some .byte) :: wsL_law)) (wc := []) (wr := [(a, .inr (8, [.null, vI 0, vI 0, vI 0]))]) C [] [] (c_J0_coder_7d493 _ _ i b hi) rfl (gwV mw_239 mw_242 mw_237 mw_238 mw_233) rfl (by decide +kernel) hi rfl rfl Sb.rf rfl rfl dJ5_init_a7421_26 (fun r w1 hp26 => ?_)
  obtain ⟨rfl, rfl⟩ := hp26
  show V X 0 0 29 [(3, vI ((b.length : Int) + 16)), (2, vI (b.length : Int)), (0, .ref a), (1, .ref ((vG X).1.2 i))] [vI 0] ([(a, .inr (8, [.null, vI 0, vI 0, vI 0]))])
  refine v_istore C M dJ5_init_a7421_29 (by decide) (L' := [(4, vI 0), (3, vI ((b.length : Int) + 16)), (2, vI (b.length : Int)), (0, .ref a), (1, .ref ((vG X).1.2 i))]) rfl ?_
  refine v_aload_n C dJ5_init_a7421_31 rfl 3 rfl ?_
  refine v_iload C dJ5_init_a7421_32 0 rfl ?_
  refine v_put C inw_8 tyX8 tyX8_ok nmX8 0 1 rfl (by decide) (List.mem_cons_of_mem _ mw_228) rfl rfl rfl rfl (Nat.le_of_ble_eq_true rfl) dJ5_init_a7421_34 (ws' := [(a, .inr (8, [.null, vI 0, vI 0, vI 0]))]) rfl ?_
  refine v_aload_n C dJ5_init_a7421_37 rfl 3 rfl ?_
  refine v_iload C dJ5_init_a7421_38 0 rfl ?_
  refine v_if_ne (tgt := 49) C dJ5_init_a7421_40 (by decide) (by decide) (fun c => absurd (by decide) c) (fun _ => ?_)
  refine v_iload_n C dJ5_init_a7421_43 rfl 1 rfl ?_
  refine v_newB C (List.mem_cons_of_mem _ mw_40) (by omega) ⟨by omega, by omega⟩ (N' := b.length + 16) (by omega) (Nat.ble_eq_true_of_le (show (b.length + 16) * 1 ≤ 536870912 by omega)) rfl (Nat.ble_eq_true_of_le (by omega)) dJ5_init_a7421_44 (fun q => ?_)
  refine V.wid (k' := 1) (n' := 200) (Nat.le_refl _) (by omega) ?_
  show V X 1 200 46 [(4, vI 0), (3, vI ((b.length : Int) + 16)), (2, vI (b.length : Int)), (0, .ref a), (1, .ref ((vG X).1.2 i))] [.ref q, .ref a] ([(a, .inr (8, [.null, vI 0, vI 0, vI 0])), (q, .inl ((vG X).2 0, (b.length + 16), .inl (fI (fun _ => 0))))])
  refine v_goto (tgt := 53) C dJ5_init_a7421_46 (by decide) ?_
  refine v_put C inw_8 tyX8 tyX8_ok nmX8 0 0 rfl (by decide) (List.mem_cons_of_mem _ mw_229) rfl rfl rfl rfl (Nat.le_of_ble_eq_true rfl) dJ5_init_a7421_53 (ws' := [(a, .inr (8, [.ref q, vI 0, vI 0, vI 0])), (q, .inl ((vG X).2 0, (b.length + 16), .inl (fI (fun _ => 0))))]) rfl ?_
  refine v_aload_n C dJ5_init_a7421_56 rfl 3 rfl ?_
  refine v_aload_n C dJ5_init_a7421_57 rfl 4 rfl ?_
  refine v_callO (na := 1) (wy := (Cond.code yJ4_append_cf1ce cJ4_append_cf1ce 2 (some (.object "java/lang/AbstractStringBuilder")) :: wsL_law)) (wc := [(a, .inr (8, [.ref q, vI 0, vI 0, vI 0])), (q, .inl ((vG X).2 0, (b.length + 16), .inl (fI (fun _ => 0))))]) (wr := []) (owner := "java/lang/AbstractStringBuilder") (x := ⟨"java/lang/AbstractStringBuilder", "append", "(Ljava/lang/String;)Ljava/lang/AbstractStringBuilder;"⟩) C [.ref ((vG X).1.2 i)] [] (c_J4_append_cf1ce _ _ i b a q (b.length + 16) 0 (fun _ => 0) hi (by omega) ⟨by omega, by omega⟩ (fun _ => (show (0 : Int) ≤ 0 ∧ (0 : Int) < 128 by decide)) (by omega)) rfl (gwO mw_256 mw_251 mw_252 mw_263 mw_254 mw_255 mw_217) (List.mem_cons_of_mem _ mw_264) (by decide +kernel) 0 rfl rfl rfl rfl Sb.w rfl rfl dJ5_init_a7421_58 (fun r w1 hp58 => ?_)
  obtain ⟨rfl, v2, cap2, f2, rfl, e1, e2, e3, e4⟩ := hp58
  have e9 : (0 : Int) + (b.length : Int) = (b.length : Int) := by omega
  rw [e9] at e2 ⊢
  show V X 2 1200 61 [(4, vI 0), (3, vI ((b.length : Int) + 16)), (2, vI (b.length : Int)), (0, .ref a), (1, .ref ((vG X).1.2 i))] [.ref a] ([(a, .inr (8, [.ref v2, vI 0, vI 0, vI (b.length : Int)])), (v2, .inl ((vG X).2 0, cap2, .inl (fI f2)))])
  refine v_pop C dJ5_init_a7421_61 rfl ?_
  exact v_vret C E rfl dJ5_init_a7421_62 (by decide) (by decide) (⟨rfl, v2, cap2, f2, rfl, e1, e2, e3, e4⟩)
set_option maxHeartbeats 4000000 in
set_option maxRecDepth 100000 in
theorem c_J4_init_a7421 (G : GG) (l : Launch) (i : Nat) (b : List Int32) (a : Nat) (hi : strB[i]? = some b) : Ct G l yJ4_init_a7421 (Cond.code yJ4_init_a7421 cJ4_init_a7421 2 none :: wsL_law) 8 193 2 1200 [.ref a, .ref (G.1.2 i)] ([(a, .inr (8, [.null, vI 0, vI 0, vI 0]))]) (fun r w => r = none ∧ ∃ (v2 cap2 : Nat) (f2 : Int → Int), w = [(a, .inr (8, [.ref v2, vI 0, vI 0, vI (b.length : Int)])), (v2, .inl (G.2 0, cap2, .inl (fI f2)))] ∧ cap2 ≤ 1000 ∧ (b.length : Int) ≤ (cap2 : Int) ∧ btO f2 ∧ apS (fun _ => 0) 0 (fun j => chK b j) (b.length : Int) f2) := by
  refine Ct.ofI (own := RJ4) (cc := cJ4_init_a7421) (maxL := 2) (ret := none) (by decide) rfl rfl (Nat.le_of_ble_eq_true rfl) (fun X C E M I hG hl => ?_)
  subst hG hl
  refine v_aload_n C dJ4_init_a7421_0 rfl 0 rfl ?_
  refine v_aload_n C dJ4_init_a7421_1 rfl 1 rfl ?_
  refine v_callI (ret := none) (na := 1) (wy := (Cond.code yJ5_init_a7421 cJ5_init_a7421 5 none :: wsL_law)) (wc := [(a, .inr (8, [.null, vI 0, vI 0, vI 0]))]) (wr := []) C [.ref ((vG X).1.2 i)] [] (c_J5_init_a7421 _ _ i b a hi) rfl (gwI mw_224) (by decide +kernel) (List.mem_cons_of_mem _ mw_223) (List.mem_cons_of_mem _ mw_221) (List.mem_cons_of_mem _ mw_222) rfl rfl rfl Sb.w rfl rfl dJ4_init_a7421_2 (fun r w1 hp2 => ?_)
  obtain ⟨rfl, v2, cap2, f2, rfl, e1, e2, e3, e4⟩ := hp2
  show V X 2 1200 5 [(0, .ref a), (1, .ref ((vG X).1.2 i))] [] ([(a, .inr (8, [.ref v2, vI 0, vI 0, vI (b.length : Int)])), (v2, .inl ((vG X).2 0, cap2, .inl (fI f2)))])
  exact v_vret C E rfl dJ4_init_a7421_5 (by decide) (by decide) (⟨rfl, v2, cap2, f2, rfl, e1, e2, e3, e4⟩)
end J2
