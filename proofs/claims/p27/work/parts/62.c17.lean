section C17
set_option maxHeartbeats 4000000 in
set_option maxRecDepth 100000 in
theorem c_J0_coder_7d493 (G : GG) (l : Launch) (i : Nat) (b : List Int32) (hi : strB[i]? = some b) : Ct G l yJ0_coder_7d493 (Cond.code yJ0_coder_7d493 cJ0_coder_7d493 1 (some .byte) :: wsL_law) 0 0 0 0 [.ref (G.1.2 i)] ([]) (fun r w => r = some (vI 0) ∧ w = []) := by
  refine Ct.of (own := RJ0) (cc := cJ0_coder_7d493) (maxL := 1) (ret := (some .byte)) (by decide) rfl rfl (Nat.le_of_ble_eq_true rfl) (fun X C E M hG hl => ?_)
  subst hG hl
  refine v_getCS C (List.mem_cons_of_mem _ mw_240) dJ0_coder_7d493_0 ?_
  refine v_if_eq (tgt := 13) C dJ0_coder_7d493_3 (by decide) (by decide) (fun c => absurd c (by decide)) (fun _ => ?_)
  refine v_aload_n C dJ0_coder_7d493_6 rfl 0 rfl ?_
  refine v_getKc C hi (List.mem_cons_of_mem _ mw_241) dJ0_coder_7d493_7 ?_
  refine v_goto (tgt := 14) C dJ0_coder_7d493_10 (by decide) ?_
  exact v_zret C E rfl rfl dJ0_coder_7d493_14 (by decide) (by decide) ⟨rfl, rfl⟩
set_option maxHeartbeats 4000000 in
set_option maxRecDepth 100000 in
theorem c_J0_length_8abf5 (G : GG) (l : Launch) (i : Nat) (b : List Int32) (hi : strB[i]? = some b) : Ct G l yJ0_length_8abf5 (Cond.code yJ0_length_8abf5 cJ0_length_8abf5 1 (some .int) :: wsL_law) 1 20 0 0 [.ref (G.1.2 i)] ([]) (fun r w => r = some (vI (b.length : Int)) ∧ w = []) := by
  refine Ct.of (own := RJ0) (cc := cJ0_length_8abf5) (maxL := 1) (ret := (some .int)) (by decide) rfl rfl (Nat.le_of_ble_eq_true rfl) (fun X C E M hG hl => ?_)
  subst hG hl
  refine v_aload_n C dJ0_length_8abf5_0 rfl 0 rfl ?_
  refine v_getKv C hi (List.mem_cons_of_mem _ mw_235) dJ0_length_8abf5_1 ?_
  refine v_lenK C hi dJ0_length_8abf5_4 ?_
  refine v_aload_n C dJ0_length_8abf5_5 rfl 0 rfl ?_
  refine v_callK (na := 0) (wy := (Cond.code yJ0_coder_7d493 cJ0_coder_7d493 1 (some .byte) :: wsL_law)) (wc := []) (wr := []) C [] [vI (b.length : Int)] (c_J0_coder_7d493 _ _ i b hi) rfl (gwV mw_239 mw_236 mw_237 mw_238 mw_233) rfl (by decide +kernel) hi rfl rfl Sb.rf rfl rfl dJ0_length_8abf5_6 (fun r w1 hp6 => ?_)
  obtain ⟨rfl, rfl⟩ := hp6
  refine v_ishr (z := (b.length : Int)) C dJ0_length_8abf5_9 ishr0 ?_
  exact v_iret C E rfl dJ0_length_8abf5_10 (by decide) (by decide) ⟨rfl, rfl⟩
set_option maxHeartbeats 4000000 in
set_option maxRecDepth 100000 in
theorem c_J0_isLatin1_aae02 (G : GG) (l : Launch) (i : Nat) (b : List Int32) (hi : strB[i]? = some b) : Ct G l yJ0_isLatin1_aae02 (Cond.code yJ0_isLatin1_aae02 cJ0_isLatin1_aae02 1 (some .boolean) :: wsL_law) 0 0 0 0 [.ref (G.1.2 i)] ([]) (fun r w => r = some (vI 1) ∧ w = []) := by
  refine Ct.of (own := RJ0) (cc := cJ0_isLatin1_aae02) (maxL := 1) (ret := (some .boolean)) (by decide) rfl rfl (Nat.le_of_ble_eq_true rfl) (fun X C E M hG hl => ?_)
  subst hG hl
  refine v_getCS C (List.mem_cons_of_mem _ mw_240) dJ0_isLatin1_aae02_0 ?_
  refine v_if_eq (tgt := 17) C dJ0_isLatin1_aae02_3 (by decide) (by decide) (fun c => absurd c (by decide)) (fun _ => ?_)
  refine v_aload_n C dJ0_isLatin1_aae02_6 rfl 0 rfl ?_
  refine v_getKc C hi (List.mem_cons_of_mem _ mw_241) dJ0_isLatin1_aae02_7 ?_
  refine v_if_ne (tgt := 17) C dJ0_isLatin1_aae02_10 (by decide) (by decide) (fun c => absurd rfl c) (fun _ => ?_)
  refine v_iconst C dJ0_isLatin1_aae02_13 ?_
  refine v_goto (tgt := 18) C dJ0_isLatin1_aae02_14 (by decide) ?_
  exact v_zret C E rfl rfl dJ0_isLatin1_aae02_18 (by decide) (by decide) ⟨rfl, rfl⟩
set_option maxHeartbeats 4000000 in
set_option maxRecDepth 100000 in
theorem c_J3_checkIndex_8e157 (G : GG) (l : Launch) (z n : Int) (h0 : 0 ≤ z) (h1 : z < n) (h2 : n < 100000) : Ct G l yJ3_checkIndex_8e157 (Cond.code yJ3_checkIndex_8e157 cJ3_checkIndex_8e157 3 (some .int) :: wsL_law) 0 0 0 0 [vI z, vI n, .null] ([]) (fun r w => r = some (vI z) ∧ w = []) := by
  refine Ct.of (own := RJ3) (cc := cJ3_checkIndex_8e157) (maxL := 3) (ret := (some .int)) (by decide) rfl rfl (Nat.le_of_ble_eq_true rfl) (fun X C E M hG hl => ?_)
  subst hG hl
  have hz : sm z := ⟨by omega, by omega⟩
  refine v_iload_n C dJ3_checkIndex_8e157_0 rfl 0 rfl ?_
  refine v_if_lt (tgt := 9) C dJ3_checkIndex_8e157_1 (by decide) hz (fun c => absurd c (by omega)) (fun _ => ?_)
  refine v_iload_n C dJ3_checkIndex_8e157_4 rfl 0 rfl ?_
  refine v_iload_n C dJ3_checkIndex_8e157_5 rfl 1 rfl ?_
  refine v_icmp_lt (tgt := 16) C dJ3_checkIndex_8e157_6 (by decide) hz ⟨by omega, by omega⟩ (fun _ => ?_) (fun c => absurd (by omega) c)
  refine v_iload_n C dJ3_checkIndex_8e157_16 rfl 0 rfl ?_
  exact v_iret C E rfl dJ3_checkIndex_8e157_17 (by decide) (by decide) ⟨rfl, rfl⟩
set_option maxHeartbeats 4000000 in
set_option maxRecDepth 100000 in
theorem c_J3_checkIndex_8e157r (G : GG) (l : Launch) (t : Nat) (z n : Int) (h0 : 0 ≤ z) (h1 : z < n) (h2 : n < 100000) : Ct G l yJ3_checkIndex_8e157 (Cond.code yJ3_checkIndex_8e157 cJ3_checkIndex_8e157 3 (some .int) :: wsL_law) 0 0 0 0 [vI z, vI n, .ref t] ([]) (fun r w => r = some (vI z) ∧ w = []) := by
  refine Ct.of (own := RJ3) (cc := cJ3_checkIndex_8e157) (maxL := 3) (ret := (some .int)) (by decide) rfl rfl (Nat.le_of_ble_eq_true rfl) (fun X C E M hG hl => ?_)
  subst hG hl
  have hz : sm z := ⟨by omega, by omega⟩
  refine v_iload_n C dJ3_checkIndex_8e157_0 rfl 0 rfl ?_
  refine v_if_lt (tgt := 9) C dJ3_checkIndex_8e157_1 (by decide) hz (fun c => absurd c (by omega)) (fun _ => ?_)
  refine v_iload_n C dJ3_checkIndex_8e157_4 rfl 0 rfl ?_
  refine v_iload_n C dJ3_checkIndex_8e157_5 rfl 1 rfl ?_
  refine v_icmp_lt (tgt := 16) C dJ3_checkIndex_8e157_6 (by decide) hz ⟨by omega, by omega⟩ (fun _ => ?_) (fun c => absurd (by omega) c)
  refine v_iload_n C dJ3_checkIndex_8e157_16 rfl 0 rfl ?_
  exact v_iret C E rfl dJ3_checkIndex_8e157_17 (by decide) (by decide) ⟨rfl, rfl⟩
set_option maxHeartbeats 4000000 in
set_option maxRecDepth 100000 in
theorem c_J0_checkIndex_df160 (G : GG) (l : Launch) (z n : Int) (h0 : 0 ≤ z) (h1 : z < n) (h2 : n < 100000) : Ct G l yJ0_checkIndex_df160 (Cond.code yJ0_checkIndex_df160 cJ0_checkIndex_df160 2 none :: wsL_law) 1 22 0 0 [vI z, vI n] ([]) (fun r w => r = none ∧ w = []) := by
  refine Ct.of (own := RJ0) (cc := cJ0_checkIndex_df160) (maxL := 2) (ret := none) (by decide) rfl rfl (Nat.le_of_ble_eq_true rfl) (fun X C E M hG hl => ?_)
  subst hG hl
  refine v_iload_n C dJ0_checkIndex_df160_0 rfl 0 rfl ?_
  refine v_iload_n C dJ0_checkIndex_df160_1 rfl 1 rfl ?_
  refine v_getSQ C (List.mem_cons_of_mem _ mw_326) dJ0_checkIndex_df160_2 ?_ (fun t => ?_)
  · skip
    refine v_callS (na := 3) (wy := (Cond.code yJ3_checkIndex_8e157 cJ3_checkIndex_8e157 3 (some .int) :: wsL_law)) (wc := []) (wr := []) C [vI z, vI n, .null] [] (c_J3_checkIndex_8e157 _ _ z n h0 h1 h2) rfl (gwS mw_429 mw_427 mw_428 mw_329) (by decide +kernel) rfl rfl Sb.rf rfl rfl dJ0_checkIndex_df160_5 (fun r w1 hp5 => ?_)
    obtain ⟨rfl, rfl⟩ := hp5
    refine v_pop C dJ0_checkIndex_df160_8 rfl ?_
    exact v_vret C E rfl dJ0_checkIndex_df160_9 (by decide) (by decide) ⟨rfl, rfl⟩
  · skip
    refine v_callS (na := 3) (wy := (Cond.code yJ3_checkIndex_8e157 cJ3_checkIndex_8e157 3 (some .int) :: wsL_law)) (wc := []) (wr := []) C [vI z, vI n, .ref t] [] (c_J3_checkIndex_8e157r _ _ t z n h0 h1 h2) rfl (gwS mw_429 mw_427 mw_428 mw_329) (by decide +kernel) rfl rfl Sb.rf rfl rfl dJ0_checkIndex_df160_5 (fun r w1 hp5 => ?_)
    obtain ⟨rfl, rfl⟩ := hp5
    refine v_pop C dJ0_checkIndex_df160_8 rfl ?_
    exact v_vret C E rfl dJ0_checkIndex_df160_9 (by decide) (by decide) ⟨rfl, rfl⟩
set_option maxHeartbeats 4000000 in
set_option maxRecDepth 100000 in
theorem c_J1_charAt_3b067 (G : GG) (l : Launch) (i : Nat) (b : List Int32) (z : Int) (hi : strB[i]? = some b) (h0 : 0 ≤ z) (h1 : z < (b.length : Int)) : Ct G l yJ1_charAt_3b067 (Cond.code yJ1_charAt_3b067 cJ1_charAt_3b067 2 (some .char) :: wsL_law) 2 43 0 0 [.ref (G.1.2 (100 + i)), vI z] ([]) (fun r w => r = some (vI (chK b z)) ∧ w = []) := by
  refine Ct.of (own := RJ1) (cc := cJ1_charAt_3b067) (maxL := 2) (ret := (some .char)) (by decide) rfl rfl (Nat.le_of_ble_eq_true rfl) (fun X C E M hG hl => ?_)
  subst hG hl
  have hb9 := strB_ok hi
  refine v_iload_n C dJ1_charAt_3b067_0 rfl 1 rfl ?_
  refine v_aload_n C dJ1_charAt_3b067_1 rfl 0 rfl ?_
  refine v_lenK C hi dJ1_charAt_3b067_2 ?_
  refine v_callS (na := 2) (wy := (Cond.code yJ0_checkIndex_df160 cJ0_checkIndex_df160 2 none :: wsL_law)) (wc := []) (wr := []) C [vI z, vI (b.length : Int)] [] (c_J0_checkIndex_df160 _ _ z (b.length : Int) h0 h1 (by omega)) rfl (gwS mw_426 mw_508 mw_425 mw_233) (by decide +kernel) rfl rfl Sb.rf rfl rfl dJ1_charAt_3b067_3 (fun r w1 hp3 => ?_)
  obtain ⟨rfl, rfl⟩ := hp3
  refine v_aload_n C dJ1_charAt_3b067_6 rfl 0 rfl ?_
  refine v_iload_n C dJ1_charAt_3b067_7 rfl 1 rfl ?_
  refine v_baldK C hi h0 h1 dJ1_charAt_3b067_8 ?_
  refine v_sipush C dJ1_charAt_3b067_9 (by decide +kernel) ?_
  have hk : 0 ≤ chK b z ∧ chK b z < 128 := hb9.2 z.toNat (by omega)
  have e1 : chK b z % 256 = chK b z := by omega
  refine v_iand C dJ1_charAt_3b067_12 (iI_and255 (chK b z)) ?_
  rw [e1]
  refine v_i2c C dJ1_charAt_3b067_13 (ch_16 hk.1 hk.2) ?_
  exact v_zret C E rfl (ch_nar hk.1 hk.2) dJ1_charAt_3b067_14 (by decide) (by decide) ⟨rfl, rfl⟩
set_option maxHeartbeats 4000000 in
set_option maxRecDepth 100000 in
theorem c_J0_charAt_5068e (G : GG) (l : Launch) (i : Nat) (b : List Int32) (z : Int) (hi : strB[i]? = some b) (h0 : 0 ≤ z) (h1 : z < (b.length : Int)) : Ct G l yJ0_charAt_5068e (Cond.code yJ0_charAt_5068e cJ0_charAt_5068e 2 (some .char) :: wsL_law) 3 64 0 0 [.ref (G.1.2 i), vI z] ([]) (fun r w => r = some (vI (chK b z)) ∧ w = []) := by
  refine Ct.of (own := RJ0) (cc := cJ0_charAt_5068e) (maxL := 2) (ret := (some .char)) (by decide) rfl rfl (Nat.le_of_ble_eq_true rfl) (fun X C E M hG hl => ?_)
  subst hG hl
  have hb9 := strB_ok hi
  refine v_aload_n C dJ0_charAt_5068e_0 rfl 0 rfl ?_
  refine v_callK (na := 0) (wy := (Cond.code yJ0_isLatin1_aae02 cJ0_isLatin1_aae02 1 (some .boolean) :: wsL_law)) (wc := []) (wr := []) C [] [] (c_J0_isLatin1_aae02 _ _ i b hi) rfl (gwV mw_504 mw_501 mw_502 mw_503 mw_233) rfl (by decide +kernel) hi rfl rfl Sb.rf rfl rfl dJ0_charAt_5068e_1 (fun r w1 hp1 => ?_)
  obtain ⟨rfl, rfl⟩ := hp1
  refine v_if_eq (tgt := 16) C dJ0_charAt_5068e_4 (by decide) (by decide) (fun c => absurd c (by decide)) (fun _ => ?_)
  refine v_aload_n C dJ0_charAt_5068e_7 rfl 0 rfl ?_
  refine v_getKv C hi (List.mem_cons_of_mem _ mw_235) dJ0_charAt_5068e_8 ?_
  refine v_iload_n C dJ0_charAt_5068e_11 rfl 1 rfl ?_
  refine v_callS (na := 2) (wy := (Cond.code yJ1_charAt_3b067 cJ1_charAt_3b067 2 (some .char) :: wsL_law)) (wc := []) (wr := []) C [.ref ((vG X).1.2 (100 + i)), vI z] [] (c_J1_charAt_3b067 _ _ i b z hi h0 h1) rfl (gwS mw_507 mw_505 mw_506 mw_353) (by decide +kernel) rfl rfl Sb.rf rfl rfl dJ0_charAt_5068e_12 (fun r w1 hp12 => ?_)
  obtain ⟨rfl, rfl⟩ := hp12
  have hk : 0 ≤ chK b z ∧ chK b z < 128 := hb9.2 z.toNat (by omega)
  exact v_zret C E rfl (ch_nar hk.1 hk.2) dJ0_charAt_5068e_15 (by decide) (by decide) ⟨rfl, rfl⟩
end C17
