section K2
set_option maxHeartbeats 4000000 in
set_option maxRecDepth 100000 in
theorem c_L_readsAll (G : GG) (l : Launch) (A : Nat → Nat) (B : Nat → Nat → Nat) (F : Int → Int → Int) (K : Int → Int → Int64) (w : va_W) (n : Int) (hst : l.stackTraces = false) (hw : tlS G A B F K w) (hI : IN F n) (hn : 0 ≤ n ∧ n ≤ 60) : Ct G l yL_readsAll (Cond.code yL_readsAll cL_readsAll 3 (some .boolean) :: wsL_law) 8 147 20 120 [.ref (A 0)] (w) (fun r w' => r = some (vI 1) ∧ ∃ F2 : Int → Int → Int, tlS G A B F2 K w' ∧ IN F2 n ∧ F2 5 = F 5) := by
  refine Ct.of (own := RL) (cc := cL_readsAll) (maxL := 3) (ret := (some .boolean)) (by decide) rfl rfl (Nat.le_of_ble_eq_true rfl) (fun X C E M hG hl => ?_)
  subst hG hl
  have hB := hI.B6 (by omega)
  have hz := hI.1.2.1
  have s1 := hI.2.1.1
  have s2 := hI.2.1.2
  unfold ST at s1 s2
  refine v_iconst C dL_readsAll_0 ?_
  refine v_istore_n C M dL_readsAll_1 rfl (by decide) (L' := [(1, vI 0), (0, .ref (A 0))]) rfl ?_
  refine v_iload_n C dL_readsAll_2 rfl 0 rfl ?_
  refine v_iconst C dL_readsAll_3 ?_
  refine v_icmp_ge (tgt := 42) C dL_readsAll_4 (by decide) (by decide) (by decide) (fun c => absurd c (by decide)) (fun _ => ?_)
  refine v_aload_n C dL_readsAll_7 rfl 1 rfl ?_
  refine v_iload_n C dL_readsAll_8 rfl 0 rfl ?_
  refine v_iconst C dL_readsAll_9 ?_
  refine v_callV (na := 2) (wy := (Cond.code yX7_station cX7_station 3 (some .int) :: wsL_law)) (wc := w) (wr := []) C [vI 0, vI 1] [] (k_station (s := 0) (q := 1) hst hw (by decide) (by decide)) rfl (gwV mw_571 mw_568 mw_569 mw_570 mw_2) rfl (by decide +kernel) 0 hw.at0 rfl rfl rfl Sb.w rfl rfl dL_readsAll_10 (fun r w1 hp10 => ?_)
  obtain ⟨rfl, hw1⟩ := hp10
  refine V.wld (List.append_nil _) ?_
  show V X 2 12 13 [(1, vI 0), (0, .ref (A 0))] [vI (F 1 1)] (w1)
  refine v_aload_n C dL_readsAll_13 rfl 1 rfl ?_
  refine v_iload_n C dL_readsAll_14 rfl 0 rfl ?_
  refine v_iconst C dL_readsAll_15 ?_
  refine v_callV (na := 2) (wy := (Cond.code yX7_station cX7_station 3 (some .int) :: wsL_law)) (wc := w1) (wr := []) C [vI 0, vI 2] [vI (F 1 1)] (k_station (s := 0) (q := 2) hst hw1 (by decide) (by decide)) rfl (gwV mw_571 mw_568 mw_569 mw_570 mw_2) rfl (by decide +kernel) 0 hw1.at0 rfl rfl rfl Sb.w rfl rfl dL_readsAll_16 (fun r w2 hp16 => ?_)
  obtain ⟨rfl, hw2⟩ := hp16
  refine V.wld (List.append_nil _) ?_
  show V X 4 24 19 [(1, vI 0), (0, .ref (A 0))] [vI (F 1 2), vI (F 1 1)] (w2)
  refine v_isub C dL_readsAll_19 ?_
  refine v_istore_n C M dL_readsAll_20 rfl (by decide) (L' := [(2, vI ((F 1 1) - (F 1 2))), (1, vI 0), (0, .ref (A 0))]) rfl ?_
  refine v_iload_n C dL_readsAll_21 rfl 0 rfl ?_
  refine v_if_le (tgt := 36) C dL_readsAll_22 (by decide) (by have := hB 1 1; have := hB 1 2; first | assumption | exact ⟨by omega, by omega⟩) (fun c22 => ?_) (fun c22 => ?_)
  · skip
    refine v_iinc C M dL_readsAll_36 1 rfl (by decide) (z' := 1) rfl (L' := [(1, vI 1), (2, vI ((F 1 1) - (F 1 2))), (0, .ref (A 0))]) rfl ?_
    refine v_goto (tgt := 2) C dL_readsAll_39 (by decide) ?_
    refine v_iload_n C dL_readsAll_2 rfl 0 rfl ?_
    refine v_iconst C dL_readsAll_3 ?_
    refine v_icmp_ge (tgt := 42) C dL_readsAll_4 (by decide) (by decide) (by decide) (fun c => absurd c (by decide)) (fun _ => ?_)
    refine v_aload_n C dL_readsAll_7 rfl 2 rfl ?_
    refine v_iload_n C dL_readsAll_8 rfl 0 rfl ?_
    refine v_iconst C dL_readsAll_9 ?_
    refine v_callV (na := 2) (wy := (Cond.code yX7_station cX7_station 3 (some .int) :: wsL_law)) (wc := w2) (wr := []) C [vI 1, vI 1] [] (k_station (s := 1) (q := 1) hst hw2 (by decide) (by decide)) rfl (gwV mw_571 mw_568 mw_569 mw_570 mw_2) rfl (by decide +kernel) 0 hw2.at0 rfl rfl rfl Sb.w rfl rfl dL_readsAll_10 (fun r w3 hp10 => ?_)
    obtain ⟨rfl, hw3⟩ := hp10
    refine V.wld (List.append_nil _) ?_
    show V X 6 36 13 [(1, vI 1), (2, vI ((F 1 1) - (F 1 2))), (0, .ref (A 0))] [vI (F 2 1)] (w3)
    refine v_aload_n C dL_readsAll_13 rfl 2 rfl ?_
    refine v_iload_n C dL_readsAll_14 rfl 0 rfl ?_
    refine v_iconst C dL_readsAll_15 ?_
    refine v_callV (na := 2) (wy := (Cond.code yX7_station cX7_station 3 (some .int) :: wsL_law)) (wc := w3) (wr := []) C [vI 1, vI 2] [vI (F 2 1)] (k_station (s := 1) (q := 2) hst hw3 (by decide) (by decide)) rfl (gwV mw_571 mw_568 mw_569 mw_570 mw_2) rfl (by decide +kernel) 0 hw3.at0 rfl rfl rfl Sb.w rfl rfl dL_readsAll_16 (fun r w4 hp16 => ?_)
    obtain ⟨rfl, hw4⟩ := hp16
    refine V.wld (List.append_nil _) ?_
    show V X 8 48 19 [(1, vI 1), (2, vI ((F 1 1) - (F 1 2))), (0, .ref (A 0))] [vI (F 2 2), vI (F 2 1)] (w4)
    refine v_isub C dL_readsAll_19 ?_
    refine v_istore_n C M dL_readsAll_20 rfl (by decide) (L' := [(2, vI ((F 2 1) - (F 2 2))), (1, vI 1), (0, .ref (A 0))]) rfl ?_
    refine v_iload_n C dL_readsAll_21 rfl 0 rfl ?_
    refine v_if_le (tgt := 36) C dL_readsAll_22 (by decide) (by have := hB 2 1; have := hB 2 2; first | assumption | exact ⟨by omega, by omega⟩) (fun c22 => ?_) (fun c22 => ?_)
    · skip
      refine v_iinc C M dL_readsAll_36 1 rfl (by decide) (z' := 2) rfl (L' := [(1, vI 2), (2, vI ((F 2 1) - (F 2 2))), (0, .ref (A 0))]) rfl ?_
      refine v_goto (tgt := 2) C dL_readsAll_39 (by decide) ?_
      refine v_iload_n C dL_readsAll_2 rfl 0 rfl ?_
      refine v_iconst C dL_readsAll_3 ?_
      refine v_icmp_ge (tgt := 42) C dL_readsAll_4 (by decide) (by decide) (by decide) (fun _ => ?_) (fun c => absurd (by decide) c)
      refine v_iconst C dL_readsAll_42 ?_
      refine V.wid (k' := 20) (n' := 120) (by decide) (by decide) ?_
      exact v_zret C E rfl rfl dL_readsAll_43 (by decide) (by decide) ⟨rfl, F, hw4, hI, rfl⟩
    · skip
      refine v_aload_n C dL_readsAll_25 rfl 2 rfl ?_
      refine v_iload_n C dL_readsAll_26 rfl 1 rfl ?_
      refine v_iload_n C dL_readsAll_27 rfl 0 rfl ?_
      have hIF3 := rdA_IN (s := 1) hI hn.1 (Or.inr rfl)
      refine v_callV (na := 2) (wy := (Cond.code yX7_read cX7_read 4 (some .int) :: wsL_law)) (wc := w4) (wr := []) C [vI 1, vI ((F 2 1) - (F 2 2))] [] (k_read (s := 1) (q := ((F 2 1) - (F 2 2))) hst hw4 (by decide) ⟨⟨by omega, by omega⟩, (show ((F 2 1) - (F 2 2)) ≤ F 2 1 - F 2 2 by omega)⟩ hB hz) rfl (gwV mw_652 mw_649 mw_650 mw_651 mw_2) rfl (by decide +kernel) 0 hw4.at0 rfl rfl rfl Sb.w rfl rfl dL_readsAll_28 (fun r w5 hp28 => ?_)
      obtain ⟨rfl, hw5⟩ := hp28
      refine V.wld (List.append_nil _) ?_
      show V X 11 66 31 [(2, vI ((F 2 1) - (F 2 2))), (1, vI 1), (0, .ref (A 0))] [vI (F 2 1 - (F 2 2 + ((F 2 1) - (F 2 2))))] (w5)
      have e1 : F 2 2 + ((F 2 1) - (F 2 2)) = F 2 1 := by omega
      have e1b : F 2 1 - (F 2 2 + ((F 2 1) - (F 2 2))) = 0 := by omega
      rw [show F (1 + 1) 2 + ((F 2 1) - (F 2 2)) = F 2 1 from e1] at hw5
      refine V.top e1b ?_
      have hw5b : tlS (vG X) A B (rdA 1 F) K w5 := hw5
      obtain ⟨F3, hF3⟩ : ∃ Z, Z = rdA 1 F := ⟨_, rfl⟩
      have h5F3 : F3 5 = F 5 := by rw [hF3]; rfl
      rw [← hF3] at hw5b hIF3
      have hB3 := hIF3.B6 (by omega)
      have hz3 := hIF3.1.2.1
      have t1F3 := hIF3.2.1.1
      have t2F3 := hIF3.2.1.2
      unfold ST at t1F3 t2F3
      refine v_if_eq (tgt := 36) C dL_readsAll_31 (by decide) (by decide) (fun _ => ?_) (fun c => absurd (by decide) c)
      refine v_iinc C M dL_readsAll_36 1 rfl (by decide) (z' := 2) rfl (L' := [(1, vI 2), (2, vI ((F 2 1) - (F 2 2))), (0, .ref (A 0))]) rfl ?_
      refine v_goto (tgt := 2) C dL_readsAll_39 (by decide) ?_
      refine v_iload_n C dL_readsAll_2 rfl 0 rfl ?_
      refine v_iconst C dL_readsAll_3 ?_
      refine v_icmp_ge (tgt := 42) C dL_readsAll_4 (by decide) (by decide) (by decide) (fun _ => ?_) (fun c => absurd (by decide) c)
      refine v_iconst C dL_readsAll_42 ?_
      refine V.wid (k' := 20) (n' := 120) (by decide) (by decide) ?_
      exact v_zret C E rfl rfl dL_readsAll_43 (by decide) (by decide) ⟨rfl, F3, hw5b, hIF3, h5F3⟩
  · skip
    refine v_aload_n C dL_readsAll_25 rfl 2 rfl ?_
    refine v_iload_n C dL_readsAll_26 rfl 1 rfl ?_
    refine v_iload_n C dL_readsAll_27 rfl 0 rfl ?_
    have hIF2 := rdA_IN (s := 0) hI hn.1 (Or.inl rfl)
    refine v_callV (na := 2) (wy := (Cond.code yX7_read cX7_read 4 (some .int) :: wsL_law)) (wc := w2) (wr := []) C [vI 0, vI ((F 1 1) - (F 1 2))] [] (k_read (s := 0) (q := ((F 1 1) - (F 1 2))) hst hw2 (by decide) ⟨⟨by omega, by omega⟩, (show ((F 1 1) - (F 1 2)) ≤ F 1 1 - F 1 2 by omega)⟩ hB hz) rfl (gwV mw_652 mw_649 mw_650 mw_651 mw_2) rfl (by decide +kernel) 0 hw2.at0 rfl rfl rfl Sb.w rfl rfl dL_readsAll_28 (fun r w3 hp28 => ?_)
    obtain ⟨rfl, hw3⟩ := hp28
    refine V.wld (List.append_nil _) ?_
    show V X 7 42 31 [(2, vI ((F 1 1) - (F 1 2))), (1, vI 0), (0, .ref (A 0))] [vI (F 1 1 - (F 1 2 + ((F 1 1) - (F 1 2))))] (w3)
    have e0 : F 1 2 + ((F 1 1) - (F 1 2)) = F 1 1 := by omega
    have e0b : F 1 1 - (F 1 2 + ((F 1 1) - (F 1 2))) = 0 := by omega
    rw [show F (1 + 0) 2 + ((F 1 1) - (F 1 2)) = F 1 1 from e0] at hw3
    refine V.top e0b ?_
    have hw3b : tlS (vG X) A B (rdA 0 F) K w3 := hw3
    obtain ⟨F2, hF2⟩ : ∃ Z, Z = rdA 0 F := ⟨_, rfl⟩
    have h5F2 : F2 5 = F 5 := by rw [hF2]; rfl
    rw [← hF2] at hw3b hIF2
    have hB2 := hIF2.B6 (by omega)
    have hz2 := hIF2.1.2.1
    have t1F2 := hIF2.2.1.1
    have t2F2 := hIF2.2.1.2
    unfold ST at t1F2 t2F2
    refine v_if_eq (tgt := 36) C dL_readsAll_31 (by decide) (by decide) (fun _ => ?_) (fun c => absurd (by decide) c)
    refine v_iinc C M dL_readsAll_36 1 rfl (by decide) (z' := 1) rfl (L' := [(1, vI 1), (2, vI ((F 1 1) - (F 1 2))), (0, .ref (A 0))]) rfl ?_
    refine v_goto (tgt := 2) C dL_readsAll_39 (by decide) ?_
    refine v_iload_n C dL_readsAll_2 rfl 0 rfl ?_
    refine v_iconst C dL_readsAll_3 ?_
    refine v_icmp_ge (tgt := 42) C dL_readsAll_4 (by decide) (by decide) (by decide) (fun c => absurd c (by decide)) (fun _ => ?_)
    refine v_aload_n C dL_readsAll_7 rfl 2 rfl ?_
    refine v_iload_n C dL_readsAll_8 rfl 0 rfl ?_
    refine v_iconst C dL_readsAll_9 ?_
    refine v_callV (na := 2) (wy := (Cond.code yX7_station cX7_station 3 (some .int) :: wsL_law)) (wc := w3) (wr := []) C [vI 1, vI 1] [] (k_station (s := 1) (q := 1) hst hw3b (by decide) (by decide)) rfl (gwV mw_571 mw_568 mw_569 mw_570 mw_2) rfl (by decide +kernel) 0 hw3b.at0 rfl rfl rfl Sb.w rfl rfl dL_readsAll_10 (fun r w4 hp10 => ?_)
    obtain ⟨rfl, hw4⟩ := hp10
    refine V.wld (List.append_nil _) ?_
    show V X 9 54 13 [(1, vI 1), (2, vI ((F 1 1) - (F 1 2))), (0, .ref (A 0))] [vI (F2 2 1)] (w4)
    refine v_aload_n C dL_readsAll_13 rfl 2 rfl ?_
    refine v_iload_n C dL_readsAll_14 rfl 0 rfl ?_
    refine v_iconst C dL_readsAll_15 ?_
    refine v_callV (na := 2) (wy := (Cond.code yX7_station cX7_station 3 (some .int) :: wsL_law)) (wc := w4) (wr := []) C [vI 1, vI 2] [vI (F2 2 1)] (k_station (s := 1) (q := 2) hst hw4 (by decide) (by decide)) rfl (gwV mw_571 mw_568 mw_569 mw_570 mw_2) rfl (by decide +kernel) 0 hw4.at0 rfl rfl rfl Sb.w rfl rfl dL_readsAll_16 (fun r w5 hp16 => ?_)
    obtain ⟨rfl, hw5⟩ := hp16
    refine V.wld (List.append_nil _) ?_
    show V X 11 66 19 [(1, vI 1), (2, vI ((F 1 1) - (F 1 2))), (0, .ref (A 0))] [vI (F2 2 2), vI (F2 2 1)] (w5)
    refine v_isub C dL_readsAll_19 ?_
    refine v_istore_n C M dL_readsAll_20 rfl (by decide) (L' := [(2, vI ((F2 2 1) - (F2 2 2))), (1, vI 1), (0, .ref (A 0))]) rfl ?_
    refine v_iload_n C dL_readsAll_21 rfl 0 rfl ?_
    refine v_if_le (tgt := 36) C dL_readsAll_22 (by decide) (by have := hB2 2 1; have := hB2 2 2; first | assumption | exact ⟨by omega, by omega⟩) (fun c22 => ?_) (fun c22 => ?_)
    · skip
      refine v_iinc C M dL_readsAll_36 1 rfl (by decide) (z' := 2) rfl (L' := [(1, vI 2), (2, vI ((F2 2 1) - (F2 2 2))), (0, .ref (A 0))]) rfl ?_
      refine v_goto (tgt := 2) C dL_readsAll_39 (by decide) ?_
      refine v_iload_n C dL_readsAll_2 rfl 0 rfl ?_
      refine v_iconst C dL_readsAll_3 ?_
      refine v_icmp_ge (tgt := 42) C dL_readsAll_4 (by decide) (by decide) (by decide) (fun _ => ?_) (fun c => absurd (by decide) c)
      refine v_iconst C dL_readsAll_42 ?_
      refine V.wid (k' := 20) (n' := 120) (by decide) (by decide) ?_
      exact v_zret C E rfl rfl dL_readsAll_43 (by decide) (by decide) ⟨rfl, F2, hw5, hIF2, h5F2⟩
    · skip
      refine v_aload_n C dL_readsAll_25 rfl 2 rfl ?_
      refine v_iload_n C dL_readsAll_26 rfl 1 rfl ?_
      refine v_iload_n C dL_readsAll_27 rfl 0 rfl ?_
      have hIF3 := rdA_IN (s := 1) hIF2 hn.1 (Or.inr rfl)
      refine v_callV (na := 2) (wy := (Cond.code yX7_read cX7_read 4 (some .int) :: wsL_law)) (wc := w5) (wr := []) C [vI 1, vI ((F2 2 1) - (F2 2 2))] [] (k_read (s := 1) (q := ((F2 2 1) - (F2 2 2))) hst hw5 (by decide) ⟨⟨by omega, by omega⟩, (show ((F2 2 1) - (F2 2 2)) ≤ F2 2 1 - F2 2 2 by omega)⟩ hB2 hz2) rfl (gwV mw_652 mw_649 mw_650 mw_651 mw_2) rfl (by decide +kernel) 0 hw5.at0 rfl rfl rfl Sb.w rfl rfl dL_readsAll_28 (fun r w6 hp28 => ?_)
      obtain ⟨rfl, hw6⟩ := hp28
      refine V.wld (List.append_nil _) ?_
      show V X 14 84 31 [(2, vI ((F2 2 1) - (F2 2 2))), (1, vI 1), (0, .ref (A 0))] [vI (F2 2 1 - (F2 2 2 + ((F2 2 1) - (F2 2 2))))] (w6)
      have e1 : F2 2 2 + ((F2 2 1) - (F2 2 2)) = F2 2 1 := by omega
      have e1b : F2 2 1 - (F2 2 2 + ((F2 2 1) - (F2 2 2))) = 0 := by omega
      rw [show F2 (1 + 1) 2 + ((F2 2 1) - (F2 2 2)) = F2 2 1 from e1] at hw6
      refine V.top e1b ?_
      have hw6b : tlS (vG X) A B (rdA 1 F2) K w6 := hw6
      obtain ⟨F3, hF3⟩ : ∃ Z, Z = rdA 1 F2 := ⟨_, rfl⟩
      have h5F3 : F3 5 = F2 5 := by rw [hF3]; rfl
      rw [← hF3] at hw6b hIF3
      have hB3 := hIF3.B6 (by omega)
      have hz3 := hIF3.1.2.1
      have t1F3 := hIF3.2.1.1
      have t2F3 := hIF3.2.1.2
      unfold ST at t1F3 t2F3
      refine v_if_eq (tgt := 36) C dL_readsAll_31 (by decide) (by decide) (fun _ => ?_) (fun c => absurd (by decide) c)
      refine v_iinc C M dL_readsAll_36 1 rfl (by decide) (z' := 2) rfl (L' := [(1, vI 2), (2, vI ((F2 2 1) - (F2 2 2))), (0, .ref (A 0))]) rfl ?_
      refine v_goto (tgt := 2) C dL_readsAll_39 (by decide) ?_
      refine v_iload_n C dL_readsAll_2 rfl 0 rfl ?_
      refine v_iconst C dL_readsAll_3 ?_
      refine v_icmp_ge (tgt := 42) C dL_readsAll_4 (by decide) (by decide) (by decide) (fun _ => ?_) (fun c => absurd (by decide) c)
      refine v_iconst C dL_readsAll_42 ?_
      refine V.wid (k' := 20) (n' := 120) (by decide) (by decide) ?_
      exact v_zret C E rfl rfl dL_readsAll_43 (by decide) (by decide) ⟨rfl, F3, hw6b, hIF3, (h5F3.trans h5F2)⟩
set_option maxHeartbeats 4000000 in
set_option maxRecDepth 100000 in
theorem c_L_areBuffers (G : GG) (l : Launch) (A : Nat → Nat) (B : Nat → Nat → Nat) (F : Int → Int → Int) (K : Int → Int → Int64) (w : va_W) (n : Int) (hst : l.stackTraces = false) (hw : tlS G A B F K w) (hI : IN F n) (hn : 0 ≤ n ∧ n ≤ 60) : Ct G l yL_areBuffers (Cond.code yL_areBuffers cL_areBuffers 5 (some .boolean) :: wsL_law) 8 132 60 400 [.ref (A 0)] (w) (fun r w' => r = some (vI 1) ∧ tlS G A B F K w') := by
  refine Ct.of (own := RL) (cc := cL_areBuffers) (maxL := 5) (ret := (some .boolean)) (by decide) rfl rfl (Nat.le_of_ble_eq_true rfl) (fun X C E M hG hl => ?_)
  subst hG hl
  have hB := hI.B6 (by omega)
  have s1 := hI.2.1.1
  have s2 := hI.2.1.2
  have s5 := hI.2.2.1
  unfold ST at s1 s2
  unfold T5 at s5
  refine v_iconst C dL_areBuffers_0 ?_
  refine v_istore_n C M dL_areBuffers_1 rfl (by decide) (L' := [(1, vI 0), (0, .ref (A 0))]) rfl ?_
  refine v_iload_n C dL_areBuffers_2 rfl 0 rfl ?_
  refine v_iconst C dL_areBuffers_3 ?_
  refine v_icmp_ge (tgt := 133) C dL_areBuffers_4 (by decide) (by decide) (by decide) (fun c => absurd c (by decide)) (fun _ => ?_)
  refine v_aload_n C dL_areBuffers_7 rfl 1 rfl ?_
  refine v_iload_n C dL_areBuffers_8 rfl 0 rfl ?_
  refine v_iconst C dL_areBuffers_9 ?_
  refine v_callV (na := 2) (wy := (Cond.code yX7_station cX7_station 3 (some .int) :: wsL_law)) (wc := w) (wr := []) C [vI 0, vI 1] [] (k_station (s := 0) (q := 1) hst hw (by decide) (by decide)) rfl (gwV mw_571 mw_568 mw_569 mw_570 mw_2) rfl (by decide +kernel) 0 hw.at0 rfl rfl rfl Sb.w rfl rfl dL_areBuffers_10 (fun r w1 hp10 => ?_)
  obtain ⟨rfl, hw1⟩ := hp10
  refine V.wld (List.append_nil _) ?_
  show V X 2 12 13 [(1, vI 0), (0, .ref (A 0))] [vI (F 1 1)] (w1)
  refine v_istore_n C M dL_areBuffers_13 rfl (by decide) (L' := [(2, vI (F 1 1)), (1, vI 0), (0, .ref (A 0))]) rfl ?_
  refine v_aload_n C dL_areBuffers_14 rfl 2 rfl ?_
  refine v_iload_n C dL_areBuffers_15 rfl 1 rfl ?_
  refine v_iconst C dL_areBuffers_16 ?_
  refine v_callV (na := 2) (wy := (Cond.code yX7_station cX7_station 3 (some .int) :: wsL_law)) (wc := w1) (wr := []) C [vI 0, vI 2] [] (k_station (s := 0) (q := 2) hst hw1 (by decide) (by decide)) rfl (gwV mw_571 mw_568 mw_569 mw_570 mw_2) rfl (by decide +kernel) 0 hw1.at0 rfl rfl rfl Sb.w rfl rfl dL_areBuffers_17 (fun r w2 hp17 => ?_)
  obtain ⟨rfl, hw2⟩ := hp17
  refine V.wld (List.append_nil _) ?_
  show V X 4 24 20 [(2, vI (F 1 1)), (1, vI 0), (0, .ref (A 0))] [vI (F 1 2)] (w2)
  refine v_istore_n C M dL_areBuffers_20 rfl (by decide) (L' := [(3, vI (F 1 2)), (2, vI (F 1 1)), (1, vI 0), (0, .ref (A 0))]) rfl ?_
  refine v_iconst C dL_areBuffers_21 ?_
  refine v_iload_n C dL_areBuffers_22 rfl 2 rfl ?_
  refine v_isub C dL_areBuffers_23 ?_
  show V X 4 24 24 [(3, vI (F 1 2)), (2, vI (F 1 1)), (1, vI 0), (0, .ref (A 0))] [vI 1] (w2)
  refine v_istore C M dL_areBuffers_24 (by decide) (L' := [(4, vI 1), (3, vI (F 1 2)), (2, vI (F 1 1)), (1, vI 0), (0, .ref (A 0))]) rfl ?_
  refine v_iload_n C dL_areBuffers_26 rfl 1 rfl ?_
  refine v_iload_n C dL_areBuffers_27 rfl 2 rfl ?_
  refine v_icmp_gt (tgt := 73) C dL_areBuffers_28 (by decide) (by have := hB 1 2; first | assumption | exact ⟨by omega, by omega⟩) (by have := hB 1 1; first | assumption | exact ⟨by omega, by omega⟩) (fun c => absurd c (by omega)) (fun _ => ?_)
  refine v_iload_n C dL_areBuffers_31 rfl 2 rfl ?_
  refine v_iload_n C dL_areBuffers_32 rfl 1 rfl ?_
  refine v_isub C dL_areBuffers_33 ?_
  refine v_aload_n C dL_areBuffers_34 rfl 4 rfl ?_
  refine v_iload_n C dL_areBuffers_35 rfl 3 rfl ?_
  refine v_iconst C dL_areBuffers_36 ?_
  refine v_callV (na := 2) (wy := (Cond.code yX7_station cX7_station 3 (some .int) :: wsL_law)) (wc := w2) (wr := []) C [vI 0, vI 3] [vI ((F 1 1) - (F 1 2))] (k_station (s := 0) (q := 3) hst hw2 (by decide) (by decide)) rfl (gwV mw_571 mw_568 mw_569 mw_570 mw_2) rfl (by decide +kernel) 0 hw2.at0 rfl rfl rfl Sb.w rfl rfl dL_areBuffers_37 (fun r w3 hp37 => ?_)
  obtain ⟨rfl, hw3⟩ := hp37
  refine V.wld (List.append_nil _) ?_
  show V X 6 36 40 [(4, vI 1), (3, vI (F 1 2)), (2, vI (F 1 1)), (1, vI 0), (0, .ref (A 0))] [vI (F 1 3), vI ((F 1 1) - (F 1 2))] (w3)
  refine v_icmp_gt (tgt := 73) C dL_areBuffers_40 (by decide) (by have := hB 1 1; have := hB 1 2; first | assumption | exact ⟨by omega, by omega⟩) (by have := hB 1 3; first | assumption | exact ⟨by omega, by omega⟩) (fun c => absurd c (by omega)) (fun _ => ?_)
  refine v_iload_n C dL_areBuffers_43 rfl 2 rfl ?_
  refine v_aload_n C dL_areBuffers_44 rfl 4 rfl ?_
  refine v_iload C dL_areBuffers_45 0 rfl ?_
  refine v_bipush C dL_areBuffers_47 (by decide +kernel) ?_
  refine v_callV (na := 2) (wy := (Cond.code yX7_station cX7_station 3 (some .int) :: wsL_law)) (wc := w3) (wr := []) C [vI 1, vI 8] [vI (F 1 1)] (k_station (s := 1) (q := 8) hst hw3 (by decide) (by decide)) rfl (gwV mw_571 mw_568 mw_569 mw_570 mw_2) rfl (by decide +kernel) 0 hw3.at0 rfl rfl rfl Sb.w rfl rfl dL_areBuffers_49 (fun r w4 hp49 => ?_)
  obtain ⟨rfl, hw4⟩ := hp49
  refine V.wld (List.append_nil _) ?_
  show V X 8 48 52 [(4, vI 1), (3, vI (F 1 2)), (2, vI (F 1 1)), (1, vI 0), (0, .ref (A 0))] [vI (F 2 8), vI (F 1 1)] (w4)
  refine v_icmp_gt (tgt := 73) C dL_areBuffers_52 (by decide) (by have := hB 1 1; first | assumption | exact ⟨by omega, by omega⟩) (by have := hB 2 8; first | assumption | exact ⟨by omega, by omega⟩) (fun c => absurd c (by omega)) (fun _ => ?_)
  refine v_aload_n C dL_areBuffers_55 rfl 4 rfl ?_
  refine v_iload C dL_areBuffers_56 0 rfl ?_
  refine v_bipush C dL_areBuffers_58 (by decide +kernel) ?_
  refine v_callV (na := 2) (wy := (Cond.code yX7_station cX7_station 3 (some .int) :: wsL_law)) (wc := w4) (wr := []) C [vI 1, vI 8] [] (k_station (s := 1) (q := 8) hst hw4 (by decide) (by decide)) rfl (gwV mw_571 mw_568 mw_569 mw_570 mw_2) rfl (by decide +kernel) 0 hw4.at0 rfl rfl rfl Sb.w rfl rfl dL_areBuffers_60 (fun r w5 hp60 => ?_)
  obtain ⟨rfl, hw5⟩ := hp60
  refine V.wld (List.append_nil _) ?_
  show V X 10 60 63 [(4, vI 1), (3, vI (F 1 2)), (2, vI (F 1 1)), (1, vI 0), (0, .ref (A 0))] [vI (F 2 8)] (w5)
  refine v_aload_n C dL_areBuffers_63 rfl 4 rfl ?_
  refine v_iload C dL_areBuffers_64 0 rfl ?_
  refine v_iconst C dL_areBuffers_66 ?_
  refine v_callV (na := 2) (wy := (Cond.code yX7_station cX7_station 3 (some .int) :: wsL_law)) (wc := w5) (wr := []) C [vI 1, vI 0] [vI (F 2 8)] (k_station (s := 1) (q := 0) hst hw5 (by decide) (by decide)) rfl (gwV mw_571 mw_568 mw_569 mw_570 mw_2) rfl (by decide +kernel) 0 hw5.at0 rfl rfl rfl Sb.w rfl rfl dL_areBuffers_67 (fun r w6 hp67 => ?_)
  obtain ⟨rfl, hw6⟩ := hp67
  refine V.wld (List.append_nil _) ?_
  show V X 12 72 70 [(4, vI 1), (3, vI (F 1 2)), (2, vI (F 1 1)), (1, vI 0), (0, .ref (A 0))] [vI (F 2 0), vI (F 2 8)] (w6)
  refine v_icmp_le (tgt := 75) C dL_areBuffers_70 (by decide) (by have := hB 2 8; first | assumption | exact ⟨by omega, by omega⟩) (by have := hB 2 0; first | assumption | exact ⟨by omega, by omega⟩) (fun _ => ?_) (fun c => absurd (by omega) c)
  refine v_aload_n C dL_areBuffers_75 rfl 4 rfl ?_
  refine v_iload C dL_areBuffers_76 0 rfl ?_
  refine v_bipush C dL_areBuffers_78 (by decide +kernel) ?_
  refine v_callV (na := 2) (wy := (Cond.code yX7_station cX7_station 3 (some .int) :: wsL_law)) (wc := w6) (wr := []) C [vI 1, vI 6] [] (k_station (s := 1) (q := 6) hst hw6 (by decide) (by decide)) rfl (gwV mw_571 mw_568 mw_569 mw_570 mw_2) rfl (by decide +kernel) 0 hw6.at0 rfl rfl rfl Sb.w rfl rfl dL_areBuffers_80 (fun r w7 hp80 => ?_)
  obtain ⟨rfl, hw7⟩ := hp80
  refine V.wld (List.append_nil _) ?_
  show V X 14 84 83 [(4, vI 1), (3, vI (F 1 2)), (2, vI (F 1 1)), (1, vI 0), (0, .ref (A 0))] [vI (F 2 6)] (w7)
  refine v_iload_n C dL_areBuffers_83 rfl 2 rfl ?_
  refine v_icmp_gt (tgt := 125) C dL_areBuffers_84 (by decide) (by have := hB 2 6; first | assumption | exact ⟨by omega, by omega⟩) (by have := hB 1 1; first | assumption | exact ⟨by omega, by omega⟩) (fun c => absurd c (by omega)) (fun _ => ?_)
  refine v_aload_n C dL_areBuffers_87 rfl 4 rfl ?_
  refine v_iload C dL_areBuffers_88 0 rfl ?_
  refine v_bipush C dL_areBuffers_90 (by decide +kernel) ?_
  refine v_callV (na := 2) (wy := (Cond.code yX7_station cX7_station 3 (some .int) :: wsL_law)) (wc := w7) (wr := []) C [vI 1, vI 8] [] (k_station (s := 1) (q := 8) hst hw7 (by decide) (by decide)) rfl (gwV mw_571 mw_568 mw_569 mw_570 mw_2) rfl (by decide +kernel) 0 hw7.at0 rfl rfl rfl Sb.w rfl rfl dL_areBuffers_92 (fun r w8 hp92 => ?_)
  obtain ⟨rfl, hw8⟩ := hp92
  refine V.wld (List.append_nil _) ?_
  show V X 16 96 95 [(4, vI 1), (3, vI (F 1 2)), (2, vI (F 1 1)), (1, vI 0), (0, .ref (A 0))] [vI (F 2 8)] (w8)
  refine v_aload_n C dL_areBuffers_95 rfl 4 rfl ?_
  refine v_iload C dL_areBuffers_96 0 rfl ?_
  refine v_bipush C dL_areBuffers_98 (by decide +kernel) ?_
  refine v_callV (na := 2) (wy := (Cond.code yX7_station cX7_station 3 (some .int) :: wsL_law)) (wc := w8) (wr := []) C [vI 1, vI 7] [vI (F 2 8)] (k_station (s := 1) (q := 7) hst hw8 (by decide) (by decide)) rfl (gwV mw_571 mw_568 mw_569 mw_570 mw_2) rfl (by decide +kernel) 0 hw8.at0 rfl rfl rfl Sb.w rfl rfl dL_areBuffers_100 (fun r w9 hp100 => ?_)
  obtain ⟨rfl, hw9⟩ := hp100
  refine V.wld (List.append_nil _) ?_
  show V X 18 108 103 [(4, vI 1), (3, vI (F 1 2)), (2, vI (F 1 1)), (1, vI 0), (0, .ref (A 0))] [vI (F 2 7), vI (F 2 8)] (w9)
  refine v_icmp_gt (tgt := 125) C dL_areBuffers_103 (by decide) (by have := hB 2 8; first | assumption | exact ⟨by omega, by omega⟩) (by have := hB 2 7; first | assumption | exact ⟨by omega, by omega⟩) (fun c => absurd c (by omega)) (fun _ => ?_)
  refine v_aload_n C dL_areBuffers_106 rfl 4 rfl ?_
  refine v_iload C dL_areBuffers_107 0 rfl ?_
  refine v_bipush C dL_areBuffers_109 (by decide +kernel) ?_
  refine v_callV (na := 2) (wy := (Cond.code yX7_station cX7_station 3 (some .int) :: wsL_law)) (wc := w9) (wr := []) C [vI 1, vI 7] [] (k_station (s := 1) (q := 7) hst hw9 (by decide) (by decide)) rfl (gwV mw_571 mw_568 mw_569 mw_570 mw_2) rfl (by decide +kernel) 0 hw9.at0 rfl rfl rfl Sb.w rfl rfl dL_areBuffers_111 (fun r w10 hp111 => ?_)
  obtain ⟨rfl, hw10⟩ := hp111
  refine V.wld (List.append_nil _) ?_
  show V X 20 120 114 [(4, vI 1), (3, vI (F 1 2)), (2, vI (F 1 1)), (1, vI 0), (0, .ref (A 0))] [vI (F 2 7)] (w10)
  refine v_iload_n C dL_areBuffers_114 rfl 1 rfl ?_
  refine v_aload_n C dL_areBuffers_115 rfl 4 rfl ?_
  refine v_iload_n C dL_areBuffers_116 rfl 3 rfl ?_
  refine v_iconst C dL_areBuffers_117 ?_
  refine v_callV (na := 2) (wy := (Cond.code yX7_station cX7_station 3 (some .int) :: wsL_law)) (wc := w10) (wr := []) C [vI 0, vI 3] [vI (F 1 2), vI (F 2 7)] (k_station (s := 0) (q := 3) hst hw10 (by decide) (by decide)) rfl (gwV mw_571 mw_568 mw_569 mw_570 mw_2) rfl (by decide +kernel) 0 hw10.at0 rfl rfl rfl Sb.w rfl rfl dL_areBuffers_118 (fun r w11 hp118 => ?_)
  obtain ⟨rfl, hw11⟩ := hp118
  refine V.wld (List.append_nil _) ?_
  show V X 22 132 121 [(4, vI 1), (3, vI (F 1 2)), (2, vI (F 1 1)), (1, vI 0), (0, .ref (A 0))] [vI (F 1 3), vI (F 1 2), vI (F 2 7)] (w11)
  refine v_iadd C dL_areBuffers_121 ?_
  refine v_icmp_le (tgt := 127) C dL_areBuffers_122 (by decide) (by have := hB 2 7; first | assumption | exact ⟨by omega, by omega⟩) (by have := hB 1 2; have := hB 1 3; first | assumption | exact ⟨by omega, by omega⟩) (fun _ => ?_) (fun c => absurd (by omega) c)
  refine v_iinc C M dL_areBuffers_127 3 rfl (by decide) (z' := 1) rfl (L' := [(1, vI 1), (4, vI 1), (3, vI (F 1 2)), (2, vI (F 1 1)), (0, .ref (A 0))]) rfl ?_
  refine v_goto (tgt := 2) C dL_areBuffers_130 (by decide) ?_
  refine v_iload_n C dL_areBuffers_2 rfl 0 rfl ?_
  refine v_iconst C dL_areBuffers_3 ?_
  refine v_icmp_ge (tgt := 133) C dL_areBuffers_4 (by decide) (by decide) (by decide) (fun c => absurd c (by decide)) (fun _ => ?_)
  refine v_aload_n C dL_areBuffers_7 rfl 4 rfl ?_
  refine v_iload_n C dL_areBuffers_8 rfl 0 rfl ?_
  refine v_iconst C dL_areBuffers_9 ?_
  refine v_callV (na := 2) (wy := (Cond.code yX7_station cX7_station 3 (some .int) :: wsL_law)) (wc := w11) (wr := []) C [vI 1, vI 1] [] (k_station (s := 1) (q := 1) hst hw11 (by decide) (by decide)) rfl (gwV mw_571 mw_568 mw_569 mw_570 mw_2) rfl (by decide +kernel) 0 hw11.at0 rfl rfl rfl Sb.w rfl rfl dL_areBuffers_10 (fun r w12 hp10 => ?_)
  obtain ⟨rfl, hw12⟩ := hp10
  refine V.wld (List.append_nil _) ?_
  show V X 24 144 13 [(1, vI 1), (4, vI 1), (3, vI (F 1 2)), (2, vI (F 1 1)), (0, .ref (A 0))] [vI (F 2 1)] (w12)
  refine v_istore_n C M dL_areBuffers_13 rfl (by decide) (L' := [(2, vI (F 2 1)), (1, vI 1), (4, vI 1), (3, vI (F 1 2)), (0, .ref (A 0))]) rfl ?_
  refine v_aload_n C dL_areBuffers_14 rfl 4 rfl ?_
  refine v_iload_n C dL_areBuffers_15 rfl 1 rfl ?_
  refine v_iconst C dL_areBuffers_16 ?_
  refine v_callV (na := 2) (wy := (Cond.code yX7_station cX7_station 3 (some .int) :: wsL_law)) (wc := w12) (wr := []) C [vI 1, vI 2] [] (k_station (s := 1) (q := 2) hst hw12 (by decide) (by decide)) rfl (gwV mw_571 mw_568 mw_569 mw_570 mw_2) rfl (by decide +kernel) 0 hw12.at0 rfl rfl rfl Sb.w rfl rfl dL_areBuffers_17 (fun r w13 hp17 => ?_)
  obtain ⟨rfl, hw13⟩ := hp17
  refine V.wld (List.append_nil _) ?_
  show V X 26 156 20 [(2, vI (F 2 1)), (1, vI 1), (4, vI 1), (3, vI (F 1 2)), (0, .ref (A 0))] [vI (F 2 2)] (w13)
  refine v_istore_n C M dL_areBuffers_20 rfl (by decide) (L' := [(3, vI (F 2 2)), (2, vI (F 2 1)), (1, vI 1), (4, vI 1), (0, .ref (A 0))]) rfl ?_
  refine v_iconst C dL_areBuffers_21 ?_
  refine v_iload_n C dL_areBuffers_22 rfl 2 rfl ?_
  refine v_isub C dL_areBuffers_23 ?_
  show V X 26 156 24 [(3, vI (F 2 2)), (2, vI (F 2 1)), (1, vI 1), (4, vI 1), (0, .ref (A 0))] [vI 0] (w13)
  refine v_istore C M dL_areBuffers_24 (by decide) (L' := [(4, vI 0), (3, vI (F 2 2)), (2, vI (F 2 1)), (1, vI 1), (0, .ref (A 0))]) rfl ?_
  refine v_iload_n C dL_areBuffers_26 rfl 1 rfl ?_
  refine v_iload_n C dL_areBuffers_27 rfl 2 rfl ?_
  refine v_icmp_gt (tgt := 73) C dL_areBuffers_28 (by decide) (by have := hB 2 2; first | assumption | exact ⟨by omega, by omega⟩) (by have := hB 2 1; first | assumption | exact ⟨by omega, by omega⟩) (fun c => absurd c (by omega)) (fun _ => ?_)
  refine v_iload_n C dL_areBuffers_31 rfl 2 rfl ?_
  refine v_iload_n C dL_areBuffers_32 rfl 1 rfl ?_
  refine v_isub C dL_areBuffers_33 ?_
  refine v_aload_n C dL_areBuffers_34 rfl 4 rfl ?_
  refine v_iload_n C dL_areBuffers_35 rfl 3 rfl ?_
  refine v_iconst C dL_areBuffers_36 ?_
  refine v_callV (na := 2) (wy := (Cond.code yX7_station cX7_station 3 (some .int) :: wsL_law)) (wc := w13) (wr := []) C [vI 1, vI 3] [vI ((F 2 1) - (F 2 2))] (k_station (s := 1) (q := 3) hst hw13 (by decide) (by decide)) rfl (gwV mw_571 mw_568 mw_569 mw_570 mw_2) rfl (by decide +kernel) 0 hw13.at0 rfl rfl rfl Sb.w rfl rfl dL_areBuffers_37 (fun r w14 hp37 => ?_)
  obtain ⟨rfl, hw14⟩ := hp37
  refine V.wld (List.append_nil _) ?_
  show V X 28 168 40 [(4, vI 0), (3, vI (F 2 2)), (2, vI (F 2 1)), (1, vI 1), (0, .ref (A 0))] [vI (F 2 3), vI ((F 2 1) - (F 2 2))] (w14)
  refine v_icmp_gt (tgt := 73) C dL_areBuffers_40 (by decide) (by have := hB 2 1; have := hB 2 2; first | assumption | exact ⟨by omega, by omega⟩) (by have := hB 2 3; first | assumption | exact ⟨by omega, by omega⟩) (fun c => absurd c (by omega)) (fun _ => ?_)
  refine v_iload_n C dL_areBuffers_43 rfl 2 rfl ?_
  refine v_aload_n C dL_areBuffers_44 rfl 4 rfl ?_
  refine v_iload C dL_areBuffers_45 0 rfl ?_
  refine v_bipush C dL_areBuffers_47 (by decide +kernel) ?_
  refine v_callV (na := 2) (wy := (Cond.code yX7_station cX7_station 3 (some .int) :: wsL_law)) (wc := w14) (wr := []) C [vI 0, vI 8] [vI (F 2 1)] (k_station (s := 0) (q := 8) hst hw14 (by decide) (by decide)) rfl (gwV mw_571 mw_568 mw_569 mw_570 mw_2) rfl (by decide +kernel) 0 hw14.at0 rfl rfl rfl Sb.w rfl rfl dL_areBuffers_49 (fun r w15 hp49 => ?_)
  obtain ⟨rfl, hw15⟩ := hp49
  refine V.wld (List.append_nil _) ?_
  show V X 30 180 52 [(4, vI 0), (3, vI (F 2 2)), (2, vI (F 2 1)), (1, vI 1), (0, .ref (A 0))] [vI (F 1 8), vI (F 2 1)] (w15)
  refine v_icmp_gt (tgt := 73) C dL_areBuffers_52 (by decide) (by have := hB 2 1; first | assumption | exact ⟨by omega, by omega⟩) (by have := hB 1 8; first | assumption | exact ⟨by omega, by omega⟩) (fun c => absurd c (by omega)) (fun _ => ?_)
  refine v_aload_n C dL_areBuffers_55 rfl 4 rfl ?_
  refine v_iload C dL_areBuffers_56 0 rfl ?_
  refine v_bipush C dL_areBuffers_58 (by decide +kernel) ?_
  refine v_callV (na := 2) (wy := (Cond.code yX7_station cX7_station 3 (some .int) :: wsL_law)) (wc := w15) (wr := []) C [vI 0, vI 8] [] (k_station (s := 0) (q := 8) hst hw15 (by decide) (by decide)) rfl (gwV mw_571 mw_568 mw_569 mw_570 mw_2) rfl (by decide +kernel) 0 hw15.at0 rfl rfl rfl Sb.w rfl rfl dL_areBuffers_60 (fun r w16 hp60 => ?_)
  obtain ⟨rfl, hw16⟩ := hp60
  refine V.wld (List.append_nil _) ?_
  show V X 32 192 63 [(4, vI 0), (3, vI (F 2 2)), (2, vI (F 2 1)), (1, vI 1), (0, .ref (A 0))] [vI (F 1 8)] (w16)
  refine v_aload_n C dL_areBuffers_63 rfl 4 rfl ?_
  refine v_iload C dL_areBuffers_64 0 rfl ?_
  refine v_iconst C dL_areBuffers_66 ?_
  refine v_callV (na := 2) (wy := (Cond.code yX7_station cX7_station 3 (some .int) :: wsL_law)) (wc := w16) (wr := []) C [vI 0, vI 0] [vI (F 1 8)] (k_station (s := 0) (q := 0) hst hw16 (by decide) (by decide)) rfl (gwV mw_571 mw_568 mw_569 mw_570 mw_2) rfl (by decide +kernel) 0 hw16.at0 rfl rfl rfl Sb.w rfl rfl dL_areBuffers_67 (fun r w17 hp67 => ?_)
  obtain ⟨rfl, hw17⟩ := hp67
  refine V.wld (List.append_nil _) ?_
  show V X 34 204 70 [(4, vI 0), (3, vI (F 2 2)), (2, vI (F 2 1)), (1, vI 1), (0, .ref (A 0))] [vI (F 1 0), vI (F 1 8)] (w17)
  refine v_icmp_le (tgt := 75) C dL_areBuffers_70 (by decide) (by have := hB 1 8; first | assumption | exact ⟨by omega, by omega⟩) (by have := hB 1 0; first | assumption | exact ⟨by omega, by omega⟩) (fun _ => ?_) (fun c => absurd (by omega) c)
  refine v_aload_n C dL_areBuffers_75 rfl 4 rfl ?_
  refine v_iload C dL_areBuffers_76 0 rfl ?_
  refine v_bipush C dL_areBuffers_78 (by decide +kernel) ?_
  refine v_callV (na := 2) (wy := (Cond.code yX7_station cX7_station 3 (some .int) :: wsL_law)) (wc := w17) (wr := []) C [vI 0, vI 6] [] (k_station (s := 0) (q := 6) hst hw17 (by decide) (by decide)) rfl (gwV mw_571 mw_568 mw_569 mw_570 mw_2) rfl (by decide +kernel) 0 hw17.at0 rfl rfl rfl Sb.w rfl rfl dL_areBuffers_80 (fun r w18 hp80 => ?_)
  obtain ⟨rfl, hw18⟩ := hp80
  refine V.wld (List.append_nil _) ?_
  show V X 36 216 83 [(4, vI 0), (3, vI (F 2 2)), (2, vI (F 2 1)), (1, vI 1), (0, .ref (A 0))] [vI (F 1 6)] (w18)
  refine v_iload_n C dL_areBuffers_83 rfl 2 rfl ?_
  refine v_icmp_gt (tgt := 125) C dL_areBuffers_84 (by decide) (by have := hB 1 6; first | assumption | exact ⟨by omega, by omega⟩) (by have := hB 2 1; first | assumption | exact ⟨by omega, by omega⟩) (fun c => absurd c (by omega)) (fun _ => ?_)
  refine v_aload_n C dL_areBuffers_87 rfl 4 rfl ?_
  refine v_iload C dL_areBuffers_88 0 rfl ?_
  refine v_bipush C dL_areBuffers_90 (by decide +kernel) ?_
  refine v_callV (na := 2) (wy := (Cond.code yX7_station cX7_station 3 (some .int) :: wsL_law)) (wc := w18) (wr := []) C [vI 0, vI 8] [] (k_station (s := 0) (q := 8) hst hw18 (by decide) (by decide)) rfl (gwV mw_571 mw_568 mw_569 mw_570 mw_2) rfl (by decide +kernel) 0 hw18.at0 rfl rfl rfl Sb.w rfl rfl dL_areBuffers_92 (fun r w19 hp92 => ?_)
  obtain ⟨rfl, hw19⟩ := hp92
  refine V.wld (List.append_nil _) ?_
  show V X 38 228 95 [(4, vI 0), (3, vI (F 2 2)), (2, vI (F 2 1)), (1, vI 1), (0, .ref (A 0))] [vI (F 1 8)] (w19)
  refine v_aload_n C dL_areBuffers_95 rfl 4 rfl ?_
  refine v_iload C dL_areBuffers_96 0 rfl ?_
  refine v_bipush C dL_areBuffers_98 (by decide +kernel) ?_
  refine v_callV (na := 2) (wy := (Cond.code yX7_station cX7_station 3 (some .int) :: wsL_law)) (wc := w19) (wr := []) C [vI 0, vI 7] [vI (F 1 8)] (k_station (s := 0) (q := 7) hst hw19 (by decide) (by decide)) rfl (gwV mw_571 mw_568 mw_569 mw_570 mw_2) rfl (by decide +kernel) 0 hw19.at0 rfl rfl rfl Sb.w rfl rfl dL_areBuffers_100 (fun r w20 hp100 => ?_)
  obtain ⟨rfl, hw20⟩ := hp100
  refine V.wld (List.append_nil _) ?_
  show V X 40 240 103 [(4, vI 0), (3, vI (F 2 2)), (2, vI (F 2 1)), (1, vI 1), (0, .ref (A 0))] [vI (F 1 7), vI (F 1 8)] (w20)
  refine v_icmp_gt (tgt := 125) C dL_areBuffers_103 (by decide) (by have := hB 1 8; first | assumption | exact ⟨by omega, by omega⟩) (by have := hB 1 7; first | assumption | exact ⟨by omega, by omega⟩) (fun c => absurd c (by omega)) (fun _ => ?_)
  refine v_aload_n C dL_areBuffers_106 rfl 4 rfl ?_
  refine v_iload C dL_areBuffers_107 0 rfl ?_
  refine v_bipush C dL_areBuffers_109 (by decide +kernel) ?_
  refine v_callV (na := 2) (wy := (Cond.code yX7_station cX7_station 3 (some .int) :: wsL_law)) (wc := w20) (wr := []) C [vI 0, vI 7] [] (k_station (s := 0) (q := 7) hst hw20 (by decide) (by decide)) rfl (gwV mw_571 mw_568 mw_569 mw_570 mw_2) rfl (by decide +kernel) 0 hw20.at0 rfl rfl rfl Sb.w rfl rfl dL_areBuffers_111 (fun r w21 hp111 => ?_)
  obtain ⟨rfl, hw21⟩ := hp111
  refine V.wld (List.append_nil _) ?_
  show V X 42 252 114 [(4, vI 0), (3, vI (F 2 2)), (2, vI (F 2 1)), (1, vI 1), (0, .ref (A 0))] [vI (F 1 7)] (w21)
  refine v_iload_n C dL_areBuffers_114 rfl 1 rfl ?_
  refine v_aload_n C dL_areBuffers_115 rfl 4 rfl ?_
  refine v_iload_n C dL_areBuffers_116 rfl 3 rfl ?_
  refine v_iconst C dL_areBuffers_117 ?_
  refine v_callV (na := 2) (wy := (Cond.code yX7_station cX7_station 3 (some .int) :: wsL_law)) (wc := w21) (wr := []) C [vI 1, vI 3] [vI (F 2 2), vI (F 1 7)] (k_station (s := 1) (q := 3) hst hw21 (by decide) (by decide)) rfl (gwV mw_571 mw_568 mw_569 mw_570 mw_2) rfl (by decide +kernel) 0 hw21.at0 rfl rfl rfl Sb.w rfl rfl dL_areBuffers_118 (fun r w22 hp118 => ?_)
  obtain ⟨rfl, hw22⟩ := hp118
  refine V.wld (List.append_nil _) ?_
  show V X 44 264 121 [(4, vI 0), (3, vI (F 2 2)), (2, vI (F 2 1)), (1, vI 1), (0, .ref (A 0))] [vI (F 2 3), vI (F 2 2), vI (F 1 7)] (w22)
  refine v_iadd C dL_areBuffers_121 ?_
  refine v_icmp_le (tgt := 127) C dL_areBuffers_122 (by decide) (by have := hB 1 7; first | assumption | exact ⟨by omega, by omega⟩) (by have := hB 2 2; have := hB 2 3; first | assumption | exact ⟨by omega, by omega⟩) (fun _ => ?_) (fun c => absurd (by omega) c)
  refine v_iinc C M dL_areBuffers_127 3 rfl (by decide) (z' := 2) rfl (L' := [(1, vI 2), (4, vI 0), (3, vI (F 2 2)), (2, vI (F 2 1)), (0, .ref (A 0))]) rfl ?_
  refine v_goto (tgt := 2) C dL_areBuffers_130 (by decide) ?_
  refine v_iload_n C dL_areBuffers_2 rfl 0 rfl ?_
  refine v_iconst C dL_areBuffers_3 ?_
  refine v_icmp_ge (tgt := 133) C dL_areBuffers_4 (by decide) (by decide) (by decide) (fun _ => ?_) (fun c => absurd (by decide) c)
  refine v_aload_n C dL_areBuffers_133 rfl 4 rfl ?_
  refine v_iconst C dL_areBuffers_134 ?_
  refine v_callV (na := 1) (wy := (Cond.code yX7_account cX7_account 2 (some .int) :: wsL_law)) (wc := w22) (wr := []) C [vI 0] [] (k_account (q := 0) hst hw22 (by decide)) rfl (gwV mw_642 mw_639 mw_640 mw_641 mw_2) rfl (by decide +kernel) 0 hw22.at0 rfl rfl rfl Sb.w rfl rfl dL_areBuffers_135 (fun r w23 hp135 => ?_)
  obtain ⟨rfl, hw23⟩ := hp135
  refine V.wld (List.append_nil _) ?_
  show V X 45 270 138 [(1, vI 2), (4, vI 0), (3, vI (F 2 2)), (2, vI (F 2 1)), (0, .ref (A 0))] [vI (F 5 0)] (w23)
  refine v_aload_n C dL_areBuffers_138 rfl 4 rfl ?_
  refine v_iconst C dL_areBuffers_139 ?_
  refine v_callV (na := 1) (wy := (Cond.code yX7_account cX7_account 2 (some .int) :: wsL_law)) (wc := w23) (wr := []) C [vI 2] [vI (F 5 0)] (k_account (q := 2) hst hw23 (by decide)) rfl (gwV mw_642 mw_639 mw_640 mw_641 mw_2) rfl (by decide +kernel) 0 hw23.at0 rfl rfl rfl Sb.w rfl rfl dL_areBuffers_140 (fun r w24 hp140 => ?_)
  obtain ⟨rfl, hw24⟩ := hp140
  refine V.wld (List.append_nil _) ?_
  show V X 46 276 143 [(1, vI 2), (4, vI 0), (3, vI (F 2 2)), (2, vI (F 2 1)), (0, .ref (A 0))] [vI (F 5 2), vI (F 5 0)] (w24)
  refine v_aload_n C dL_areBuffers_143 rfl 4 rfl ?_
  refine v_iconst C dL_areBuffers_144 ?_
  refine v_callV (na := 1) (wy := (Cond.code yX7_account cX7_account 2 (some .int) :: wsL_law)) (wc := w24) (wr := []) C [vI 4] [vI (F 5 2), vI (F 5 0)] (k_account (q := 4) hst hw24 (by decide)) rfl (gwV mw_642 mw_639 mw_640 mw_641 mw_2) rfl (by decide +kernel) 0 hw24.at0 rfl rfl rfl Sb.w rfl rfl dL_areBuffers_145 (fun r w25 hp145 => ?_)
  obtain ⟨rfl, hw25⟩ := hp145
  refine V.wld (List.append_nil _) ?_
  show V X 47 282 148 [(1, vI 2), (4, vI 0), (3, vI (F 2 2)), (2, vI (F 2 1)), (0, .ref (A 0))] [vI (F 5 4), vI (F 5 2), vI (F 5 0)] (w25)
  refine v_iadd C dL_areBuffers_148 ?_
  refine v_icmp_ne (tgt := 169) C dL_areBuffers_149 (by decide) (by have := hB 5 0; first | assumption | exact ⟨by omega, by omega⟩) (by have := hB 5 2; have := hB 5 4; first | assumption | exact ⟨by omega, by omega⟩) (fun c => absurd (by omega) c) (fun _ => ?_)
  refine v_aload_n C dL_areBuffers_152 rfl 4 rfl ?_
  refine v_iconst C dL_areBuffers_153 ?_
  refine v_callV (na := 1) (wy := (Cond.code yX7_account cX7_account 2 (some .int) :: wsL_law)) (wc := w25) (wr := []) C [vI 1] [] (k_account (q := 1) hst hw25 (by decide)) rfl (gwV mw_642 mw_639 mw_640 mw_641 mw_2) rfl (by decide +kernel) 0 hw25.at0 rfl rfl rfl Sb.w rfl rfl dL_areBuffers_154 (fun r w26 hp154 => ?_)
  obtain ⟨rfl, hw26⟩ := hp154
  refine V.wld (List.append_nil _) ?_
  show V X 48 288 157 [(1, vI 2), (4, vI 0), (3, vI (F 2 2)), (2, vI (F 2 1)), (0, .ref (A 0))] [vI (F 5 1)] (w26)
  refine v_aload_n C dL_areBuffers_157 rfl 4 rfl ?_
  refine v_iconst C dL_areBuffers_158 ?_
  refine v_callV (na := 1) (wy := (Cond.code yX7_account cX7_account 2 (some .int) :: wsL_law)) (wc := w26) (wr := []) C [vI 0] [vI (F 5 1)] (k_account (q := 0) hst hw26 (by decide)) rfl (gwV mw_642 mw_639 mw_640 mw_641 mw_2) rfl (by decide +kernel) 0 hw26.at0 rfl rfl rfl Sb.w rfl rfl dL_areBuffers_159 (fun r w27 hp159 => ?_)
  obtain ⟨rfl, hw27⟩ := hp159
  refine V.wld (List.append_nil _) ?_
  show V X 49 294 162 [(1, vI 2), (4, vI 0), (3, vI (F 2 2)), (2, vI (F 2 1)), (0, .ref (A 0))] [vI (F 5 0), vI (F 5 1)] (w27)
  refine v_icmp_gt (tgt := 169) C dL_areBuffers_162 (by decide) (by have := hB 5 1; first | assumption | exact ⟨by omega, by omega⟩) (by have := hB 5 0; first | assumption | exact ⟨by omega, by omega⟩) (fun c => absurd c (by omega)) (fun _ => ?_)
  refine v_iconst C dL_areBuffers_165 ?_
  refine v_goto (tgt := 170) C dL_areBuffers_166 (by decide) ?_
  exact v_zret C E rfl rfl dL_areBuffers_170 (by decide) (by decide) ⟨rfl, hw27⟩
set_option maxHeartbeats 4000000 in
set_option maxRecDepth 100000 in
theorem c_L_isStep (G : GG) (l : Launch) (A : Nat → Nat) (B : Nat → Nat → Nat) (F : Int → Int → Int) (K : Int → Int → Int64) (w : va_W) (n : Int) (F2 : Int → Int → Int) (hst : l.stackTraces = false) (hw : tlS G A B F K w) (hI : IN F n) (hn : 0 ≤ n ∧ n ≤ 60) (h2 : spL K F = F2) : Ct G l yL_isStep (Cond.code yL_isStep cL_isStep 11 (some .boolean) :: wsL_law) 8 150 60 400 [.ref (A 0)] (w) (fun r w' => r = some (vI 1) ∧ tlS G A B F2 K w') := by
  refine Ct.of (own := RL) (cc := cL_isStep) (maxL := 11) (ret := (some .boolean)) (by decide) rfl rfl (Nat.le_of_ble_eq_true rfl) (fun X C E M hG hl => ?_)
  subst hG hl
  have hB := hI.B6 (by omega)
  have hT := hI.1.1
  have hT2 : 0 ≤ F 0 1 ∧ F 0 1 ≤ 1 := by omega
  have hd2 := (dlL_in hI).2.2
  have hz := hI.1.2.1
  have hI2 := spL_IN (K := K) hI hn.1
  have hs := sp_one (K := K) hI
  rw [h2] at hI2 hs
  have hB2 := hI2.B6 (by omega)
  have b3 : 2 ≤ nxC K F 3 ∧ nxC K F 3 ≤ 32 := by
    have hd := dlL_in hI
    have he := escI_in (f := pbL F K) (k := 7 + dlL F) (by omega)
    have hx : nxC K F 3 = 2 + (7 + dlL F) + escI (pbL F K) (7 + dlL F) := rfl
    omega
  have bt : -3000000 < tmL F ∧ tmL F < 3000000 := by have a := hB 5 6; have b := hB 5 8; unfold tmL; omega
  have bt2 : -3000000 < tmL F2 ∧ tmL F2 < 3000000 := by have a := hB2 5 6; have b := hB2 5 8; unfold tmL; omega
  obtain ⟨f0, fd, ft, fl⟩ := hs
  have hfr := hI.2.2.1.2.2
  by_cases hd : isDL F
  · skip
    by_cases hl : tlL (K 2) (F 5 0)
    · skip
      obtain ⟨g1, g2, g3, g4, g5⟩ := fd hd
      refine v_aload_n C dL_isStep_0 rfl 0 rfl ?_
      refine v_iconst C dL_isStep_1 ?_
      refine v_callV (na := 1) (wy := (Cond.code yX7_size cX7_size 2 (some .int) :: wsL_law)) (wc := w) (wr := []) C [vI 3] [] (k_size (q := 3) (v := (F 0 1)) hst hw (by decide) (fun _ => rfl)) rfl (gwV mw_99 mw_96 mw_97 mw_98 mw_2) rfl (by decide +kernel) 0 hw.at0 rfl rfl rfl Sb.w rfl rfl dL_isStep_2 (fun r w1 hp2 => ?_)
      obtain ⟨rfl, hw1⟩ := hp2
      refine V.wld (List.append_nil _) ?_
      show V X 1 6 5 [(0, .ref (A 0))] [vI (F 0 1)] (w1)
      refine v_istore_n C M dL_isStep_5 rfl (by decide) (L' := [(1, vI (F 0 1)), (0, .ref (A 0))]) rfl ?_
      refine v_aload_n C dL_isStep_6 rfl 1 rfl ?_
      refine v_iconst C dL_isStep_7 ?_
      refine v_callV (na := 1) (wy := (Cond.code yX7_next cX7_next 2 (some .int) :: wsL_law)) (wc := w1) (wr := []) C [vI 0] [] (k_next (q := 0) (v := 0) hst hw1 (by decide) (show (if isDL F then (0 : Int) else 1) = 0 from if_pos hd) hB hT hd2) rfl (gwV mw_109 mw_106 mw_107 mw_108 mw_2) rfl (by decide +kernel) 0 hw1.at0 rfl rfl rfl Sb.w rfl rfl dL_isStep_8 (fun r w2 hp8 => ?_)
      obtain ⟨rfl, hw2⟩ := hp8
      refine V.wld (List.append_nil _) ?_
      show V X 2 12 11 [(1, vI (F 0 1)), (0, .ref (A 0))] [vI 0] (w2)
      refine v_iconst C dL_isStep_11 ?_
      refine v_icmp_ne (tgt := 19) C dL_isStep_12 (by decide) (by decide) (by decide) (fun _ => ?_) (fun c => absurd c (by decide))
      refine v_iconst C dL_isStep_19 ?_
      refine v_istore_n C M dL_isStep_20 rfl (by decide) (L' := [(2, vI 0), (1, vI (F 0 1)), (0, .ref (A 0))]) rfl ?_
      refine v_aload_n C dL_isStep_21 rfl 2 rfl ?_
      refine v_iconst C dL_isStep_22 ?_
      refine v_callV (na := 1) (wy := (Cond.code yX7_next cX7_next 2 (some .int) :: wsL_law)) (wc := w2) (wr := []) C [vI 5] [] (k_next (q := 5) (v := 1) hst hw2 (by decide) (show (if tlL (K 2) (F 5 0) then (1 : Int) else 0) = 1 from if_pos hl) hB hT hd2) rfl (gwV mw_109 mw_106 mw_107 mw_108 mw_2) rfl (by decide +kernel) 0 hw2.at0 rfl rfl rfl Sb.w rfl rfl dL_isStep_23 (fun r w3 hp23 => ?_)
      obtain ⟨rfl, hw3⟩ := hp23
      refine V.wld (List.append_nil _) ?_
      show V X 3 18 26 [(2, vI 0), (1, vI (F 0 1)), (0, .ref (A 0))] [vI 1] (w3)
      refine v_iconst C dL_isStep_26 ?_
      refine v_icmp_ne (tgt := 34) C dL_isStep_27 (by decide) (by decide) (by decide) (fun c => absurd (by decide) c) (fun _ => ?_)
      refine v_iconst C dL_isStep_30 ?_
      refine v_goto (tgt := 35) C dL_isStep_31 (by decide) ?_
      refine v_istore_n C M dL_isStep_35 rfl (by decide) (L' := [(3, vI 1), (2, vI 0), (1, vI (F 0 1)), (0, .ref (A 0))]) rfl ?_
      refine v_aload_n C dL_isStep_36 rfl 3 rfl ?_
      refine v_iconst C dL_isStep_37 ?_
      refine v_callV (na := 1) (wy := (Cond.code yX7_next cX7_next 2 (some .int) :: wsL_law)) (wc := w3) (wr := []) C [vI 3] [] (k_next (q := 3) (v := (nxC K F 3)) hst hw3 (by decide) rfl hB hT hd2) rfl (gwV mw_109 mw_106 mw_107 mw_108 mw_2) rfl (by decide +kernel) 0 hw3.at0 rfl rfl rfl Sb.w rfl rfl dL_isStep_38 (fun r w4 hp38 => ?_)
      obtain ⟨rfl, hw4⟩ := hp38
      refine V.wld (List.append_nil _) ?_
      show V X 4 24 41 [(3, vI 1), (2, vI 0), (1, vI (F 0 1)), (0, .ref (A 0))] [vI (nxC K F 3)] (w4)
      refine v_istore C M dL_isStep_41 (by decide) (L' := [(4, vI (nxC K F 3)), (3, vI 1), (2, vI 0), (1, vI (F 0 1)), (0, .ref (A 0))]) rfl ?_
      refine v_aload_n C dL_isStep_43 rfl 4 rfl ?_
      refine v_iconst C dL_isStep_44 ?_
      refine v_callV (na := 1) (wy := (Cond.code yX7_next cX7_next 2 (some .int) :: wsL_law)) (wc := w4) (wr := []) C [vI 4] [] (k_next (q := 4) (v := (F 5 0)) hst hw4 (by decide) rfl hB hT hd2) rfl (gwV mw_109 mw_106 mw_107 mw_108 mw_2) rfl (by decide +kernel) 0 hw4.at0 rfl rfl rfl Sb.w rfl rfl dL_isStep_45 (fun r w5 hp45 => ?_)
      obtain ⟨rfl, hw5⟩ := hp45
      refine V.wld (List.append_nil _) ?_
      show V X 5 30 48 [(4, vI (nxC K F 3)), (3, vI 1), (2, vI 0), (1, vI (F 0 1)), (0, .ref (A 0))] [vI (F 5 0)] (w5)
      refine v_istore C M dL_isStep_48 (by decide) (L' := [(5, vI (F 5 0)), (4, vI (nxC K F 3)), (3, vI 1), (2, vI 0), (1, vI (F 0 1)), (0, .ref (A 0))]) rfl ?_
      refine v_aload_n C dL_isStep_50 rfl 5 rfl ?_
      refine v_iconst C dL_isStep_51 ?_
      refine v_callV (na := 1) (wy := (Cond.code yX7_size cX7_size 2 (some .int) :: wsL_law)) (wc := w5) (wr := []) C [vI 2] [] (k_size (q := 2) (v := (tmL F)) hst hw5 (by decide) (fun _ => rfl)) rfl (gwV mw_99 mw_96 mw_97 mw_98 mw_2) rfl (by decide +kernel) 0 hw5.at0 rfl rfl rfl Sb.w rfl rfl dL_isStep_52 (fun r w6 hp52 => ?_)
      obtain ⟨rfl, hw6⟩ := hp52
      refine V.wld (List.append_nil _) ?_
      show V X 6 36 55 [(5, vI (F 5 0)), (4, vI (nxC K F 3)), (3, vI 1), (2, vI 0), (1, vI (F 0 1)), (0, .ref (A 0))] [vI (tmL F)] (w6)
      refine v_istore C M dL_isStep_55 (by decide) (L' := [(6, vI (tmL F)), (5, vI (F 5 0)), (4, vI (nxC K F 3)), (3, vI 1), (2, vI 0), (1, vI (F 0 1)), (0, .ref (A 0))]) rfl ?_
      refine v_aload_n C dL_isStep_57 rfl 6 rfl ?_
      refine v_iload_n C dL_isStep_58 rfl 5 rfl ?_
      refine v_bipush C dL_isStep_59 (by decide +kernel) ?_
      refine v_callV (na := 2) (wy := (Cond.code yX7_station cX7_station 3 (some .int) :: wsL_law)) (wc := w6) (wr := []) C [vI (F 0 1), vI 9] [] (k_station (s := (F 0 1)) (q := 9) hst hw6 hT2 (by decide)) rfl (gwV mw_571 mw_568 mw_569 mw_570 mw_2) rfl (by decide +kernel) 0 hw6.at0 rfl rfl rfl Sb.w rfl rfl dL_isStep_61 (fun r w7 hp61 => ?_)
      obtain ⟨rfl, hw7⟩ := hp61
      refine V.wld (List.append_nil _) ?_
      show V X 8 48 64 [(6, vI (tmL F)), (5, vI (F 5 0)), (4, vI (nxC K F 3)), (3, vI 1), (2, vI 0), (1, vI (F 0 1)), (0, .ref (A 0))] [vI (F (1 + (F 0 1)) 9)] (w7)
      refine v_istore C M dL_isStep_64 (by decide) (L' := [(7, vI (F (1 + (F 0 1)) 9)), (6, vI (tmL F)), (5, vI (F 5 0)), (4, vI (nxC K F 3)), (3, vI 1), (2, vI 0), (1, vI (F 0 1)), (0, .ref (A 0))]) rfl ?_
      refine v_aload_n C dL_isStep_66 rfl 7 rfl ?_
      refine v_iload_n C dL_isStep_67 rfl 6 rfl ?_
      refine v_bipush C dL_isStep_68 (by decide +kernel) ?_
      refine v_callV (na := 2) (wy := (Cond.code yX7_station cX7_station 3 (some .int) :: wsL_law)) (wc := w7) (wr := []) C [vI (F 0 1), vI 8] [] (k_station (s := (F 0 1)) (q := 8) hst hw7 hT2 (by decide)) rfl (gwV mw_571 mw_568 mw_569 mw_570 mw_2) rfl (by decide +kernel) 0 hw7.at0 rfl rfl rfl Sb.w rfl rfl dL_isStep_70 (fun r w8 hp70 => ?_)
      obtain ⟨rfl, hw8⟩ := hp70
      refine V.wld (List.append_nil _) ?_
      show V X 10 60 73 [(7, vI (F (1 + (F 0 1)) 9)), (6, vI (tmL F)), (5, vI (F 5 0)), (4, vI (nxC K F 3)), (3, vI 1), (2, vI 0), (1, vI (F 0 1)), (0, .ref (A 0))] [vI (F (1 + (F 0 1)) 8)] (w8)
      refine v_istore C M dL_isStep_73 (by decide) (L' := [(8, vI (F (1 + (F 0 1)) 8)), (7, vI (F (1 + (F 0 1)) 9)), (6, vI (tmL F)), (5, vI (F 5 0)), (4, vI (nxC K F 3)), (3, vI 1), (2, vI 0), (1, vI (F 0 1)), (0, .ref (A 0))]) rfl ?_
      refine v_iload_n C dL_isStep_75 rfl 5 rfl ?_
      refine v_aload_n C dL_isStep_76 rfl 8 rfl ?_
      refine v_iload C dL_isStep_77 3 rfl ?_
      refine v_callV (na := 1) (wy := (Cond.code yX7_isTold cX7_isTold 2 (some .boolean) :: wsL_law)) (wc := w8) (wr := []) C [vI (F 5 0)] [vI 1] (k_isTold (v := 1) hst hw8 (by have := hB 5 0; exact ⟨by omega, by omega⟩) (bI_t hl)) rfl (gwV mw_594 mw_591 mw_592 mw_593 mw_2) rfl (by decide +kernel) 0 hw8.at0 rfl rfl rfl Sb.w rfl rfl dL_isStep_79 (fun r w9 hp79 => ?_)
      obtain ⟨rfl, hw9⟩ := hp79
      refine V.wld (List.append_nil _) ?_
      show V X 10 60 82 [(8, vI (F (1 + (F 0 1)) 8)), (7, vI (F (1 + (F 0 1)) 9)), (6, vI (tmL F)), (5, vI (F 5 0)), (4, vI (nxC K F 3)), (3, vI 1), (2, vI 0), (1, vI (F 0 1)), (0, .ref (A 0))] [vI 1, vI 1] (w9)
      refine v_icmp_eq (tgt := 87) C dL_isStep_82 (by decide) (by decide) (by decide) (fun _ => ?_) (fun c => absurd (by decide) c)
      refine v_iload C dL_isStep_87 2 rfl ?_
      refine v_iload C dL_isStep_89 4 rfl ?_
      refine v_iadd C dL_isStep_91 ?_
      refine v_iload_n C dL_isStep_92 rfl 6 rfl ?_
      refine v_if_eq (tgt := 108) C dL_isStep_93 (by decide) (by decide) (fun _ => ?_) (fun c => absurd (by decide) c)
      refine v_iconst C dL_isStep_108 ?_
      refine v_iadd C dL_isStep_109 ?_
      refine v_istore C M dL_isStep_110 (by decide) (L' := [(9, vI (((tmL F) + (nxC K F 3)) + 0)), (8, vI (F (1 + (F 0 1)) 8)), (7, vI (F (1 + (F 0 1)) 9)), (6, vI (tmL F)), (5, vI (F 5 0)), (4, vI (nxC K F 3)), (3, vI 1), (2, vI 0), (1, vI (F 0 1)), (0, .ref (A 0))]) rfl ?_
      refine v_aload_n C dL_isStep_112 rfl 9 rfl ?_
      refine v_iconst C dL_isStep_113 ?_
      refine v_callV (na := 1) (wy := (Cond.code yX7_run cX7_run 3 (some .int) :: wsL_law)) (wc := w9) (wr := []) C [vI 1] [] (k_run (F2 := F2) hst hw9 (by omega) (IN_okl hI (by omega)) hB hz h2) rfl (gwV mw_598 mw_595 mw_596 mw_597 mw_2) rfl (by decide +kernel) 0 hw9.at0 rfl rfl rfl Sb.w rfl rfl dL_isStep_114 (fun r w10 hp114 => ?_)
      obtain ⟨rfl, hw10⟩ := hp114
      refine V.wld (List.append_nil _) ?_
      show V X 12 72 117 [(9, vI (((tmL F) + (nxC K F 3)) + 0)), (8, vI (F (1 + (F 0 1)) 8)), (7, vI (F (1 + (F 0 1)) 9)), (6, vI (tmL F)), (5, vI (F 5 0)), (4, vI (nxC K F 3)), (3, vI 1), (2, vI 0), (1, vI (F 0 1)), (0, .ref (A 0))] [vI (tmL F2)] (w10)
      refine v_iload C dL_isStep_117 0 rfl ?_
      refine v_icmp_ne (tgt := 134) C dL_isStep_119 (by decide) (by  first | assumption | exact ⟨by omega, by omega⟩) (by  first | assumption | exact ⟨by omega, by omega⟩) (fun c => absurd (by omega) c) (fun _ => ?_)
      refine v_aload_n C dL_isStep_122 rfl 9 rfl ?_
      refine v_iconst C dL_isStep_123 ?_
      refine v_callV (na := 1) (wy := (Cond.code yX7_account cX7_account 2 (some .int) :: wsL_law)) (wc := w10) (wr := []) C [vI 0] [] (k_account (q := 0) hst hw10 (by decide)) rfl (gwV mw_642 mw_639 mw_640 mw_641 mw_2) rfl (by decide +kernel) 0 hw10.at0 rfl rfl rfl Sb.w rfl rfl dL_isStep_124 (fun r w11 hp124 => ?_)
      obtain ⟨rfl, hw11⟩ := hp124
      refine V.wld (List.append_nil _) ?_
      show V X 13 78 127 [(9, vI (((tmL F) + (nxC K F 3)) + 0)), (8, vI (F (1 + (F 0 1)) 8)), (7, vI (F (1 + (F 0 1)) 9)), (6, vI (tmL F)), (5, vI (F 5 0)), (4, vI (nxC K F 3)), (3, vI 1), (2, vI 0), (1, vI (F 0 1)), (0, .ref (A 0))] [vI (F2 5 0)] (w11)
      refine v_iload C dL_isStep_127 4 rfl ?_
      refine v_iconst C dL_isStep_129 ?_
      refine v_iadd C dL_isStep_130 ?_
      refine v_icmp_eq (tgt := 136) C dL_isStep_131 (by decide) (by have := hB2 5 0; first | assumption | exact ⟨by omega, by omega⟩) (by have := hB 5 0; first | assumption | exact ⟨by omega, by omega⟩) (fun _ => ?_) (fun c => absurd (by omega) c)
      refine v_iload_n C dL_isStep_136 rfl 7 rfl ?_
      refine v_if_eq (tgt := 148) C dL_isStep_137 (by decide) (by decide) (fun _ => ?_) (fun c => absurd (by decide) c)
      refine v_iconst C dL_isStep_148 ?_
      refine v_istore C M dL_isStep_149 (by decide) (L' := [(10, vI 0), (9, vI (((tmL F) + (nxC K F 3)) + 0)), (8, vI (F (1 + (F 0 1)) 8)), (7, vI (F (1 + (F 0 1)) 9)), (6, vI (tmL F)), (5, vI (F 5 0)), (4, vI (nxC K F 3)), (3, vI 1), (2, vI 0), (1, vI (F 0 1)), (0, .ref (A 0))]) rfl ?_
      refine v_aload_n C dL_isStep_151 rfl 10 rfl ?_
      refine v_iconst C dL_isStep_152 ?_
      refine v_callV (na := 1) (wy := (Cond.code yX7_size cX7_size 2 (some .int) :: wsL_law)) (wc := w11) (wr := []) C [vI 3] [] (k_size (q := 3) (v := (F2 0 1)) hst hw11 (by decide) (fun _ => rfl)) rfl (gwV mw_99 mw_96 mw_97 mw_98 mw_2) rfl (by decide +kernel) 0 hw11.at0 rfl rfl rfl Sb.w rfl rfl dL_isStep_153 (fun r w12 hp153 => ?_)
      obtain ⟨rfl, hw12⟩ := hp153
      refine V.wld (List.append_nil _) ?_
      show V X 14 84 156 [(10, vI 0), (9, vI (((tmL F) + (nxC K F 3)) + 0)), (8, vI (F (1 + (F 0 1)) 8)), (7, vI (F (1 + (F 0 1)) 9)), (6, vI (tmL F)), (5, vI (F 5 0)), (4, vI (nxC K F 3)), (3, vI 1), (2, vI 0), (1, vI (F 0 1)), (0, .ref (A 0))] [vI (F2 0 1)] (w12)
      refine v_iload C dL_isStep_156 0 rfl ?_
      refine v_if_eq (tgt := 167) C dL_isStep_158 (by decide) (by decide) (fun _ => ?_) (fun c => absurd (by decide) c)
      refine v_iload_n C dL_isStep_167 rfl 9 rfl ?_
      refine v_icmp_ne (tgt := 194) C dL_isStep_168 (by decide) (by have := hB2 0 1; first | assumption | exact ⟨by omega, by omega⟩) (by have := hB 0 1; first | assumption | exact ⟨by omega, by omega⟩) (fun c => absurd (by omega) c) (fun _ => ?_)
      refine v_aload_n C dL_isStep_171 rfl 10 rfl ?_
      refine v_iload_n C dL_isStep_172 rfl 9 rfl ?_
      refine v_bipush C dL_isStep_173 (by decide +kernel) ?_
      refine v_callV (na := 2) (wy := (Cond.code yX7_station cX7_station 3 (some .int) :: wsL_law)) (wc := w12) (wr := []) C [vI (F 0 1), vI 9] [] (k_station (s := (F 0 1)) (q := 9) hst hw12 hT2 (by decide)) rfl (gwV mw_571 mw_568 mw_569 mw_570 mw_2) rfl (by decide +kernel) 0 hw12.at0 rfl rfl rfl Sb.w rfl rfl dL_isStep_175 (fun r w13 hp175 => ?_)
      obtain ⟨rfl, hw13⟩ := hp175
      refine V.wld (List.append_nil _) ?_
      show V X 16 96 178 [(10, vI 0), (9, vI (((tmL F) + (nxC K F 3)) + 0)), (8, vI (F (1 + (F 0 1)) 8)), (7, vI (F (1 + (F 0 1)) 9)), (6, vI (tmL F)), (5, vI (F 5 0)), (4, vI (nxC K F 3)), (3, vI 1), (2, vI 0), (1, vI (F 0 1)), (0, .ref (A 0))] [vI (F2 (1 + (F 0 1)) 9)] (w13)
      refine v_iload C dL_isStep_178 3 rfl ?_
      refine v_iload C dL_isStep_180 0 rfl ?_
      refine v_if_eq (tgt := 189) C dL_isStep_182 (by decide) (by decide) (fun _ => ?_) (fun c => absurd (by decide) c)
      refine v_iconst C dL_isStep_189 ?_
      refine v_iadd C dL_isStep_190 ?_
      refine v_icmp_eq (tgt := 196) C dL_isStep_191 (by decide) (by have := hB2 (1 + (F 0 1)) 9; first | assumption | exact ⟨by omega, by omega⟩) (by have := hB (1 + (F 0 1)) 9; first | assumption | exact ⟨by omega, by omega⟩) (fun _ => ?_) (fun c => absurd (by omega) c)
      refine v_iload_n C dL_isStep_196 rfl 8 rfl ?_
      refine v_if_eq (tgt := 220) C dL_isStep_197 (by decide) (by decide) (fun _ => ?_) (fun c => absurd (by decide) c)
      refine v_aload_n C dL_isStep_220 rfl 10 rfl ?_
      refine v_iload_n C dL_isStep_221 rfl 9 rfl ?_
      refine v_bipush C dL_isStep_222 (by decide +kernel) ?_
      refine v_callV (na := 2) (wy := (Cond.code yX7_station cX7_station 3 (some .int) :: wsL_law)) (wc := w13) (wr := []) C [vI (F 0 1), vI 8] [] (k_station (s := (F 0 1)) (q := 8) hst hw13 hT2 (by decide)) rfl (gwV mw_571 mw_568 mw_569 mw_570 mw_2) rfl (by decide +kernel) 0 hw13.at0 rfl rfl rfl Sb.w rfl rfl dL_isStep_224 (fun r w14 hp224 => ?_)
      obtain ⟨rfl, hw14⟩ := hp224
      refine V.wld (List.append_nil _) ?_
      show V X 18 108 227 [(10, vI 0), (9, vI (((tmL F) + (nxC K F 3)) + 0)), (8, vI (F (1 + (F 0 1)) 8)), (7, vI (F (1 + (F 0 1)) 9)), (6, vI (tmL F)), (5, vI (F 5 0)), (4, vI (nxC K F 3)), (3, vI 1), (2, vI 0), (1, vI (F 0 1)), (0, .ref (A 0))] [vI (F2 (1 + (F 0 1)) 8)] (w14)
      refine v_iload C dL_isStep_227 2 rfl ?_
      refine v_icmp_lt (tgt := 245) C dL_isStep_229 (by decide) (by have := hB2 (1 + (F 0 1)) 8; first | assumption | exact ⟨by omega, by omega⟩) (by have := hB (1 + (F 0 1)) 8; first | assumption | exact ⟨by omega, by omega⟩) (fun c => absurd c (by omega)) (fun _ => ?_)
      refine v_aload_n C dL_isStep_232 rfl 10 rfl ?_
      refine v_iconst C dL_isStep_233 ?_
      refine v_callV (na := 1) (wy := (Cond.code yX7_size cX7_size 2 (some .int) :: wsL_law)) (wc := w14) (wr := []) C [vI 4] [] (k_size (q := 4) (v := (F2 0 2)) hst hw14 (by decide) (fun _ => rfl)) rfl (gwV mw_99 mw_96 mw_97 mw_98 mw_2) rfl (by decide +kernel) 0 hw14.at0 rfl rfl rfl Sb.w rfl rfl dL_isStep_234 (fun r w15 hp234 => ?_)
      obtain ⟨rfl, hw15⟩ := hp234
      refine V.wld (List.append_nil _) ?_
      show V X 19 114 237 [(10, vI 0), (9, vI (((tmL F) + (nxC K F 3)) + 0)), (8, vI (F (1 + (F 0 1)) 8)), (7, vI (F (1 + (F 0 1)) 9)), (6, vI (tmL F)), (5, vI (F 5 0)), (4, vI (nxC K F 3)), (3, vI 1), (2, vI 0), (1, vI (F 0 1)), (0, .ref (A 0))] [vI (F2 0 2)] (w15)
      refine v_iconst C dL_isStep_237 ?_
      refine v_icmp_lt (tgt := 245) C dL_isStep_238 (by decide) (by have := hB2 0 2; first | assumption | exact ⟨by omega, by omega⟩) (by decide) (fun c => absurd c (by omega)) (fun _ => ?_)
      refine v_iconst C dL_isStep_241 ?_
      refine v_goto (tgt := 246) C dL_isStep_242 (by decide) ?_
      refine V.wid (k' := 60) (n' := 400) (by decide) (by decide) ?_
      exact v_zret C E rfl rfl dL_isStep_246 (by decide) (by decide) ⟨rfl, hw15⟩
    · skip
      obtain ⟨g1, g2, g3, g4, g5⟩ := fd hd
      refine v_aload_n C dL_isStep_0 rfl 0 rfl ?_
      refine v_iconst C dL_isStep_1 ?_
      refine v_callV (na := 1) (wy := (Cond.code yX7_size cX7_size 2 (some .int) :: wsL_law)) (wc := w) (wr := []) C [vI 3] [] (k_size (q := 3) (v := (F 0 1)) hst hw (by decide) (fun _ => rfl)) rfl (gwV mw_99 mw_96 mw_97 mw_98 mw_2) rfl (by decide +kernel) 0 hw.at0 rfl rfl rfl Sb.w rfl rfl dL_isStep_2 (fun r w1 hp2 => ?_)
      obtain ⟨rfl, hw1⟩ := hp2
      refine V.wld (List.append_nil _) ?_
      show V X 1 6 5 [(0, .ref (A 0))] [vI (F 0 1)] (w1)
      refine v_istore_n C M dL_isStep_5 rfl (by decide) (L' := [(1, vI (F 0 1)), (0, .ref (A 0))]) rfl ?_
      refine v_aload_n C dL_isStep_6 rfl 1 rfl ?_
      refine v_iconst C dL_isStep_7 ?_
      refine v_callV (na := 1) (wy := (Cond.code yX7_next cX7_next 2 (some .int) :: wsL_law)) (wc := w1) (wr := []) C [vI 0] [] (k_next (q := 0) (v := 0) hst hw1 (by decide) (show (if isDL F then (0 : Int) else 1) = 0 from if_pos hd) hB hT hd2) rfl (gwV mw_109 mw_106 mw_107 mw_108 mw_2) rfl (by decide +kernel) 0 hw1.at0 rfl rfl rfl Sb.w rfl rfl dL_isStep_8 (fun r w2 hp8 => ?_)
      obtain ⟨rfl, hw2⟩ := hp8
      refine V.wld (List.append_nil _) ?_
      show V X 2 12 11 [(1, vI (F 0 1)), (0, .ref (A 0))] [vI 0] (w2)
      refine v_iconst C dL_isStep_11 ?_
      refine v_icmp_ne (tgt := 19) C dL_isStep_12 (by decide) (by decide) (by decide) (fun _ => ?_) (fun c => absurd c (by decide))
      refine v_iconst C dL_isStep_19 ?_
      refine v_istore_n C M dL_isStep_20 rfl (by decide) (L' := [(2, vI 0), (1, vI (F 0 1)), (0, .ref (A 0))]) rfl ?_
      refine v_aload_n C dL_isStep_21 rfl 2 rfl ?_
      refine v_iconst C dL_isStep_22 ?_
      refine v_callV (na := 1) (wy := (Cond.code yX7_next cX7_next 2 (some .int) :: wsL_law)) (wc := w2) (wr := []) C [vI 5] [] (k_next (q := 5) (v := 0) hst hw2 (by decide) (show (if tlL (K 2) (F 5 0) then (1 : Int) else 0) = 0 from if_neg hl) hB hT hd2) rfl (gwV mw_109 mw_106 mw_107 mw_108 mw_2) rfl (by decide +kernel) 0 hw2.at0 rfl rfl rfl Sb.w rfl rfl dL_isStep_23 (fun r w3 hp23 => ?_)
      obtain ⟨rfl, hw3⟩ := hp23
      refine V.wld (List.append_nil _) ?_
      show V X 3 18 26 [(2, vI 0), (1, vI (F 0 1)), (0, .ref (A 0))] [vI 0] (w3)
      refine v_iconst C dL_isStep_26 ?_
      refine v_icmp_ne (tgt := 34) C dL_isStep_27 (by decide) (by decide) (by decide) (fun _ => ?_) (fun c => absurd c (by decide))
      refine v_iconst C dL_isStep_34 ?_
      refine v_istore_n C M dL_isStep_35 rfl (by decide) (L' := [(3, vI 0), (2, vI 0), (1, vI (F 0 1)), (0, .ref (A 0))]) rfl ?_
      refine v_aload_n C dL_isStep_36 rfl 3 rfl ?_
      refine v_iconst C dL_isStep_37 ?_
      refine v_callV (na := 1) (wy := (Cond.code yX7_next cX7_next 2 (some .int) :: wsL_law)) (wc := w3) (wr := []) C [vI 3] [] (k_next (q := 3) (v := (nxC K F 3)) hst hw3 (by decide) rfl hB hT hd2) rfl (gwV mw_109 mw_106 mw_107 mw_108 mw_2) rfl (by decide +kernel) 0 hw3.at0 rfl rfl rfl Sb.w rfl rfl dL_isStep_38 (fun r w4 hp38 => ?_)
      obtain ⟨rfl, hw4⟩ := hp38
      refine V.wld (List.append_nil _) ?_
      show V X 4 24 41 [(3, vI 0), (2, vI 0), (1, vI (F 0 1)), (0, .ref (A 0))] [vI (nxC K F 3)] (w4)
      refine v_istore C M dL_isStep_41 (by decide) (L' := [(4, vI (nxC K F 3)), (3, vI 0), (2, vI 0), (1, vI (F 0 1)), (0, .ref (A 0))]) rfl ?_
      refine v_aload_n C dL_isStep_43 rfl 4 rfl ?_
      refine v_iconst C dL_isStep_44 ?_
      refine v_callV (na := 1) (wy := (Cond.code yX7_next cX7_next 2 (some .int) :: wsL_law)) (wc := w4) (wr := []) C [vI 4] [] (k_next (q := 4) (v := (F 5 0)) hst hw4 (by decide) rfl hB hT hd2) rfl (gwV mw_109 mw_106 mw_107 mw_108 mw_2) rfl (by decide +kernel) 0 hw4.at0 rfl rfl rfl Sb.w rfl rfl dL_isStep_45 (fun r w5 hp45 => ?_)
      obtain ⟨rfl, hw5⟩ := hp45
      refine V.wld (List.append_nil _) ?_
      show V X 5 30 48 [(4, vI (nxC K F 3)), (3, vI 0), (2, vI 0), (1, vI (F 0 1)), (0, .ref (A 0))] [vI (F 5 0)] (w5)
      refine v_istore C M dL_isStep_48 (by decide) (L' := [(5, vI (F 5 0)), (4, vI (nxC K F 3)), (3, vI 0), (2, vI 0), (1, vI (F 0 1)), (0, .ref (A 0))]) rfl ?_
      refine v_aload_n C dL_isStep_50 rfl 5 rfl ?_
      refine v_iconst C dL_isStep_51 ?_
      refine v_callV (na := 1) (wy := (Cond.code yX7_size cX7_size 2 (some .int) :: wsL_law)) (wc := w5) (wr := []) C [vI 2] [] (k_size (q := 2) (v := (tmL F)) hst hw5 (by decide) (fun _ => rfl)) rfl (gwV mw_99 mw_96 mw_97 mw_98 mw_2) rfl (by decide +kernel) 0 hw5.at0 rfl rfl rfl Sb.w rfl rfl dL_isStep_52 (fun r w6 hp52 => ?_)
      obtain ⟨rfl, hw6⟩ := hp52
      refine V.wld (List.append_nil _) ?_
      show V X 6 36 55 [(5, vI (F 5 0)), (4, vI (nxC K F 3)), (3, vI 0), (2, vI 0), (1, vI (F 0 1)), (0, .ref (A 0))] [vI (tmL F)] (w6)
      refine v_istore C M dL_isStep_55 (by decide) (L' := [(6, vI (tmL F)), (5, vI (F 5 0)), (4, vI (nxC K F 3)), (3, vI 0), (2, vI 0), (1, vI (F 0 1)), (0, .ref (A 0))]) rfl ?_
      refine v_aload_n C dL_isStep_57 rfl 6 rfl ?_
      refine v_iload_n C dL_isStep_58 rfl 5 rfl ?_
      refine v_bipush C dL_isStep_59 (by decide +kernel) ?_
      refine v_callV (na := 2) (wy := (Cond.code yX7_station cX7_station 3 (some .int) :: wsL_law)) (wc := w6) (wr := []) C [vI (F 0 1), vI 9] [] (k_station (s := (F 0 1)) (q := 9) hst hw6 hT2 (by decide)) rfl (gwV mw_571 mw_568 mw_569 mw_570 mw_2) rfl (by decide +kernel) 0 hw6.at0 rfl rfl rfl Sb.w rfl rfl dL_isStep_61 (fun r w7 hp61 => ?_)
      obtain ⟨rfl, hw7⟩ := hp61
      refine V.wld (List.append_nil _) ?_
      show V X 8 48 64 [(6, vI (tmL F)), (5, vI (F 5 0)), (4, vI (nxC K F 3)), (3, vI 0), (2, vI 0), (1, vI (F 0 1)), (0, .ref (A 0))] [vI (F (1 + (F 0 1)) 9)] (w7)
      refine v_istore C M dL_isStep_64 (by decide) (L' := [(7, vI (F (1 + (F 0 1)) 9)), (6, vI (tmL F)), (5, vI (F 5 0)), (4, vI (nxC K F 3)), (3, vI 0), (2, vI 0), (1, vI (F 0 1)), (0, .ref (A 0))]) rfl ?_
      refine v_aload_n C dL_isStep_66 rfl 7 rfl ?_
      refine v_iload_n C dL_isStep_67 rfl 6 rfl ?_
      refine v_bipush C dL_isStep_68 (by decide +kernel) ?_
      refine v_callV (na := 2) (wy := (Cond.code yX7_station cX7_station 3 (some .int) :: wsL_law)) (wc := w7) (wr := []) C [vI (F 0 1), vI 8] [] (k_station (s := (F 0 1)) (q := 8) hst hw7 hT2 (by decide)) rfl (gwV mw_571 mw_568 mw_569 mw_570 mw_2) rfl (by decide +kernel) 0 hw7.at0 rfl rfl rfl Sb.w rfl rfl dL_isStep_70 (fun r w8 hp70 => ?_)
      obtain ⟨rfl, hw8⟩ := hp70
      refine V.wld (List.append_nil _) ?_
      show V X 10 60 73 [(7, vI (F (1 + (F 0 1)) 9)), (6, vI (tmL F)), (5, vI (F 5 0)), (4, vI (nxC K F 3)), (3, vI 0), (2, vI 0), (1, vI (F 0 1)), (0, .ref (A 0))] [vI (F (1 + (F 0 1)) 8)] (w8)
      refine v_istore C M dL_isStep_73 (by decide) (L' := [(8, vI (F (1 + (F 0 1)) 8)), (7, vI (F (1 + (F 0 1)) 9)), (6, vI (tmL F)), (5, vI (F 5 0)), (4, vI (nxC K F 3)), (3, vI 0), (2, vI 0), (1, vI (F 0 1)), (0, .ref (A 0))]) rfl ?_
      refine v_iload_n C dL_isStep_75 rfl 5 rfl ?_
      refine v_aload_n C dL_isStep_76 rfl 8 rfl ?_
      refine v_iload C dL_isStep_77 3 rfl ?_
      refine v_callV (na := 1) (wy := (Cond.code yX7_isTold cX7_isTold 2 (some .boolean) :: wsL_law)) (wc := w8) (wr := []) C [vI (F 5 0)] [vI 0] (k_isTold (v := 0) hst hw8 (by have := hB 5 0; exact ⟨by omega, by omega⟩) (bI_f hl)) rfl (gwV mw_594 mw_591 mw_592 mw_593 mw_2) rfl (by decide +kernel) 0 hw8.at0 rfl rfl rfl Sb.w rfl rfl dL_isStep_79 (fun r w9 hp79 => ?_)
      obtain ⟨rfl, hw9⟩ := hp79
      refine V.wld (List.append_nil _) ?_
      show V X 10 60 82 [(8, vI (F (1 + (F 0 1)) 8)), (7, vI (F (1 + (F 0 1)) 9)), (6, vI (tmL F)), (5, vI (F 5 0)), (4, vI (nxC K F 3)), (3, vI 0), (2, vI 0), (1, vI (F 0 1)), (0, .ref (A 0))] [vI 0, vI 0] (w9)
      refine v_icmp_eq (tgt := 87) C dL_isStep_82 (by decide) (by decide) (by decide) (fun _ => ?_) (fun c => absurd (by decide) c)
      refine v_iload C dL_isStep_87 2 rfl ?_
      refine v_iload C dL_isStep_89 4 rfl ?_
      refine v_iadd C dL_isStep_91 ?_
      refine v_iload_n C dL_isStep_92 rfl 6 rfl ?_
      refine v_if_eq (tgt := 108) C dL_isStep_93 (by decide) (by decide) (fun _ => ?_) (fun c => absurd (by decide) c)
      refine v_iconst C dL_isStep_108 ?_
      refine v_iadd C dL_isStep_109 ?_
      refine v_istore C M dL_isStep_110 (by decide) (L' := [(9, vI (((tmL F) + (nxC K F 3)) + 0)), (8, vI (F (1 + (F 0 1)) 8)), (7, vI (F (1 + (F 0 1)) 9)), (6, vI (tmL F)), (5, vI (F 5 0)), (4, vI (nxC K F 3)), (3, vI 0), (2, vI 0), (1, vI (F 0 1)), (0, .ref (A 0))]) rfl ?_
      refine v_aload_n C dL_isStep_112 rfl 9 rfl ?_
      refine v_iconst C dL_isStep_113 ?_
      refine v_callV (na := 1) (wy := (Cond.code yX7_run cX7_run 3 (some .int) :: wsL_law)) (wc := w9) (wr := []) C [vI 1] [] (k_run (F2 := F2) hst hw9 (by omega) (IN_okl hI (by omega)) hB hz h2) rfl (gwV mw_598 mw_595 mw_596 mw_597 mw_2) rfl (by decide +kernel) 0 hw9.at0 rfl rfl rfl Sb.w rfl rfl dL_isStep_114 (fun r w10 hp114 => ?_)
      obtain ⟨rfl, hw10⟩ := hp114
      refine V.wld (List.append_nil _) ?_
      show V X 12 72 117 [(9, vI (((tmL F) + (nxC K F 3)) + 0)), (8, vI (F (1 + (F 0 1)) 8)), (7, vI (F (1 + (F 0 1)) 9)), (6, vI (tmL F)), (5, vI (F 5 0)), (4, vI (nxC K F 3)), (3, vI 0), (2, vI 0), (1, vI (F 0 1)), (0, .ref (A 0))] [vI (tmL F2)] (w10)
      refine v_iload C dL_isStep_117 0 rfl ?_
      refine v_icmp_ne (tgt := 134) C dL_isStep_119 (by decide) (by  first | assumption | exact ⟨by omega, by omega⟩) (by  first | assumption | exact ⟨by omega, by omega⟩) (fun c => absurd (by omega) c) (fun _ => ?_)
      refine v_aload_n C dL_isStep_122 rfl 9 rfl ?_
      refine v_iconst C dL_isStep_123 ?_
      refine v_callV (na := 1) (wy := (Cond.code yX7_account cX7_account 2 (some .int) :: wsL_law)) (wc := w10) (wr := []) C [vI 0] [] (k_account (q := 0) hst hw10 (by decide)) rfl (gwV mw_642 mw_639 mw_640 mw_641 mw_2) rfl (by decide +kernel) 0 hw10.at0 rfl rfl rfl Sb.w rfl rfl dL_isStep_124 (fun r w11 hp124 => ?_)
      obtain ⟨rfl, hw11⟩ := hp124
      refine V.wld (List.append_nil _) ?_
      show V X 13 78 127 [(9, vI (((tmL F) + (nxC K F 3)) + 0)), (8, vI (F (1 + (F 0 1)) 8)), (7, vI (F (1 + (F 0 1)) 9)), (6, vI (tmL F)), (5, vI (F 5 0)), (4, vI (nxC K F 3)), (3, vI 0), (2, vI 0), (1, vI (F 0 1)), (0, .ref (A 0))] [vI (F2 5 0)] (w11)
      refine v_iload C dL_isStep_127 4 rfl ?_
      refine v_iconst C dL_isStep_129 ?_
      refine v_iadd C dL_isStep_130 ?_
      refine v_icmp_eq (tgt := 136) C dL_isStep_131 (by decide) (by have := hB2 5 0; first | assumption | exact ⟨by omega, by omega⟩) (by have := hB 5 0; first | assumption | exact ⟨by omega, by omega⟩) (fun _ => ?_) (fun c => absurd (by omega) c)
      refine v_iload_n C dL_isStep_136 rfl 7 rfl ?_
      refine v_if_eq (tgt := 148) C dL_isStep_137 (by decide) (by decide) (fun _ => ?_) (fun c => absurd (by decide) c)
      refine v_iconst C dL_isStep_148 ?_
      refine v_istore C M dL_isStep_149 (by decide) (L' := [(10, vI 0), (9, vI (((tmL F) + (nxC K F 3)) + 0)), (8, vI (F (1 + (F 0 1)) 8)), (7, vI (F (1 + (F 0 1)) 9)), (6, vI (tmL F)), (5, vI (F 5 0)), (4, vI (nxC K F 3)), (3, vI 0), (2, vI 0), (1, vI (F 0 1)), (0, .ref (A 0))]) rfl ?_
      refine v_aload_n C dL_isStep_151 rfl 10 rfl ?_
      refine v_iconst C dL_isStep_152 ?_
      refine v_callV (na := 1) (wy := (Cond.code yX7_size cX7_size 2 (some .int) :: wsL_law)) (wc := w11) (wr := []) C [vI 3] [] (k_size (q := 3) (v := (F2 0 1)) hst hw11 (by decide) (fun _ => rfl)) rfl (gwV mw_99 mw_96 mw_97 mw_98 mw_2) rfl (by decide +kernel) 0 hw11.at0 rfl rfl rfl Sb.w rfl rfl dL_isStep_153 (fun r w12 hp153 => ?_)
      obtain ⟨rfl, hw12⟩ := hp153
      refine V.wld (List.append_nil _) ?_
      show V X 14 84 156 [(10, vI 0), (9, vI (((tmL F) + (nxC K F 3)) + 0)), (8, vI (F (1 + (F 0 1)) 8)), (7, vI (F (1 + (F 0 1)) 9)), (6, vI (tmL F)), (5, vI (F 5 0)), (4, vI (nxC K F 3)), (3, vI 0), (2, vI 0), (1, vI (F 0 1)), (0, .ref (A 0))] [vI (F2 0 1)] (w12)
      refine v_iload C dL_isStep_156 0 rfl ?_
      refine v_if_eq (tgt := 167) C dL_isStep_158 (by decide) (by decide) (fun _ => ?_) (fun c => absurd (by decide) c)
      refine v_iload_n C dL_isStep_167 rfl 9 rfl ?_
      refine v_icmp_ne (tgt := 194) C dL_isStep_168 (by decide) (by have := hB2 0 1; first | assumption | exact ⟨by omega, by omega⟩) (by have := hB 0 1; first | assumption | exact ⟨by omega, by omega⟩) (fun c => absurd (by omega) c) (fun _ => ?_)
      refine v_aload_n C dL_isStep_171 rfl 10 rfl ?_
      refine v_iload_n C dL_isStep_172 rfl 9 rfl ?_
      refine v_bipush C dL_isStep_173 (by decide +kernel) ?_
      refine v_callV (na := 2) (wy := (Cond.code yX7_station cX7_station 3 (some .int) :: wsL_law)) (wc := w12) (wr := []) C [vI (F 0 1), vI 9] [] (k_station (s := (F 0 1)) (q := 9) hst hw12 hT2 (by decide)) rfl (gwV mw_571 mw_568 mw_569 mw_570 mw_2) rfl (by decide +kernel) 0 hw12.at0 rfl rfl rfl Sb.w rfl rfl dL_isStep_175 (fun r w13 hp175 => ?_)
      obtain ⟨rfl, hw13⟩ := hp175
      refine V.wld (List.append_nil _) ?_
      show V X 16 96 178 [(10, vI 0), (9, vI (((tmL F) + (nxC K F 3)) + 0)), (8, vI (F (1 + (F 0 1)) 8)), (7, vI (F (1 + (F 0 1)) 9)), (6, vI (tmL F)), (5, vI (F 5 0)), (4, vI (nxC K F 3)), (3, vI 0), (2, vI 0), (1, vI (F 0 1)), (0, .ref (A 0))] [vI (F2 (1 + (F 0 1)) 9)] (w13)
      refine v_iload C dL_isStep_178 3 rfl ?_
      refine v_iload C dL_isStep_180 0 rfl ?_
      refine v_if_eq (tgt := 189) C dL_isStep_182 (by decide) (by decide) (fun _ => ?_) (fun c => absurd (by decide) c)
      refine v_iconst C dL_isStep_189 ?_
      refine v_iadd C dL_isStep_190 ?_
      refine v_icmp_eq (tgt := 196) C dL_isStep_191 (by decide) (by have := hB2 (1 + (F 0 1)) 9; first | assumption | exact ⟨by omega, by omega⟩) (by have := hB (1 + (F 0 1)) 9; first | assumption | exact ⟨by omega, by omega⟩) (fun _ => ?_) (fun c => absurd (by omega) c)
      refine v_iload_n C dL_isStep_196 rfl 8 rfl ?_
      refine v_if_eq (tgt := 220) C dL_isStep_197 (by decide) (by decide) (fun _ => ?_) (fun c => absurd (by decide) c)
      refine v_aload_n C dL_isStep_220 rfl 10 rfl ?_
      refine v_iload_n C dL_isStep_221 rfl 9 rfl ?_
      refine v_bipush C dL_isStep_222 (by decide +kernel) ?_
      refine v_callV (na := 2) (wy := (Cond.code yX7_station cX7_station 3 (some .int) :: wsL_law)) (wc := w13) (wr := []) C [vI (F 0 1), vI 8] [] (k_station (s := (F 0 1)) (q := 8) hst hw13 hT2 (by decide)) rfl (gwV mw_571 mw_568 mw_569 mw_570 mw_2) rfl (by decide +kernel) 0 hw13.at0 rfl rfl rfl Sb.w rfl rfl dL_isStep_224 (fun r w14 hp224 => ?_)
      obtain ⟨rfl, hw14⟩ := hp224
      refine V.wld (List.append_nil _) ?_
      show V X 18 108 227 [(10, vI 0), (9, vI (((tmL F) + (nxC K F 3)) + 0)), (8, vI (F (1 + (F 0 1)) 8)), (7, vI (F (1 + (F 0 1)) 9)), (6, vI (tmL F)), (5, vI (F 5 0)), (4, vI (nxC K F 3)), (3, vI 0), (2, vI 0), (1, vI (F 0 1)), (0, .ref (A 0))] [vI (F2 (1 + (F 0 1)) 8)] (w14)
      refine v_iload C dL_isStep_227 2 rfl ?_
      refine v_icmp_lt (tgt := 245) C dL_isStep_229 (by decide) (by have := hB2 (1 + (F 0 1)) 8; first | assumption | exact ⟨by omega, by omega⟩) (by have := hB (1 + (F 0 1)) 8; first | assumption | exact ⟨by omega, by omega⟩) (fun c => absurd c (by omega)) (fun _ => ?_)
      refine v_aload_n C dL_isStep_232 rfl 10 rfl ?_
      refine v_iconst C dL_isStep_233 ?_
      refine v_callV (na := 1) (wy := (Cond.code yX7_size cX7_size 2 (some .int) :: wsL_law)) (wc := w14) (wr := []) C [vI 4] [] (k_size (q := 4) (v := (F2 0 2)) hst hw14 (by decide) (fun _ => rfl)) rfl (gwV mw_99 mw_96 mw_97 mw_98 mw_2) rfl (by decide +kernel) 0 hw14.at0 rfl rfl rfl Sb.w rfl rfl dL_isStep_234 (fun r w15 hp234 => ?_)
      obtain ⟨rfl, hw15⟩ := hp234
      refine V.wld (List.append_nil _) ?_
      show V X 19 114 237 [(10, vI 0), (9, vI (((tmL F) + (nxC K F 3)) + 0)), (8, vI (F (1 + (F 0 1)) 8)), (7, vI (F (1 + (F 0 1)) 9)), (6, vI (tmL F)), (5, vI (F 5 0)), (4, vI (nxC K F 3)), (3, vI 0), (2, vI 0), (1, vI (F 0 1)), (0, .ref (A 0))] [vI (F2 0 2)] (w15)
      refine v_iconst C dL_isStep_237 ?_
      refine v_icmp_lt (tgt := 245) C dL_isStep_238 (by decide) (by have := hB2 0 2; first | assumption | exact ⟨by omega, by omega⟩) (by decide) (fun c => absurd c (by omega)) (fun _ => ?_)
      refine v_iconst C dL_isStep_241 ?_
      refine v_goto (tgt := 246) C dL_isStep_242 (by decide) ?_
      refine V.wid (k' := 60) (n' := 400) (by decide) (by decide) ?_
      exact v_zret C E rfl rfl dL_isStep_246 (by decide) (by decide) ⟨rfl, hw15⟩
  · skip
    by_cases hl : tlL (K 2) (F 5 0)
    · skip
      obtain ⟨g1, g2, g3, g4⟩ := fl hd hl
      refine v_aload_n C dL_isStep_0 rfl 0 rfl ?_
      refine v_iconst C dL_isStep_1 ?_
      refine v_callV (na := 1) (wy := (Cond.code yX7_size cX7_size 2 (some .int) :: wsL_law)) (wc := w) (wr := []) C [vI 3] [] (k_size (q := 3) (v := (F 0 1)) hst hw (by decide) (fun _ => rfl)) rfl (gwV mw_99 mw_96 mw_97 mw_98 mw_2) rfl (by decide +kernel) 0 hw.at0 rfl rfl rfl Sb.w rfl rfl dL_isStep_2 (fun r w1 hp2 => ?_)
      obtain ⟨rfl, hw1⟩ := hp2
      refine V.wld (List.append_nil _) ?_
      show V X 1 6 5 [(0, .ref (A 0))] [vI (F 0 1)] (w1)
      refine v_istore_n C M dL_isStep_5 rfl (by decide) (L' := [(1, vI (F 0 1)), (0, .ref (A 0))]) rfl ?_
      refine v_aload_n C dL_isStep_6 rfl 1 rfl ?_
      refine v_iconst C dL_isStep_7 ?_
      refine v_callV (na := 1) (wy := (Cond.code yX7_next cX7_next 2 (some .int) :: wsL_law)) (wc := w1) (wr := []) C [vI 0] [] (k_next (q := 0) (v := 1) hst hw1 (by decide) (show (if isDL F then (0 : Int) else 1) = 1 from if_neg hd) hB hT hd2) rfl (gwV mw_109 mw_106 mw_107 mw_108 mw_2) rfl (by decide +kernel) 0 hw1.at0 rfl rfl rfl Sb.w rfl rfl dL_isStep_8 (fun r w2 hp8 => ?_)
      obtain ⟨rfl, hw2⟩ := hp8
      refine V.wld (List.append_nil _) ?_
      show V X 2 12 11 [(1, vI (F 0 1)), (0, .ref (A 0))] [vI 1] (w2)
      refine v_iconst C dL_isStep_11 ?_
      refine v_icmp_ne (tgt := 19) C dL_isStep_12 (by decide) (by decide) (by decide) (fun c => absurd (by decide) c) (fun _ => ?_)
      refine v_iconst C dL_isStep_15 ?_
      refine v_goto (tgt := 20) C dL_isStep_16 (by decide) ?_
      refine v_istore_n C M dL_isStep_20 rfl (by decide) (L' := [(2, vI 1), (1, vI (F 0 1)), (0, .ref (A 0))]) rfl ?_
      refine v_aload_n C dL_isStep_21 rfl 2 rfl ?_
      refine v_iconst C dL_isStep_22 ?_
      refine v_callV (na := 1) (wy := (Cond.code yX7_next cX7_next 2 (some .int) :: wsL_law)) (wc := w2) (wr := []) C [vI 5] [] (k_next (q := 5) (v := 1) hst hw2 (by decide) (show (if tlL (K 2) (F 5 0) then (1 : Int) else 0) = 1 from if_pos hl) hB hT hd2) rfl (gwV mw_109 mw_106 mw_107 mw_108 mw_2) rfl (by decide +kernel) 0 hw2.at0 rfl rfl rfl Sb.w rfl rfl dL_isStep_23 (fun r w3 hp23 => ?_)
      obtain ⟨rfl, hw3⟩ := hp23
      refine V.wld (List.append_nil _) ?_
      show V X 3 18 26 [(2, vI 1), (1, vI (F 0 1)), (0, .ref (A 0))] [vI 1] (w3)
      refine v_iconst C dL_isStep_26 ?_
      refine v_icmp_ne (tgt := 34) C dL_isStep_27 (by decide) (by decide) (by decide) (fun c => absurd (by decide) c) (fun _ => ?_)
      refine v_iconst C dL_isStep_30 ?_
      refine v_goto (tgt := 35) C dL_isStep_31 (by decide) ?_
      refine v_istore_n C M dL_isStep_35 rfl (by decide) (L' := [(3, vI 1), (2, vI 1), (1, vI (F 0 1)), (0, .ref (A 0))]) rfl ?_
      refine v_aload_n C dL_isStep_36 rfl 3 rfl ?_
      refine v_iconst C dL_isStep_37 ?_
      refine v_callV (na := 1) (wy := (Cond.code yX7_next cX7_next 2 (some .int) :: wsL_law)) (wc := w3) (wr := []) C [vI 3] [] (k_next (q := 3) (v := (nxC K F 3)) hst hw3 (by decide) rfl hB hT hd2) rfl (gwV mw_109 mw_106 mw_107 mw_108 mw_2) rfl (by decide +kernel) 0 hw3.at0 rfl rfl rfl Sb.w rfl rfl dL_isStep_38 (fun r w4 hp38 => ?_)
      obtain ⟨rfl, hw4⟩ := hp38
      refine V.wld (List.append_nil _) ?_
      show V X 4 24 41 [(3, vI 1), (2, vI 1), (1, vI (F 0 1)), (0, .ref (A 0))] [vI (nxC K F 3)] (w4)
      refine v_istore C M dL_isStep_41 (by decide) (L' := [(4, vI (nxC K F 3)), (3, vI 1), (2, vI 1), (1, vI (F 0 1)), (0, .ref (A 0))]) rfl ?_
      refine v_aload_n C dL_isStep_43 rfl 4 rfl ?_
      refine v_iconst C dL_isStep_44 ?_
      refine v_callV (na := 1) (wy := (Cond.code yX7_next cX7_next 2 (some .int) :: wsL_law)) (wc := w4) (wr := []) C [vI 4] [] (k_next (q := 4) (v := (F 5 0)) hst hw4 (by decide) rfl hB hT hd2) rfl (gwV mw_109 mw_106 mw_107 mw_108 mw_2) rfl (by decide +kernel) 0 hw4.at0 rfl rfl rfl Sb.w rfl rfl dL_isStep_45 (fun r w5 hp45 => ?_)
      obtain ⟨rfl, hw5⟩ := hp45
      refine V.wld (List.append_nil _) ?_
      show V X 5 30 48 [(4, vI (nxC K F 3)), (3, vI 1), (2, vI 1), (1, vI (F 0 1)), (0, .ref (A 0))] [vI (F 5 0)] (w5)
      refine v_istore C M dL_isStep_48 (by decide) (L' := [(5, vI (F 5 0)), (4, vI (nxC K F 3)), (3, vI 1), (2, vI 1), (1, vI (F 0 1)), (0, .ref (A 0))]) rfl ?_
      refine v_aload_n C dL_isStep_50 rfl 5 rfl ?_
      refine v_iconst C dL_isStep_51 ?_
      refine v_callV (na := 1) (wy := (Cond.code yX7_size cX7_size 2 (some .int) :: wsL_law)) (wc := w5) (wr := []) C [vI 2] [] (k_size (q := 2) (v := (tmL F)) hst hw5 (by decide) (fun _ => rfl)) rfl (gwV mw_99 mw_96 mw_97 mw_98 mw_2) rfl (by decide +kernel) 0 hw5.at0 rfl rfl rfl Sb.w rfl rfl dL_isStep_52 (fun r w6 hp52 => ?_)
      obtain ⟨rfl, hw6⟩ := hp52
      refine V.wld (List.append_nil _) ?_
      show V X 6 36 55 [(5, vI (F 5 0)), (4, vI (nxC K F 3)), (3, vI 1), (2, vI 1), (1, vI (F 0 1)), (0, .ref (A 0))] [vI (tmL F)] (w6)
      refine v_istore C M dL_isStep_55 (by decide) (L' := [(6, vI (tmL F)), (5, vI (F 5 0)), (4, vI (nxC K F 3)), (3, vI 1), (2, vI 1), (1, vI (F 0 1)), (0, .ref (A 0))]) rfl ?_
      refine v_aload_n C dL_isStep_57 rfl 6 rfl ?_
      refine v_iload_n C dL_isStep_58 rfl 5 rfl ?_
      refine v_bipush C dL_isStep_59 (by decide +kernel) ?_
      refine v_callV (na := 2) (wy := (Cond.code yX7_station cX7_station 3 (some .int) :: wsL_law)) (wc := w6) (wr := []) C [vI (F 0 1), vI 9] [] (k_station (s := (F 0 1)) (q := 9) hst hw6 hT2 (by decide)) rfl (gwV mw_571 mw_568 mw_569 mw_570 mw_2) rfl (by decide +kernel) 0 hw6.at0 rfl rfl rfl Sb.w rfl rfl dL_isStep_61 (fun r w7 hp61 => ?_)
      obtain ⟨rfl, hw7⟩ := hp61
      refine V.wld (List.append_nil _) ?_
      show V X 8 48 64 [(6, vI (tmL F)), (5, vI (F 5 0)), (4, vI (nxC K F 3)), (3, vI 1), (2, vI 1), (1, vI (F 0 1)), (0, .ref (A 0))] [vI (F (1 + (F 0 1)) 9)] (w7)
      refine v_istore C M dL_isStep_64 (by decide) (L' := [(7, vI (F (1 + (F 0 1)) 9)), (6, vI (tmL F)), (5, vI (F 5 0)), (4, vI (nxC K F 3)), (3, vI 1), (2, vI 1), (1, vI (F 0 1)), (0, .ref (A 0))]) rfl ?_
      refine v_aload_n C dL_isStep_66 rfl 7 rfl ?_
      refine v_iload_n C dL_isStep_67 rfl 6 rfl ?_
      refine v_bipush C dL_isStep_68 (by decide +kernel) ?_
      refine v_callV (na := 2) (wy := (Cond.code yX7_station cX7_station 3 (some .int) :: wsL_law)) (wc := w7) (wr := []) C [vI (F 0 1), vI 8] [] (k_station (s := (F 0 1)) (q := 8) hst hw7 hT2 (by decide)) rfl (gwV mw_571 mw_568 mw_569 mw_570 mw_2) rfl (by decide +kernel) 0 hw7.at0 rfl rfl rfl Sb.w rfl rfl dL_isStep_70 (fun r w8 hp70 => ?_)
      obtain ⟨rfl, hw8⟩ := hp70
      refine V.wld (List.append_nil _) ?_
      show V X 10 60 73 [(7, vI (F (1 + (F 0 1)) 9)), (6, vI (tmL F)), (5, vI (F 5 0)), (4, vI (nxC K F 3)), (3, vI 1), (2, vI 1), (1, vI (F 0 1)), (0, .ref (A 0))] [vI (F (1 + (F 0 1)) 8)] (w8)
      refine v_istore C M dL_isStep_73 (by decide) (L' := [(8, vI (F (1 + (F 0 1)) 8)), (7, vI (F (1 + (F 0 1)) 9)), (6, vI (tmL F)), (5, vI (F 5 0)), (4, vI (nxC K F 3)), (3, vI 1), (2, vI 1), (1, vI (F 0 1)), (0, .ref (A 0))]) rfl ?_
      refine v_iload_n C dL_isStep_75 rfl 5 rfl ?_
      refine v_aload_n C dL_isStep_76 rfl 8 rfl ?_
      refine v_iload C dL_isStep_77 3 rfl ?_
      refine v_callV (na := 1) (wy := (Cond.code yX7_isTold cX7_isTold 2 (some .boolean) :: wsL_law)) (wc := w8) (wr := []) C [vI (F 5 0)] [vI 1] (k_isTold (v := 1) hst hw8 (by have := hB 5 0; exact ⟨by omega, by omega⟩) (bI_t hl)) rfl (gwV mw_594 mw_591 mw_592 mw_593 mw_2) rfl (by decide +kernel) 0 hw8.at0 rfl rfl rfl Sb.w rfl rfl dL_isStep_79 (fun r w9 hp79 => ?_)
      obtain ⟨rfl, hw9⟩ := hp79
      refine V.wld (List.append_nil _) ?_
      show V X 10 60 82 [(8, vI (F (1 + (F 0 1)) 8)), (7, vI (F (1 + (F 0 1)) 9)), (6, vI (tmL F)), (5, vI (F 5 0)), (4, vI (nxC K F 3)), (3, vI 1), (2, vI 1), (1, vI (F 0 1)), (0, .ref (A 0))] [vI 1, vI 1] (w9)
      refine v_icmp_eq (tgt := 87) C dL_isStep_82 (by decide) (by decide) (by decide) (fun _ => ?_) (fun c => absurd (by decide) c)
      refine v_iload C dL_isStep_87 2 rfl ?_
      refine v_iload C dL_isStep_89 4 rfl ?_
      refine v_iadd C dL_isStep_91 ?_
      refine v_iload_n C dL_isStep_92 rfl 6 rfl ?_
      refine v_if_eq (tgt := 108) C dL_isStep_93 (by decide) (by decide) (fun c => absurd c (by decide)) (fun _ => ?_)
      refine v_iload_n C dL_isStep_96 rfl 5 rfl ?_
      refine v_if_eq (tgt := 108) C dL_isStep_97 (by decide) (by decide) (fun c => absurd c (by decide)) (fun _ => ?_)
      refine v_aload_n C dL_isStep_100 rfl 8 rfl ?_
      refine v_iconst C dL_isStep_101 ?_
      refine v_callV (na := 1) (wy := (Cond.code yX7_size cX7_size 2 (some .int) :: wsL_law)) (wc := w9) (wr := []) C [vI 1] [vI ((tmL F) + (nxC K F 3))] (k_size (q := 1) (v := (F 0 5)) hst hw9 (by decide) (fun _ => rfl)) rfl (gwV mw_99 mw_96 mw_97 mw_98 mw_2) rfl (by decide +kernel) 0 hw9.at0 rfl rfl rfl Sb.w rfl rfl dL_isStep_102 (fun r w10 hp102 => ?_)
      obtain ⟨rfl, hw10⟩ := hp102
      refine V.wld (List.append_nil _) ?_
      show V X 11 66 105 [(8, vI (F (1 + (F 0 1)) 8)), (7, vI (F (1 + (F 0 1)) 9)), (6, vI (tmL F)), (5, vI (F 5 0)), (4, vI (nxC K F 3)), (3, vI 1), (2, vI 1), (1, vI (F 0 1)), (0, .ref (A 0))] [vI (F 0 5), vI ((tmL F) + (nxC K F 3))] (w10)
      refine v_goto (tgt := 109) C dL_isStep_105 (by decide) ?_
      refine v_iadd C dL_isStep_109 ?_
      refine v_istore C M dL_isStep_110 (by decide) (L' := [(9, vI (((tmL F) + (nxC K F 3)) + (F 0 5))), (8, vI (F (1 + (F 0 1)) 8)), (7, vI (F (1 + (F 0 1)) 9)), (6, vI (tmL F)), (5, vI (F 5 0)), (4, vI (nxC K F 3)), (3, vI 1), (2, vI 1), (1, vI (F 0 1)), (0, .ref (A 0))]) rfl ?_
      refine v_aload_n C dL_isStep_112 rfl 9 rfl ?_
      refine v_iconst C dL_isStep_113 ?_
      refine v_callV (na := 1) (wy := (Cond.code yX7_run cX7_run 3 (some .int) :: wsL_law)) (wc := w10) (wr := []) C [vI 1] [] (k_run (F2 := F2) hst hw10 (by omega) (IN_okl hI (by omega)) hB hz h2) rfl (gwV mw_598 mw_595 mw_596 mw_597 mw_2) rfl (by decide +kernel) 0 hw10.at0 rfl rfl rfl Sb.w rfl rfl dL_isStep_114 (fun r w11 hp114 => ?_)
      obtain ⟨rfl, hw11⟩ := hp114
      refine V.wld (List.append_nil _) ?_
      show V X 13 78 117 [(9, vI (((tmL F) + (nxC K F 3)) + (F 0 5))), (8, vI (F (1 + (F 0 1)) 8)), (7, vI (F (1 + (F 0 1)) 9)), (6, vI (tmL F)), (5, vI (F 5 0)), (4, vI (nxC K F 3)), (3, vI 1), (2, vI 1), (1, vI (F 0 1)), (0, .ref (A 0))] [vI (tmL F2)] (w11)
      refine v_iload C dL_isStep_117 0 rfl ?_
      refine v_icmp_ne (tgt := 134) C dL_isStep_119 (by decide) (by  first | assumption | exact ⟨by omega, by omega⟩) (by have := hB 0 5; first | assumption | exact ⟨by omega, by omega⟩) (fun c => absurd (by omega) c) (fun _ => ?_)
      refine v_aload_n C dL_isStep_122 rfl 9 rfl ?_
      refine v_iconst C dL_isStep_123 ?_
      refine v_callV (na := 1) (wy := (Cond.code yX7_account cX7_account 2 (some .int) :: wsL_law)) (wc := w11) (wr := []) C [vI 0] [] (k_account (q := 0) hst hw11 (by decide)) rfl (gwV mw_642 mw_639 mw_640 mw_641 mw_2) rfl (by decide +kernel) 0 hw11.at0 rfl rfl rfl Sb.w rfl rfl dL_isStep_124 (fun r w12 hp124 => ?_)
      obtain ⟨rfl, hw12⟩ := hp124
      refine V.wld (List.append_nil _) ?_
      show V X 14 84 127 [(9, vI (((tmL F) + (nxC K F 3)) + (F 0 5))), (8, vI (F (1 + (F 0 1)) 8)), (7, vI (F (1 + (F 0 1)) 9)), (6, vI (tmL F)), (5, vI (F 5 0)), (4, vI (nxC K F 3)), (3, vI 1), (2, vI 1), (1, vI (F 0 1)), (0, .ref (A 0))] [vI (F2 5 0)] (w12)
      refine v_iload C dL_isStep_127 4 rfl ?_
      refine v_iconst C dL_isStep_129 ?_
      refine v_iadd C dL_isStep_130 ?_
      refine v_icmp_eq (tgt := 136) C dL_isStep_131 (by decide) (by have := hB2 5 0; first | assumption | exact ⟨by omega, by omega⟩) (by have := hB 5 0; first | assumption | exact ⟨by omega, by omega⟩) (fun _ => ?_) (fun c => absurd (by omega) c)
      refine v_iload_n C dL_isStep_136 rfl 7 rfl ?_
      refine v_if_eq (tgt := 148) C dL_isStep_137 (by decide) (by decide) (fun c => absurd c (by decide)) (fun _ => ?_)
      refine v_iload_n C dL_isStep_140 rfl 6 rfl ?_
      refine v_if_ne (tgt := 148) C dL_isStep_141 (by decide) (by decide) (fun _ => ?_) (fun c => absurd c (by decide))
      refine v_iconst C dL_isStep_148 ?_
      refine v_istore C M dL_isStep_149 (by decide) (L' := [(10, vI 0), (9, vI (((tmL F) + (nxC K F 3)) + (F 0 5))), (8, vI (F (1 + (F 0 1)) 8)), (7, vI (F (1 + (F 0 1)) 9)), (6, vI (tmL F)), (5, vI (F 5 0)), (4, vI (nxC K F 3)), (3, vI 1), (2, vI 1), (1, vI (F 0 1)), (0, .ref (A 0))]) rfl ?_
      refine v_aload_n C dL_isStep_151 rfl 10 rfl ?_
      refine v_iconst C dL_isStep_152 ?_
      refine v_callV (na := 1) (wy := (Cond.code yX7_size cX7_size 2 (some .int) :: wsL_law)) (wc := w12) (wr := []) C [vI 3] [] (k_size (q := 3) (v := (F2 0 1)) hst hw12 (by decide) (fun _ => rfl)) rfl (gwV mw_99 mw_96 mw_97 mw_98 mw_2) rfl (by decide +kernel) 0 hw12.at0 rfl rfl rfl Sb.w rfl rfl dL_isStep_153 (fun r w13 hp153 => ?_)
      obtain ⟨rfl, hw13⟩ := hp153
      refine V.wld (List.append_nil _) ?_
      show V X 15 90 156 [(10, vI 0), (9, vI (((tmL F) + (nxC K F 3)) + (F 0 5))), (8, vI (F (1 + (F 0 1)) 8)), (7, vI (F (1 + (F 0 1)) 9)), (6, vI (tmL F)), (5, vI (F 5 0)), (4, vI (nxC K F 3)), (3, vI 1), (2, vI 1), (1, vI (F 0 1)), (0, .ref (A 0))] [vI (F2 0 1)] (w13)
      refine v_iload C dL_isStep_156 0 rfl ?_
      refine v_if_eq (tgt := 167) C dL_isStep_158 (by decide) (by decide) (fun _ => ?_) (fun c => absurd (by decide) c)
      refine v_iload_n C dL_isStep_167 rfl 9 rfl ?_
      refine v_icmp_ne (tgt := 194) C dL_isStep_168 (by decide) (by have := hB2 0 1; first | assumption | exact ⟨by omega, by omega⟩) (by have := hB 0 1; first | assumption | exact ⟨by omega, by omega⟩) (fun c => absurd (by omega) c) (fun _ => ?_)
      refine v_aload_n C dL_isStep_171 rfl 10 rfl ?_
      refine v_iload_n C dL_isStep_172 rfl 9 rfl ?_
      refine v_bipush C dL_isStep_173 (by decide +kernel) ?_
      refine v_callV (na := 2) (wy := (Cond.code yX7_station cX7_station 3 (some .int) :: wsL_law)) (wc := w13) (wr := []) C [vI (F 0 1), vI 9] [] (k_station (s := (F 0 1)) (q := 9) hst hw13 hT2 (by decide)) rfl (gwV mw_571 mw_568 mw_569 mw_570 mw_2) rfl (by decide +kernel) 0 hw13.at0 rfl rfl rfl Sb.w rfl rfl dL_isStep_175 (fun r w14 hp175 => ?_)
      obtain ⟨rfl, hw14⟩ := hp175
      refine V.wld (List.append_nil _) ?_
      show V X 17 102 178 [(10, vI 0), (9, vI (((tmL F) + (nxC K F 3)) + (F 0 5))), (8, vI (F (1 + (F 0 1)) 8)), (7, vI (F (1 + (F 0 1)) 9)), (6, vI (tmL F)), (5, vI (F 5 0)), (4, vI (nxC K F 3)), (3, vI 1), (2, vI 1), (1, vI (F 0 1)), (0, .ref (A 0))] [vI (F2 (1 + (F 0 1)) 9)] (w14)
      refine v_iload C dL_isStep_178 3 rfl ?_
      refine v_iload C dL_isStep_180 0 rfl ?_
      refine v_if_eq (tgt := 189) C dL_isStep_182 (by decide) (by decide) (fun _ => ?_) (fun c => absurd (by decide) c)
      refine v_iconst C dL_isStep_189 ?_
      refine v_iadd C dL_isStep_190 ?_
      refine v_icmp_eq (tgt := 196) C dL_isStep_191 (by decide) (by have := hB2 (1 + (F 0 1)) 9; first | assumption | exact ⟨by omega, by omega⟩) (by have := hB (1 + (F 0 1)) 9; first | assumption | exact ⟨by omega, by omega⟩) (fun _ => ?_) (fun c => absurd (by omega) c)
      refine v_iload_n C dL_isStep_196 rfl 8 rfl ?_
      refine v_if_eq (tgt := 220) C dL_isStep_197 (by decide) (by decide) (fun c => absurd c (by decide)) (fun _ => ?_)
      refine v_aload_n C dL_isStep_200 rfl 10 rfl ?_
      refine v_iload_n C dL_isStep_201 rfl 9 rfl ?_
      refine v_bipush C dL_isStep_202 (by decide +kernel) ?_
      refine v_callV (na := 2) (wy := (Cond.code yX7_station cX7_station 3 (some .int) :: wsL_law)) (wc := w14) (wr := []) C [vI (F 0 1), vI 8] [] (k_station (s := (F 0 1)) (q := 8) hst hw14 hT2 (by decide)) rfl (gwV mw_571 mw_568 mw_569 mw_570 mw_2) rfl (by decide +kernel) 0 hw14.at0 rfl rfl rfl Sb.w rfl rfl dL_isStep_204 (fun r w15 hp204 => ?_)
      obtain ⟨rfl, hw15⟩ := hp204
      refine V.wld (List.append_nil _) ?_
      show V X 19 114 207 [(10, vI 0), (9, vI (((tmL F) + (nxC K F 3)) + (F 0 5))), (8, vI (F (1 + (F 0 1)) 8)), (7, vI (F (1 + (F 0 1)) 9)), (6, vI (tmL F)), (5, vI (F 5 0)), (4, vI (nxC K F 3)), (3, vI 1), (2, vI 1), (1, vI (F 0 1)), (0, .ref (A 0))] [vI (F2 (1 + (F 0 1)) 8)] (w15)
      refine v_iload C dL_isStep_207 2 rfl ?_
      refine v_icmp_ne (tgt := 216) C dL_isStep_209 (by decide) (by have := hB2 (1 + (F 0 1)) 8; first | assumption | exact ⟨by omega, by omega⟩) (by have := hB (1 + (F 0 1)) 8; first | assumption | exact ⟨by omega, by omega⟩) (fun c => absurd (by omega) c) (fun _ => ?_)
      refine v_iconst C dL_isStep_212 ?_
      refine v_goto (tgt := 246) C dL_isStep_213 (by decide) ?_
      refine V.wid (k' := 60) (n' := 400) (by decide) (by decide) ?_
      exact v_zret C E rfl rfl dL_isStep_246 (by decide) (by decide) ⟨rfl, hw15⟩
    · skip
      obtain ⟨g1, g2, g3, g4⟩ := ft hd hl
      refine v_aload_n C dL_isStep_0 rfl 0 rfl ?_
      refine v_iconst C dL_isStep_1 ?_
      refine v_callV (na := 1) (wy := (Cond.code yX7_size cX7_size 2 (some .int) :: wsL_law)) (wc := w) (wr := []) C [vI 3] [] (k_size (q := 3) (v := (F 0 1)) hst hw (by decide) (fun _ => rfl)) rfl (gwV mw_99 mw_96 mw_97 mw_98 mw_2) rfl (by decide +kernel) 0 hw.at0 rfl rfl rfl Sb.w rfl rfl dL_isStep_2 (fun r w1 hp2 => ?_)
      obtain ⟨rfl, hw1⟩ := hp2
      refine V.wld (List.append_nil _) ?_
      show V X 1 6 5 [(0, .ref (A 0))] [vI (F 0 1)] (w1)
      refine v_istore_n C M dL_isStep_5 rfl (by decide) (L' := [(1, vI (F 0 1)), (0, .ref (A 0))]) rfl ?_
      refine v_aload_n C dL_isStep_6 rfl 1 rfl ?_
      refine v_iconst C dL_isStep_7 ?_
      refine v_callV (na := 1) (wy := (Cond.code yX7_next cX7_next 2 (some .int) :: wsL_law)) (wc := w1) (wr := []) C [vI 0] [] (k_next (q := 0) (v := 1) hst hw1 (by decide) (show (if isDL F then (0 : Int) else 1) = 1 from if_neg hd) hB hT hd2) rfl (gwV mw_109 mw_106 mw_107 mw_108 mw_2) rfl (by decide +kernel) 0 hw1.at0 rfl rfl rfl Sb.w rfl rfl dL_isStep_8 (fun r w2 hp8 => ?_)
      obtain ⟨rfl, hw2⟩ := hp8
      refine V.wld (List.append_nil _) ?_
      show V X 2 12 11 [(1, vI (F 0 1)), (0, .ref (A 0))] [vI 1] (w2)
      refine v_iconst C dL_isStep_11 ?_
      refine v_icmp_ne (tgt := 19) C dL_isStep_12 (by decide) (by decide) (by decide) (fun c => absurd (by decide) c) (fun _ => ?_)
      refine v_iconst C dL_isStep_15 ?_
      refine v_goto (tgt := 20) C dL_isStep_16 (by decide) ?_
      refine v_istore_n C M dL_isStep_20 rfl (by decide) (L' := [(2, vI 1), (1, vI (F 0 1)), (0, .ref (A 0))]) rfl ?_
      refine v_aload_n C dL_isStep_21 rfl 2 rfl ?_
      refine v_iconst C dL_isStep_22 ?_
      refine v_callV (na := 1) (wy := (Cond.code yX7_next cX7_next 2 (some .int) :: wsL_law)) (wc := w2) (wr := []) C [vI 5] [] (k_next (q := 5) (v := 0) hst hw2 (by decide) (show (if tlL (K 2) (F 5 0) then (1 : Int) else 0) = 0 from if_neg hl) hB hT hd2) rfl (gwV mw_109 mw_106 mw_107 mw_108 mw_2) rfl (by decide +kernel) 0 hw2.at0 rfl rfl rfl Sb.w rfl rfl dL_isStep_23 (fun r w3 hp23 => ?_)
      obtain ⟨rfl, hw3⟩ := hp23
      refine V.wld (List.append_nil _) ?_
      show V X 3 18 26 [(2, vI 1), (1, vI (F 0 1)), (0, .ref (A 0))] [vI 0] (w3)
      refine v_iconst C dL_isStep_26 ?_
      refine v_icmp_ne (tgt := 34) C dL_isStep_27 (by decide) (by decide) (by decide) (fun _ => ?_) (fun c => absurd c (by decide))
      refine v_iconst C dL_isStep_34 ?_
      refine v_istore_n C M dL_isStep_35 rfl (by decide) (L' := [(3, vI 0), (2, vI 1), (1, vI (F 0 1)), (0, .ref (A 0))]) rfl ?_
      refine v_aload_n C dL_isStep_36 rfl 3 rfl ?_
      refine v_iconst C dL_isStep_37 ?_
      refine v_callV (na := 1) (wy := (Cond.code yX7_next cX7_next 2 (some .int) :: wsL_law)) (wc := w3) (wr := []) C [vI 3] [] (k_next (q := 3) (v := (nxC K F 3)) hst hw3 (by decide) rfl hB hT hd2) rfl (gwV mw_109 mw_106 mw_107 mw_108 mw_2) rfl (by decide +kernel) 0 hw3.at0 rfl rfl rfl Sb.w rfl rfl dL_isStep_38 (fun r w4 hp38 => ?_)
      obtain ⟨rfl, hw4⟩ := hp38
      refine V.wld (List.append_nil _) ?_
      show V X 4 24 41 [(3, vI 0), (2, vI 1), (1, vI (F 0 1)), (0, .ref (A 0))] [vI (nxC K F 3)] (w4)
      refine v_istore C M dL_isStep_41 (by decide) (L' := [(4, vI (nxC K F 3)), (3, vI 0), (2, vI 1), (1, vI (F 0 1)), (0, .ref (A 0))]) rfl ?_
      refine v_aload_n C dL_isStep_43 rfl 4 rfl ?_
      refine v_iconst C dL_isStep_44 ?_
      refine v_callV (na := 1) (wy := (Cond.code yX7_next cX7_next 2 (some .int) :: wsL_law)) (wc := w4) (wr := []) C [vI 4] [] (k_next (q := 4) (v := (F 5 0)) hst hw4 (by decide) rfl hB hT hd2) rfl (gwV mw_109 mw_106 mw_107 mw_108 mw_2) rfl (by decide +kernel) 0 hw4.at0 rfl rfl rfl Sb.w rfl rfl dL_isStep_45 (fun r w5 hp45 => ?_)
      obtain ⟨rfl, hw5⟩ := hp45
      refine V.wld (List.append_nil _) ?_
      show V X 5 30 48 [(4, vI (nxC K F 3)), (3, vI 0), (2, vI 1), (1, vI (F 0 1)), (0, .ref (A 0))] [vI (F 5 0)] (w5)
      refine v_istore C M dL_isStep_48 (by decide) (L' := [(5, vI (F 5 0)), (4, vI (nxC K F 3)), (3, vI 0), (2, vI 1), (1, vI (F 0 1)), (0, .ref (A 0))]) rfl ?_
      refine v_aload_n C dL_isStep_50 rfl 5 rfl ?_
      refine v_iconst C dL_isStep_51 ?_
      refine v_callV (na := 1) (wy := (Cond.code yX7_size cX7_size 2 (some .int) :: wsL_law)) (wc := w5) (wr := []) C [vI 2] [] (k_size (q := 2) (v := (tmL F)) hst hw5 (by decide) (fun _ => rfl)) rfl (gwV mw_99 mw_96 mw_97 mw_98 mw_2) rfl (by decide +kernel) 0 hw5.at0 rfl rfl rfl Sb.w rfl rfl dL_isStep_52 (fun r w6 hp52 => ?_)
      obtain ⟨rfl, hw6⟩ := hp52
      refine V.wld (List.append_nil _) ?_
      show V X 6 36 55 [(5, vI (F 5 0)), (4, vI (nxC K F 3)), (3, vI 0), (2, vI 1), (1, vI (F 0 1)), (0, .ref (A 0))] [vI (tmL F)] (w6)
      refine v_istore C M dL_isStep_55 (by decide) (L' := [(6, vI (tmL F)), (5, vI (F 5 0)), (4, vI (nxC K F 3)), (3, vI 0), (2, vI 1), (1, vI (F 0 1)), (0, .ref (A 0))]) rfl ?_
      refine v_aload_n C dL_isStep_57 rfl 6 rfl ?_
      refine v_iload_n C dL_isStep_58 rfl 5 rfl ?_
      refine v_bipush C dL_isStep_59 (by decide +kernel) ?_
      refine v_callV (na := 2) (wy := (Cond.code yX7_station cX7_station 3 (some .int) :: wsL_law)) (wc := w6) (wr := []) C [vI (F 0 1), vI 9] [] (k_station (s := (F 0 1)) (q := 9) hst hw6 hT2 (by decide)) rfl (gwV mw_571 mw_568 mw_569 mw_570 mw_2) rfl (by decide +kernel) 0 hw6.at0 rfl rfl rfl Sb.w rfl rfl dL_isStep_61 (fun r w7 hp61 => ?_)
      obtain ⟨rfl, hw7⟩ := hp61
      refine V.wld (List.append_nil _) ?_
      show V X 8 48 64 [(6, vI (tmL F)), (5, vI (F 5 0)), (4, vI (nxC K F 3)), (3, vI 0), (2, vI 1), (1, vI (F 0 1)), (0, .ref (A 0))] [vI (F (1 + (F 0 1)) 9)] (w7)
      refine v_istore C M dL_isStep_64 (by decide) (L' := [(7, vI (F (1 + (F 0 1)) 9)), (6, vI (tmL F)), (5, vI (F 5 0)), (4, vI (nxC K F 3)), (3, vI 0), (2, vI 1), (1, vI (F 0 1)), (0, .ref (A 0))]) rfl ?_
      refine v_aload_n C dL_isStep_66 rfl 7 rfl ?_
      refine v_iload_n C dL_isStep_67 rfl 6 rfl ?_
      refine v_bipush C dL_isStep_68 (by decide +kernel) ?_
      refine v_callV (na := 2) (wy := (Cond.code yX7_station cX7_station 3 (some .int) :: wsL_law)) (wc := w7) (wr := []) C [vI (F 0 1), vI 8] [] (k_station (s := (F 0 1)) (q := 8) hst hw7 hT2 (by decide)) rfl (gwV mw_571 mw_568 mw_569 mw_570 mw_2) rfl (by decide +kernel) 0 hw7.at0 rfl rfl rfl Sb.w rfl rfl dL_isStep_70 (fun r w8 hp70 => ?_)
      obtain ⟨rfl, hw8⟩ := hp70
      refine V.wld (List.append_nil _) ?_
      show V X 10 60 73 [(7, vI (F (1 + (F 0 1)) 9)), (6, vI (tmL F)), (5, vI (F 5 0)), (4, vI (nxC K F 3)), (3, vI 0), (2, vI 1), (1, vI (F 0 1)), (0, .ref (A 0))] [vI (F (1 + (F 0 1)) 8)] (w8)
      refine v_istore C M dL_isStep_73 (by decide) (L' := [(8, vI (F (1 + (F 0 1)) 8)), (7, vI (F (1 + (F 0 1)) 9)), (6, vI (tmL F)), (5, vI (F 5 0)), (4, vI (nxC K F 3)), (3, vI 0), (2, vI 1), (1, vI (F 0 1)), (0, .ref (A 0))]) rfl ?_
      refine v_iload_n C dL_isStep_75 rfl 5 rfl ?_
      refine v_aload_n C dL_isStep_76 rfl 8 rfl ?_
      refine v_iload C dL_isStep_77 3 rfl ?_
      refine v_callV (na := 1) (wy := (Cond.code yX7_isTold cX7_isTold 2 (some .boolean) :: wsL_law)) (wc := w8) (wr := []) C [vI (F 5 0)] [vI 0] (k_isTold (v := 0) hst hw8 (by have := hB 5 0; exact ⟨by omega, by omega⟩) (bI_f hl)) rfl (gwV mw_594 mw_591 mw_592 mw_593 mw_2) rfl (by decide +kernel) 0 hw8.at0 rfl rfl rfl Sb.w rfl rfl dL_isStep_79 (fun r w9 hp79 => ?_)
      obtain ⟨rfl, hw9⟩ := hp79
      refine V.wld (List.append_nil _) ?_
      show V X 10 60 82 [(8, vI (F (1 + (F 0 1)) 8)), (7, vI (F (1 + (F 0 1)) 9)), (6, vI (tmL F)), (5, vI (F 5 0)), (4, vI (nxC K F 3)), (3, vI 0), (2, vI 1), (1, vI (F 0 1)), (0, .ref (A 0))] [vI 0, vI 0] (w9)
      refine v_icmp_eq (tgt := 87) C dL_isStep_82 (by decide) (by decide) (by decide) (fun _ => ?_) (fun c => absurd (by decide) c)
      refine v_iload C dL_isStep_87 2 rfl ?_
      refine v_iload C dL_isStep_89 4 rfl ?_
      refine v_iadd C dL_isStep_91 ?_
      refine v_iload_n C dL_isStep_92 rfl 6 rfl ?_
      refine v_if_eq (tgt := 108) C dL_isStep_93 (by decide) (by decide) (fun c => absurd c (by decide)) (fun _ => ?_)
      refine v_iload_n C dL_isStep_96 rfl 5 rfl ?_
      refine v_if_eq (tgt := 108) C dL_isStep_97 (by decide) (by decide) (fun _ => ?_) (fun c => absurd (by decide) c)
      refine v_iconst C dL_isStep_108 ?_
      refine v_iadd C dL_isStep_109 ?_
      refine v_istore C M dL_isStep_110 (by decide) (L' := [(9, vI (((tmL F) + (nxC K F 3)) + 0)), (8, vI (F (1 + (F 0 1)) 8)), (7, vI (F (1 + (F 0 1)) 9)), (6, vI (tmL F)), (5, vI (F 5 0)), (4, vI (nxC K F 3)), (3, vI 0), (2, vI 1), (1, vI (F 0 1)), (0, .ref (A 0))]) rfl ?_
      refine v_aload_n C dL_isStep_112 rfl 9 rfl ?_
      refine v_iconst C dL_isStep_113 ?_
      refine v_callV (na := 1) (wy := (Cond.code yX7_run cX7_run 3 (some .int) :: wsL_law)) (wc := w9) (wr := []) C [vI 1] [] (k_run (F2 := F2) hst hw9 (by omega) (IN_okl hI (by omega)) hB hz h2) rfl (gwV mw_598 mw_595 mw_596 mw_597 mw_2) rfl (by decide +kernel) 0 hw9.at0 rfl rfl rfl Sb.w rfl rfl dL_isStep_114 (fun r w10 hp114 => ?_)
      obtain ⟨rfl, hw10⟩ := hp114
      refine V.wld (List.append_nil _) ?_
      show V X 12 72 117 [(9, vI (((tmL F) + (nxC K F 3)) + 0)), (8, vI (F (1 + (F 0 1)) 8)), (7, vI (F (1 + (F 0 1)) 9)), (6, vI (tmL F)), (5, vI (F 5 0)), (4, vI (nxC K F 3)), (3, vI 0), (2, vI 1), (1, vI (F 0 1)), (0, .ref (A 0))] [vI (tmL F2)] (w10)
      refine v_iload C dL_isStep_117 0 rfl ?_
      refine v_icmp_ne (tgt := 134) C dL_isStep_119 (by decide) (by  first | assumption | exact ⟨by omega, by omega⟩) (by  first | assumption | exact ⟨by omega, by omega⟩) (fun c => absurd (by omega) c) (fun _ => ?_)
      refine v_aload_n C dL_isStep_122 rfl 9 rfl ?_
      refine v_iconst C dL_isStep_123 ?_
      refine v_callV (na := 1) (wy := (Cond.code yX7_account cX7_account 2 (some .int) :: wsL_law)) (wc := w10) (wr := []) C [vI 0] [] (k_account (q := 0) hst hw10 (by decide)) rfl (gwV mw_642 mw_639 mw_640 mw_641 mw_2) rfl (by decide +kernel) 0 hw10.at0 rfl rfl rfl Sb.w rfl rfl dL_isStep_124 (fun r w11 hp124 => ?_)
      obtain ⟨rfl, hw11⟩ := hp124
      refine V.wld (List.append_nil _) ?_
      show V X 13 78 127 [(9, vI (((tmL F) + (nxC K F 3)) + 0)), (8, vI (F (1 + (F 0 1)) 8)), (7, vI (F (1 + (F 0 1)) 9)), (6, vI (tmL F)), (5, vI (F 5 0)), (4, vI (nxC K F 3)), (3, vI 0), (2, vI 1), (1, vI (F 0 1)), (0, .ref (A 0))] [vI (F2 5 0)] (w11)
      refine v_iload C dL_isStep_127 4 rfl ?_
      refine v_iconst C dL_isStep_129 ?_
      refine v_iadd C dL_isStep_130 ?_
      refine v_icmp_eq (tgt := 136) C dL_isStep_131 (by decide) (by have := hB2 5 0; first | assumption | exact ⟨by omega, by omega⟩) (by have := hB 5 0; first | assumption | exact ⟨by omega, by omega⟩) (fun _ => ?_) (fun c => absurd (by omega) c)
      refine v_iload_n C dL_isStep_136 rfl 7 rfl ?_
      refine v_if_eq (tgt := 148) C dL_isStep_137 (by decide) (by decide) (fun c => absurd c (by decide)) (fun _ => ?_)
      refine v_iload_n C dL_isStep_140 rfl 6 rfl ?_
      refine v_if_ne (tgt := 148) C dL_isStep_141 (by decide) (by decide) (fun c => absurd (by decide) c) (fun _ => ?_)
      refine v_iconst C dL_isStep_144 ?_
      refine v_goto (tgt := 149) C dL_isStep_145 (by decide) ?_
      refine v_istore C M dL_isStep_149 (by decide) (L' := [(10, vI 1), (9, vI (((tmL F) + (nxC K F 3)) + 0)), (8, vI (F (1 + (F 0 1)) 8)), (7, vI (F (1 + (F 0 1)) 9)), (6, vI (tmL F)), (5, vI (F 5 0)), (4, vI (nxC K F 3)), (3, vI 0), (2, vI 1), (1, vI (F 0 1)), (0, .ref (A 0))]) rfl ?_
      refine v_aload_n C dL_isStep_151 rfl 10 rfl ?_
      refine v_iconst C dL_isStep_152 ?_
      refine v_callV (na := 1) (wy := (Cond.code yX7_size cX7_size 2 (some .int) :: wsL_law)) (wc := w11) (wr := []) C [vI 3] [] (k_size (q := 3) (v := (F2 0 1)) hst hw11 (by decide) (fun _ => rfl)) rfl (gwV mw_99 mw_96 mw_97 mw_98 mw_2) rfl (by decide +kernel) 0 hw11.at0 rfl rfl rfl Sb.w rfl rfl dL_isStep_153 (fun r w12 hp153 => ?_)
      obtain ⟨rfl, hw12⟩ := hp153
      refine V.wld (List.append_nil _) ?_
      show V X 14 84 156 [(10, vI 1), (9, vI (((tmL F) + (nxC K F 3)) + 0)), (8, vI (F (1 + (F 0 1)) 8)), (7, vI (F (1 + (F 0 1)) 9)), (6, vI (tmL F)), (5, vI (F 5 0)), (4, vI (nxC K F 3)), (3, vI 0), (2, vI 1), (1, vI (F 0 1)), (0, .ref (A 0))] [vI (F2 0 1)] (w12)
      refine v_iload C dL_isStep_156 0 rfl ?_
      refine v_if_eq (tgt := 167) C dL_isStep_158 (by decide) (by decide) (fun c => absurd c (by decide)) (fun _ => ?_)
      refine v_iconst C dL_isStep_161 ?_
      refine v_iload_n C dL_isStep_162 rfl 9 rfl ?_
      refine v_isub C dL_isStep_163 ?_
      refine v_goto (tgt := 168) C dL_isStep_164 (by decide) ?_
      refine v_icmp_ne (tgt := 194) C dL_isStep_168 (by decide) (by have := hB2 0 1; first | assumption | exact ⟨by omega, by omega⟩) (by have := hB 0 1; first | assumption | exact ⟨by omega, by omega⟩) (fun c => absurd (by omega) c) (fun _ => ?_)
      refine v_aload_n C dL_isStep_171 rfl 10 rfl ?_
      refine v_iload_n C dL_isStep_172 rfl 9 rfl ?_
      refine v_bipush C dL_isStep_173 (by decide +kernel) ?_
      refine v_callV (na := 2) (wy := (Cond.code yX7_station cX7_station 3 (some .int) :: wsL_law)) (wc := w12) (wr := []) C [vI (F 0 1), vI 9] [] (k_station (s := (F 0 1)) (q := 9) hst hw12 hT2 (by decide)) rfl (gwV mw_571 mw_568 mw_569 mw_570 mw_2) rfl (by decide +kernel) 0 hw12.at0 rfl rfl rfl Sb.w rfl rfl dL_isStep_175 (fun r w13 hp175 => ?_)
      obtain ⟨rfl, hw13⟩ := hp175
      refine V.wld (List.append_nil _) ?_
      show V X 16 96 178 [(10, vI 1), (9, vI (((tmL F) + (nxC K F 3)) + 0)), (8, vI (F (1 + (F 0 1)) 8)), (7, vI (F (1 + (F 0 1)) 9)), (6, vI (tmL F)), (5, vI (F 5 0)), (4, vI (nxC K F 3)), (3, vI 0), (2, vI 1), (1, vI (F 0 1)), (0, .ref (A 0))] [vI (F2 (1 + (F 0 1)) 9)] (w13)
      refine v_iload C dL_isStep_178 3 rfl ?_
      refine v_iload C dL_isStep_180 0 rfl ?_
      refine v_if_eq (tgt := 189) C dL_isStep_182 (by decide) (by decide) (fun c => absurd c (by decide)) (fun _ => ?_)
      refine v_iconst C dL_isStep_185 ?_
      refine v_goto (tgt := 190) C dL_isStep_186 (by decide) ?_
      refine v_iadd C dL_isStep_190 ?_
      refine v_icmp_eq (tgt := 196) C dL_isStep_191 (by decide) (by have := hB2 (1 + (F 0 1)) 9; first | assumption | exact ⟨by omega, by omega⟩) (by have := hB (1 + (F 0 1)) 9; first | assumption | exact ⟨by omega, by omega⟩) (fun _ => ?_) (fun c => absurd (by omega) c)
      refine v_iload_n C dL_isStep_196 rfl 8 rfl ?_
      refine v_if_eq (tgt := 220) C dL_isStep_197 (by decide) (by decide) (fun c => absurd c (by decide)) (fun _ => ?_)
      refine v_aload_n C dL_isStep_200 rfl 10 rfl ?_
      refine v_iload_n C dL_isStep_201 rfl 9 rfl ?_
      refine v_bipush C dL_isStep_202 (by decide +kernel) ?_
      refine v_callV (na := 2) (wy := (Cond.code yX7_station cX7_station 3 (some .int) :: wsL_law)) (wc := w13) (wr := []) C [vI (F 0 1), vI 8] [] (k_station (s := (F 0 1)) (q := 8) hst hw13 hT2 (by decide)) rfl (gwV mw_571 mw_568 mw_569 mw_570 mw_2) rfl (by decide +kernel) 0 hw13.at0 rfl rfl rfl Sb.w rfl rfl dL_isStep_204 (fun r w14 hp204 => ?_)
      obtain ⟨rfl, hw14⟩ := hp204
      refine V.wld (List.append_nil _) ?_
      show V X 18 108 207 [(10, vI 1), (9, vI (((tmL F) + (nxC K F 3)) + 0)), (8, vI (F (1 + (F 0 1)) 8)), (7, vI (F (1 + (F 0 1)) 9)), (6, vI (tmL F)), (5, vI (F 5 0)), (4, vI (nxC K F 3)), (3, vI 0), (2, vI 1), (1, vI (F 0 1)), (0, .ref (A 0))] [vI (F2 (1 + (F 0 1)) 8)] (w14)
      refine v_iload C dL_isStep_207 2 rfl ?_
      refine v_icmp_ne (tgt := 216) C dL_isStep_209 (by decide) (by have := hB2 (1 + (F 0 1)) 8; first | assumption | exact ⟨by omega, by omega⟩) (by have := hB (1 + (F 0 1)) 8; first | assumption | exact ⟨by omega, by omega⟩) (fun c => absurd (by omega) c) (fun _ => ?_)
      refine v_iconst C dL_isStep_212 ?_
      refine v_goto (tgt := 246) C dL_isStep_213 (by decide) ?_
      refine V.wid (k' := 60) (n' := 400) (by decide) (by decide) ?_
      exact v_zret C E rfl rfl dL_isStep_246 (by decide) (by decide) ⟨rfl, hw14⟩
end K2
