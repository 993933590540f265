section C2
set_option maxHeartbeats 4000000 in
set_option maxRecDepth 100000 in
theorem c_X3_framesSent (G : GG) (l : Launch) (ad : Nat → Nat) (F : Int → Int → Int) (K : Int → Int → Int64)  : Ct G l yX3_framesSent (Cond.code yX3_framesSent cX3_framesSent 1 (some .int) :: wsL_law) 0 0 0 0 [.ref (ad 0)] ((liW G ad F K)) (fun r w => r = some (vI (F 5 0)) ∧ w = (liW G ad F K)) := by
  refine Ct.of (own := RX3) (cc := cX3_framesSent) (maxL := 1) (ret := (some .int)) (by decide) rfl rfl (Nat.le_of_ble_eq_true rfl) (fun X C E M hG hl => ?_)
  subst hG hl
  refine v_aload_n C dX3_framesSent_0 rfl 0 rfl ?_
  refine v_get (v := .ref (ad 7)) C inw_3 0 2 rfl (by decide) (List.mem_cons_of_mem _ mw_52) rfl rfl dX3_framesSent_1 ?_
  refine v_iconst C dX3_framesSent_4 ?_
  refine v_iald C 7 rfl (by decide) (by decide) (by decide) dX3_framesSent_5 ?_
  exact v_iret C E rfl dX3_framesSent_6 (by decide) (by decide) (⟨rfl, rfl⟩)
set_option maxHeartbeats 4000000 in
set_option maxRecDepth 100000 in
theorem c_X3_time (G : GG) (l : Launch) (ad : Nat → Nat) (F : Int → Int → Int) (K : Int → Int → Int64)  : Ct G l yX3_time (Cond.code yX3_time cX3_time 1 (some .int) :: wsL_law) 0 0 0 0 [.ref (ad 0)] ((liW G ad F K)) (fun r w => r = some (vI (F 5 6 + F 5 8)) ∧ w = (liW G ad F K)) := by
  refine Ct.of (own := RX3) (cc := cX3_time) (maxL := 1) (ret := (some .int)) (by decide) rfl rfl (Nat.le_of_ble_eq_true rfl) (fun X C E M hG hl => ?_)
  subst hG hl
  refine v_aload_n C dX3_time_0 rfl 0 rfl ?_
  refine v_get (v := .ref (ad 7)) C inw_3 0 2 rfl (by decide) (List.mem_cons_of_mem _ mw_52) rfl rfl dX3_time_1 ?_
  refine v_bipush C dX3_time_4 (by decide +kernel) ?_
  refine v_iald C 7 rfl (by decide) (by decide) (by decide) dX3_time_6 ?_
  refine v_aload_n C dX3_time_7 rfl 0 rfl ?_
  refine v_get (v := .ref (ad 7)) C inw_3 0 2 rfl (by decide) (List.mem_cons_of_mem _ mw_52) rfl rfl dX3_time_8 ?_
  refine v_bipush C dX3_time_11 (by decide +kernel) ?_
  refine v_iald C 7 rfl (by decide) (by decide) (by decide) dX3_time_13 ?_
  refine v_iadd C dX3_time_14 ?_
  exact v_iret C E rfl dX3_time_15 (by decide) (by decide) (⟨rfl, rfl⟩)
set_option maxHeartbeats 4000000 in
set_option maxRecDepth 100000 in
theorem c_X3_side (G : GG) (l : Launch) (ad : Nat → Nat) (F : Int → Int → Int) (K : Int → Int → Int64) (s : Int) (hs : sm s) : Ct G l yX3_side (Cond.code yX3_side cX3_side 2 (some (.object "TurnLine$Station")) :: wsL_law) 0 0 0 0 [.ref (ad 0), vI s] ((liW G ad F K)) (fun r w => r = some (.ref (if s = 0 then ad 1 else ad 4)) ∧ w = (liW G ad F K)) := by
  refine Ct.of (own := RX3) (cc := cX3_side) (maxL := 2) (ret := (some (.object "TurnLine$Station"))) (by decide) rfl rfl (Nat.le_of_ble_eq_true rfl) (fun X C E M hG hl => ?_)
  subst hG hl
  refine v_iload_n C dX3_side_0 rfl 1 rfl ?_
  refine v_if_ne (tgt := 11) C dX3_side_1 (by decide) (by  first | assumption | exact ⟨by omega, by omega⟩) (fun c1 => ?_) (fun c1 => ?_)
  · skip
    refine v_aload_n C dX3_side_11 rfl 0 rfl ?_
    refine v_get (v := .ref (ad 4)) C inw_3 0 1 rfl (by decide) (List.mem_cons_of_mem _ mw_50) rfl rfl dX3_side_12 ?_
    exact v_aret C E rfl (Or.inl ⟨_, rfl⟩) (Or.inr ⟨_, rfl⟩) dX3_side_15 (by decide) (by decide) (⟨by rw [if_neg c1], rfl⟩)
  · skip
    refine v_aload_n C dX3_side_4 rfl 0 rfl ?_
    refine v_get (v := .ref (ad 1)) C inw_3 0 0 rfl (by decide) (List.mem_cons_of_mem _ mw_49) rfl rfl dX3_side_5 ?_
    refine v_goto (tgt := 15) C dX3_side_8 (by decide) ?_
    exact v_aret C E rfl (Or.inl ⟨_, rfl⟩) (Or.inr ⟨_, rfl⟩) dX3_side_15 (by decide) (by decide) (⟨by rw [if_pos c1], rfl⟩)
set_option maxHeartbeats 4000000 in
set_option maxRecDepth 100000 in
theorem c_X3_nextMessage (G : GG) (l : Launch) (ad : Nat → Nat) (F : Int → Int → Int) (K : Int → Int → Int64) (sd : Nat) (hf : ∀ i, sB 100000000 (F i)) (hT : F 0 1 = 0 ∨ F 0 1 = 1) (hsd : sd = if F 0 1 = 0 then ad 1 else ad 4) : Ct G l yX3_nextMessage (Cond.code yX3_nextMessage cX3_nextMessage 4 (some .int) :: wsL_law) 1 21 0 0 [.ref (ad 0), .ref sd] ((liW G ad F K)) (fun r w => r = some (vI (nxL F)) ∧ w = (liW G ad F K)) := by
  refine Ct.of (own := RX3) (cc := cX3_nextMessage) (maxL := 4) (ret := (some .int)) (by decide) rfl rfl (Nat.le_of_ble_eq_true rfl) (fun X C E M hG hl => ?_)
  subst hG hl
  have hT0 := hT
  rcases hT with hT | hT
  · skip
    obtain rfl : sd = (ad 1) := hsd.trans (if_pos hT)
    have hnm : nmL F = F 1 6 + F 0 2 := if_pos hT
    refine v_aload_n C dX3_nextMessage_0 rfl 1 rfl ?_
    refine v_getN (v := vI (F 1 6)) C inw_5 1 9 rfl (by decide) nw_11 rfl rfl dX3_nextMessage_1 ?_
    refine v_aload_n C dX3_nextMessage_4 rfl 0 rfl ?_
    refine v_get (v := vI (F 0 2)) C inw_3 0 8 rfl (by decide) (List.mem_cons_of_mem _ mw_127) rfl rfl dX3_nextMessage_5 ?_
    refine v_iadd C dX3_nextMessage_8 ?_
    refine v_istore_n C M dX3_nextMessage_9 rfl (by decide) (L' := [(2, vI ((F 1 6) + (F 0 2))), (0, .ref (ad 0)), (1, .ref (ad 1))]) rfl ?_
    refine v_aload_n C dX3_nextMessage_10 rfl 1 rfl ?_
    refine v_get (v := vI (F 0 6)) C inw_3 0 9 rfl (by decide) (List.mem_cons_of_mem _ mw_128) rfl rfl dX3_nextMessage_11 ?_
    refine v_if_ne (tgt := 48) C dX3_nextMessage_14 (by decide) (by have := hf 0 6; first | assumption | exact ⟨by omega, by omega⟩) (fun c14 => ?_) (fun c14 => ?_)
    · skip
      refine v_iconst C dX3_nextMessage_48 ?_
      refine v_istore_n C M dX3_nextMessage_49 rfl (by decide) (L' := [(3, vI 0), (2, vI ((F 1 6) + (F 0 2))), (0, .ref (ad 0)), (1, .ref (ad 1))]) rfl ?_
      refine v_iload_n C dX3_nextMessage_50 rfl 0 rfl ?_
      refine v_if_eq (tgt := 58) C dX3_nextMessage_51 (by decide) (by decide) (fun _ => ?_) (fun c => absurd (by decide) c)
      refine v_iconst C dX3_nextMessage_58 ?_
      have hid : isDL F ↔ F 0 6 = 0 ∧ F 0 2 < F 0 4 ∧ nmL F < F 1 7 ∧ 0 ≤ nmL F ∧ nmL F < F 1 0 ∧ nmL F < 20 := by unfold isDL; rw [show stL F = F 1 from if_pos hT]
      exact v_iret C E rfl dX3_nextMessage_59 (by decide) (by decide) (⟨by rw [nxL, if_neg (fun h => by have := hid.mp h; omega)], rfl⟩)
    · skip
      refine v_aload_n C dX3_nextMessage_17 rfl 1 rfl ?_
      refine v_get (v := vI (F 0 2)) C inw_3 0 8 rfl (by decide) (List.mem_cons_of_mem _ mw_127) rfl rfl dX3_nextMessage_18 ?_
      refine v_aload_n C dX3_nextMessage_21 rfl 1 rfl ?_
      refine v_get (v := vI (F 0 4)) C inw_3 0 5 rfl (by decide) (List.mem_cons_of_mem _ mw_55) rfl rfl dX3_nextMessage_22 ?_
      refine v_icmp_ge (tgt := 48) C dX3_nextMessage_25 (by decide) (by have := hf 0 2; first | assumption | exact ⟨by omega, by omega⟩) (by have := hf 0 4; first | assumption | exact ⟨by omega, by omega⟩) (fun c25 => ?_) (fun c25 => ?_)
      · skip
        refine v_iconst C dX3_nextMessage_48 ?_
        refine v_istore_n C M dX3_nextMessage_49 rfl (by decide) (L' := [(3, vI 0), (2, vI ((F 1 6) + (F 0 2))), (0, .ref (ad 0)), (1, .ref (ad 1))]) rfl ?_
        refine v_iload_n C dX3_nextMessage_50 rfl 0 rfl ?_
        refine v_if_eq (tgt := 58) C dX3_nextMessage_51 (by decide) (by decide) (fun _ => ?_) (fun c => absurd (by decide) c)
        refine v_iconst C dX3_nextMessage_58 ?_
        have hid : isDL F ↔ F 0 6 = 0 ∧ F 0 2 < F 0 4 ∧ nmL F < F 1 7 ∧ 0 ≤ nmL F ∧ nmL F < F 1 0 ∧ nmL F < 20 := by unfold isDL; rw [show stL F = F 1 from if_pos hT]
        exact v_iret C E rfl dX3_nextMessage_59 (by decide) (by decide) (⟨by rw [nxL, if_neg (fun h => by have := hid.mp h; omega)], rfl⟩)
      · skip
        refine v_iload_n C dX3_nextMessage_28 rfl 0 rfl ?_
        refine v_aload_n C dX3_nextMessage_29 rfl 2 rfl ?_
        refine v_getN (v := vI (F 1 7)) C inw_5 1 10 rfl (by decide) nw_13 rfl rfl dX3_nextMessage_30 ?_
        refine v_icmp_ge (tgt := 48) C dX3_nextMessage_33 (by decide) (by have := hf 1 6; have := hf 0 2; first | assumption | exact ⟨by omega, by omega⟩) (by have := hf 1 7; first | assumption | exact ⟨by omega, by omega⟩) (fun c33 => ?_) (fun c33 => ?_)
        · skip
          refine v_iconst C dX3_nextMessage_48 ?_
          refine v_istore_n C M dX3_nextMessage_49 rfl (by decide) (L' := [(3, vI 0), (2, vI ((F 1 6) + (F 0 2))), (0, .ref (ad 0)), (1, .ref (ad 1))]) rfl ?_
          refine v_iload_n C dX3_nextMessage_50 rfl 0 rfl ?_
          refine v_if_eq (tgt := 58) C dX3_nextMessage_51 (by decide) (by decide) (fun _ => ?_) (fun c => absurd (by decide) c)
          refine v_iconst C dX3_nextMessage_58 ?_
          have hid : isDL F ↔ F 0 6 = 0 ∧ F 0 2 < F 0 4 ∧ nmL F < F 1 7 ∧ 0 ≤ nmL F ∧ nmL F < F 1 0 ∧ nmL F < 20 := by unfold isDL; rw [show stL F = F 1 from if_pos hT]
          exact v_iret C E rfl dX3_nextMessage_59 (by decide) (by decide) (⟨by rw [nxL, if_neg (fun h => by have := hid.mp h; omega)], rfl⟩)
        · skip
          refine v_aload_n C dX3_nextMessage_36 rfl 2 rfl ?_
          refine v_iload_n C dX3_nextMessage_37 rfl 0 rfl ?_
          refine v_callV (na := 1) (wy := (Cond.code yX5_hasMessage cX5_hasMessage 2 (some .boolean) :: wsL_law)) (wc := (stW (vG X) (ad 1) (ad 2) (ad 3) (F 1) (F 3) (K 0))) (wr := [((ad 0), .inr (3, [.ref (ad 1), .ref (ad 4), .ref (ad 7), .ref (ad 8), vI (F 0 7), vI (F 0 4), vI (F 0 5), vI (F 0 1), vI (F 0 2), vI (F 0 6), vI (F 0 9)])), ((ad 4), .inr (5, [.ref (ad 5), .ref (ad 6), vI (F 2 0), vI (F 2 1), vI (F 2 2), vI (F 2 3), vI (F 2 4), vI (F 2 5), vI (F 2 10), vI (F 2 6), vI (F 2 7), vI (F 2 8), vI (F 2 9)])), ((ad 5), .inl ((vG X).2 1, 20, .inl (fI (F 4)))), ((ad 6), .inl ((vG X).2 2, 20, .inr (.inl (fL (K 1))))), ((ad 7), .inl ((vG X).2 1, 10, .inl (fI (F 5)))), ((ad 8), .inl ((vG X).2 2, 32, .inr (.inl (fL (K 2)))))]) C [vI ((F 1 6) + (F 0 2))] [] (c_X5_hasMessage _ _ (ad 1) (ad 2) (ad 3) (F 1) (F 3) (K 0) ((F 1 6) + (F 0 2)) (by have := hf 1 6; have := hf 0 2; first | assumption | exact ⟨by omega, by omega⟩) (sB_mono (by decide) (hf 1))) rfl (gwV mw_132 mw_129 mw_130 mw_131 mw_48) rfl (by decide +kernel) 0 rfl rfl rfl rfl (Sb.pl [1, 2, 3, 0, 4, 5, 6, 7, 8] rfl rfl) rfl rfl dX3_nextMessage_38 (fun r w1 hp38_1 => ?_)
          obtain ⟨rfl, rfl⟩ := hp38_1
          refine V.sb (ws' := (liW (vG X) ad F K)) (Sb.pl [3, 0, 1, 2, 4, 5, 6, 7, 8] rfl rfl) ?_
          show V X 0 0 41 [(2, vI ((F 1 6) + (F 0 2))), (0, .ref (ad 0)), (1, .ref (ad 1))] [vI (bI ((0 ≤ ((F 1 6) + (F 0 2)) ∧ ((F 1 6) + (F 0 2)) < (F 1) 0) ∧ ((F 1 6) + (F 0 2)) < 20))] ((liW (vG X) ad F K))
          refine v_if_eq (tgt := 48) C dX3_nextMessage_41 (by decide) sm_bI (fun c41 => ?_) (fun c41 => ?_)
          · have c41 := bI_0.mp c41
            refine v_iconst C dX3_nextMessage_48 ?_
            refine v_istore_n C M dX3_nextMessage_49 rfl (by decide) (L' := [(3, vI 0), (2, vI ((F 1 6) + (F 0 2))), (0, .ref (ad 0)), (1, .ref (ad 1))]) rfl ?_
            refine v_iload_n C dX3_nextMessage_50 rfl 0 rfl ?_
            refine v_if_eq (tgt := 58) C dX3_nextMessage_51 (by decide) (by decide) (fun _ => ?_) (fun c => absurd (by decide) c)
            refine v_iconst C dX3_nextMessage_58 ?_
            have hid : isDL F ↔ F 0 6 = 0 ∧ F 0 2 < F 0 4 ∧ nmL F < F 1 7 ∧ 0 ≤ nmL F ∧ nmL F < F 1 0 ∧ nmL F < 20 := by unfold isDL; rw [show stL F = F 1 from if_pos hT]
            exact v_iret C E rfl dX3_nextMessage_59 (by decide) (by decide) (⟨by rw [nxL, if_neg (fun h => by have := hid.mp h; omega)], rfl⟩)
          · have c41 := bI_n0.mp c41
            refine v_iconst C dX3_nextMessage_44 ?_
            refine v_goto (tgt := 49) C dX3_nextMessage_45 (by decide) ?_
            refine v_istore_n C M dX3_nextMessage_49 rfl (by decide) (L' := [(3, vI 1), (2, vI ((F 1 6) + (F 0 2))), (0, .ref (ad 0)), (1, .ref (ad 1))]) rfl ?_
            refine v_iload_n C dX3_nextMessage_50 rfl 0 rfl ?_
            refine v_if_eq (tgt := 58) C dX3_nextMessage_51 (by decide) (by decide) (fun c => absurd c (by decide)) (fun _ => ?_)
            refine v_iload_n C dX3_nextMessage_54 rfl 1 rfl ?_
            refine v_goto (tgt := 59) C dX3_nextMessage_55 (by decide) ?_
            have hid : isDL F ↔ F 0 6 = 0 ∧ F 0 2 < F 0 4 ∧ nmL F < F 1 7 ∧ 0 ≤ nmL F ∧ nmL F < F 1 0 ∧ nmL F < 20 := by unfold isDL; rw [show stL F = F 1 from if_pos hT]
            exact v_iret C E rfl dX3_nextMessage_59 (by decide) (by decide) (⟨by rw [nxL, if_pos (hid.mpr (by omega)), hnm], rfl⟩)
  · skip
    obtain rfl : sd = (ad 4) := hsd.trans (if_neg (by omega))
    have hnm : nmL F = F 2 6 + F 0 2 := if_neg (by omega)
    refine v_aload_n C dX3_nextMessage_0 rfl 1 rfl ?_
    refine v_getN (v := vI (F 2 6)) C inw_5 4 9 rfl (by decide) nw_11 rfl rfl dX3_nextMessage_1 ?_
    refine v_aload_n C dX3_nextMessage_4 rfl 0 rfl ?_
    refine v_get (v := vI (F 0 2)) C inw_3 0 8 rfl (by decide) (List.mem_cons_of_mem _ mw_127) rfl rfl dX3_nextMessage_5 ?_
    refine v_iadd C dX3_nextMessage_8 ?_
    refine v_istore_n C M dX3_nextMessage_9 rfl (by decide) (L' := [(2, vI ((F 2 6) + (F 0 2))), (0, .ref (ad 0)), (1, .ref (ad 4))]) rfl ?_
    refine v_aload_n C dX3_nextMessage_10 rfl 1 rfl ?_
    refine v_get (v := vI (F 0 6)) C inw_3 0 9 rfl (by decide) (List.mem_cons_of_mem _ mw_128) rfl rfl dX3_nextMessage_11 ?_
    refine v_if_ne (tgt := 48) C dX3_nextMessage_14 (by decide) (by have := hf 0 6; first | assumption | exact ⟨by omega, by omega⟩) (fun c14 => ?_) (fun c14 => ?_)
    · skip
      refine v_iconst C dX3_nextMessage_48 ?_
      refine v_istore_n C M dX3_nextMessage_49 rfl (by decide) (L' := [(3, vI 0), (2, vI ((F 2 6) + (F 0 2))), (0, .ref (ad 0)), (1, .ref (ad 4))]) rfl ?_
      refine v_iload_n C dX3_nextMessage_50 rfl 0 rfl ?_
      refine v_if_eq (tgt := 58) C dX3_nextMessage_51 (by decide) (by decide) (fun _ => ?_) (fun c => absurd (by decide) c)
      refine v_iconst C dX3_nextMessage_58 ?_
      have hid : isDL F ↔ F 0 6 = 0 ∧ F 0 2 < F 0 4 ∧ nmL F < F 2 7 ∧ 0 ≤ nmL F ∧ nmL F < F 2 0 ∧ nmL F < 20 := by unfold isDL; rw [show stL F = F 2 from if_neg (by omega)]
      exact v_iret C E rfl dX3_nextMessage_59 (by decide) (by decide) (⟨by rw [nxL, if_neg (fun h => by have := hid.mp h; omega)], rfl⟩)
    · skip
      refine v_aload_n C dX3_nextMessage_17 rfl 1 rfl ?_
      refine v_get (v := vI (F 0 2)) C inw_3 0 8 rfl (by decide) (List.mem_cons_of_mem _ mw_127) rfl rfl dX3_nextMessage_18 ?_
      refine v_aload_n C dX3_nextMessage_21 rfl 1 rfl ?_
      refine v_get (v := vI (F 0 4)) C inw_3 0 5 rfl (by decide) (List.mem_cons_of_mem _ mw_55) rfl rfl dX3_nextMessage_22 ?_
      refine v_icmp_ge (tgt := 48) C dX3_nextMessage_25 (by decide) (by have := hf 0 2; first | assumption | exact ⟨by omega, by omega⟩) (by have := hf 0 4; first | assumption | exact ⟨by omega, by omega⟩) (fun c25 => ?_) (fun c25 => ?_)
      · skip
        refine v_iconst C dX3_nextMessage_48 ?_
        refine v_istore_n C M dX3_nextMessage_49 rfl (by decide) (L' := [(3, vI 0), (2, vI ((F 2 6) + (F 0 2))), (0, .ref (ad 0)), (1, .ref (ad 4))]) rfl ?_
        refine v_iload_n C dX3_nextMessage_50 rfl 0 rfl ?_
        refine v_if_eq (tgt := 58) C dX3_nextMessage_51 (by decide) (by decide) (fun _ => ?_) (fun c => absurd (by decide) c)
        refine v_iconst C dX3_nextMessage_58 ?_
        have hid : isDL F ↔ F 0 6 = 0 ∧ F 0 2 < F 0 4 ∧ nmL F < F 2 7 ∧ 0 ≤ nmL F ∧ nmL F < F 2 0 ∧ nmL F < 20 := by unfold isDL; rw [show stL F = F 2 from if_neg (by omega)]
        exact v_iret C E rfl dX3_nextMessage_59 (by decide) (by decide) (⟨by rw [nxL, if_neg (fun h => by have := hid.mp h; omega)], rfl⟩)
      · skip
        refine v_iload_n C dX3_nextMessage_28 rfl 0 rfl ?_
        refine v_aload_n C dX3_nextMessage_29 rfl 2 rfl ?_
        refine v_getN (v := vI (F 2 7)) C inw_5 4 10 rfl (by decide) nw_13 rfl rfl dX3_nextMessage_30 ?_
        refine v_icmp_ge (tgt := 48) C dX3_nextMessage_33 (by decide) (by have := hf 2 6; have := hf 0 2; first | assumption | exact ⟨by omega, by omega⟩) (by have := hf 2 7; first | assumption | exact ⟨by omega, by omega⟩) (fun c33 => ?_) (fun c33 => ?_)
        · skip
          refine v_iconst C dX3_nextMessage_48 ?_
          refine v_istore_n C M dX3_nextMessage_49 rfl (by decide) (L' := [(3, vI 0), (2, vI ((F 2 6) + (F 0 2))), (0, .ref (ad 0)), (1, .ref (ad 4))]) rfl ?_
          refine v_iload_n C dX3_nextMessage_50 rfl 0 rfl ?_
          refine v_if_eq (tgt := 58) C dX3_nextMessage_51 (by decide) (by decide) (fun _ => ?_) (fun c => absurd (by decide) c)
          refine v_iconst C dX3_nextMessage_58 ?_
          have hid : isDL F ↔ F 0 6 = 0 ∧ F 0 2 < F 0 4 ∧ nmL F < F 2 7 ∧ 0 ≤ nmL F ∧ nmL F < F 2 0 ∧ nmL F < 20 := by unfold isDL; rw [show stL F = F 2 from if_neg (by omega)]
          exact v_iret C E rfl dX3_nextMessage_59 (by decide) (by decide) (⟨by rw [nxL, if_neg (fun h => by have := hid.mp h; omega)], rfl⟩)
        · skip
          refine v_aload_n C dX3_nextMessage_36 rfl 2 rfl ?_
          refine v_iload_n C dX3_nextMessage_37 rfl 0 rfl ?_
          refine v_callV (na := 1) (wy := (Cond.code yX5_hasMessage cX5_hasMessage 2 (some .boolean) :: wsL_law)) (wc := (stW (vG X) (ad 4) (ad 5) (ad 6) (F 2) (F 4) (K 1))) (wr := [((ad 0), .inr (3, [.ref (ad 1), .ref (ad 4), .ref (ad 7), .ref (ad 8), vI (F 0 7), vI (F 0 4), vI (F 0 5), vI (F 0 1), vI (F 0 2), vI (F 0 6), vI (F 0 9)])), ((ad 1), .inr (5, [.ref (ad 2), .ref (ad 3), vI (F 1 0), vI (F 1 1), vI (F 1 2), vI (F 1 3), vI (F 1 4), vI (F 1 5), vI (F 1 10), vI (F 1 6), vI (F 1 7), vI (F 1 8), vI (F 1 9)])), ((ad 2), .inl ((vG X).2 1, 20, .inl (fI (F 3)))), ((ad 3), .inl ((vG X).2 2, 20, .inr (.inl (fL (K 0))))), ((ad 7), .inl ((vG X).2 1, 10, .inl (fI (F 5)))), ((ad 8), .inl ((vG X).2 2, 32, .inr (.inl (fL (K 2)))))]) C [vI ((F 2 6) + (F 0 2))] [] (c_X5_hasMessage _ _ (ad 4) (ad 5) (ad 6) (F 2) (F 4) (K 1) ((F 2 6) + (F 0 2)) (by have := hf 2 6; have := hf 0 2; first | assumption | exact ⟨by omega, by omega⟩) (sB_mono (by decide) (hf 2))) rfl (gwV mw_132 mw_129 mw_130 mw_131 mw_48) rfl (by decide +kernel) 0 rfl rfl rfl rfl (Sb.pl [4, 5, 6, 0, 1, 2, 3, 7, 8] rfl rfl) rfl rfl dX3_nextMessage_38 (fun r w1 hp38_2 => ?_)
          obtain ⟨rfl, rfl⟩ := hp38_2
          refine V.sb (ws' := (liW (vG X) ad F K)) (Sb.pl [3, 4, 5, 6, 0, 1, 2, 7, 8] rfl rfl) ?_
          show V X 0 0 41 [(2, vI ((F 2 6) + (F 0 2))), (0, .ref (ad 0)), (1, .ref (ad 4))] [vI (bI ((0 ≤ ((F 2 6) + (F 0 2)) ∧ ((F 2 6) + (F 0 2)) < (F 2) 0) ∧ ((F 2 6) + (F 0 2)) < 20))] ((liW (vG X) ad F K))
          refine v_if_eq (tgt := 48) C dX3_nextMessage_41 (by decide) sm_bI (fun c41 => ?_) (fun c41 => ?_)
          · have c41 := bI_0.mp c41
            refine v_iconst C dX3_nextMessage_48 ?_
            refine v_istore_n C M dX3_nextMessage_49 rfl (by decide) (L' := [(3, vI 0), (2, vI ((F 2 6) + (F 0 2))), (0, .ref (ad 0)), (1, .ref (ad 4))]) rfl ?_
            refine v_iload_n C dX3_nextMessage_50 rfl 0 rfl ?_
            refine v_if_eq (tgt := 58) C dX3_nextMessage_51 (by decide) (by decide) (fun _ => ?_) (fun c => absurd (by decide) c)
            refine v_iconst C dX3_nextMessage_58 ?_
            have hid : isDL F ↔ F 0 6 = 0 ∧ F 0 2 < F 0 4 ∧ nmL F < F 2 7 ∧ 0 ≤ nmL F ∧ nmL F < F 2 0 ∧ nmL F < 20 := by unfold isDL; rw [show stL F = F 2 from if_neg (by omega)]
            exact v_iret C E rfl dX3_nextMessage_59 (by decide) (by decide) (⟨by rw [nxL, if_neg (fun h => by have := hid.mp h; omega)], rfl⟩)
          · have c41 := bI_n0.mp c41
            refine v_iconst C dX3_nextMessage_44 ?_
            refine v_goto (tgt := 49) C dX3_nextMessage_45 (by decide) ?_
            refine v_istore_n C M dX3_nextMessage_49 rfl (by decide) (L' := [(3, vI 1), (2, vI ((F 2 6) + (F 0 2))), (0, .ref (ad 0)), (1, .ref (ad 4))]) rfl ?_
            refine v_iload_n C dX3_nextMessage_50 rfl 0 rfl ?_
            refine v_if_eq (tgt := 58) C dX3_nextMessage_51 (by decide) (by decide) (fun c => absurd c (by decide)) (fun _ => ?_)
            refine v_iload_n C dX3_nextMessage_54 rfl 1 rfl ?_
            refine v_goto (tgt := 59) C dX3_nextMessage_55 (by decide) ?_
            have hid : isDL F ↔ F 0 6 = 0 ∧ F 0 2 < F 0 4 ∧ nmL F < F 2 7 ∧ 0 ≤ nmL F ∧ nmL F < F 2 0 ∧ nmL F < 20 := by unfold isDL; rw [show stL F = F 2 from if_neg (by omega)]
            exact v_iret C E rfl dX3_nextMessage_59 (by decide) (by decide) (⟨by rw [nxL, if_pos (hid.mpr (by omega)), hnm], rfl⟩)
end C2
