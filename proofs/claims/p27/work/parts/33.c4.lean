section C4
set_option maxHeartbeats 4000000 in
set_option maxRecDepth 100000 in
theorem c_X3_tells (G : GG) (l : Launch) (ad : Nat → Nat) (F : Int → Int → Int) (K : Int → Int → Int64) (f : Int) (hff : sm f) : Ct G l yX3_tells (Cond.code yX3_tells cX3_tells 2 (some .boolean) :: wsL_law) 0 0 0 0 [.ref (ad 0), vI f] ((liW G ad F K)) (fun r w => r = some (vI (bI (tlL (K 2) f))) ∧ w = (liW G ad F K)) := by
  refine Ct.of (own := RX3) (cc := cX3_tells) (maxL := 2) (ret := (some .boolean)) (by decide) rfl rfl (Nat.le_of_ble_eq_true rfl) (fun X C E M hG hl => ?_)
  subst hG hl
  refine v_iload_n C dX3_tells_0 rfl 1 rfl ?_
  refine v_if_lt (tgt := 11) C dX3_tells_1 (by decide) (by  first | assumption | exact ⟨by omega, by omega⟩) (fun c1 => ?_) (fun c1 => ?_)
  · skip
    refine v_iconst C dX3_tells_11 ?_
    exact v_zret C E rfl rfl dX3_tells_12 (by decide) (by decide) (⟨by rw [bI_f (fun h => by omega)], rfl⟩)
  · skip
    refine v_iload_n C dX3_tells_4 rfl 1 rfl ?_
    refine v_sipush C dX3_tells_5 (by decide +kernel) ?_
    refine v_icmp_lt (tgt := 13) C dX3_tells_8 (by decide) (by  first | assumption | exact ⟨by omega, by omega⟩) (by decide) (fun c8 => ?_) (fun c8 => ?_)
    · skip
      refine v_aload_n C dX3_tells_13 rfl 0 rfl ?_
      refine v_get (v := .ref (ad 8)) C inw_3 0 3 rfl (by decide) (List.mem_cons_of_mem _ mw_54) rfl rfl dX3_tells_14 ?_
      refine v_iload_n C dX3_tells_17 rfl 1 rfl ?_
      refine v_bipush C dX3_tells_18 (by decide +kernel) ?_
      refine v_idiv (z := f / 64) C dX3_tells_20 (by decide +kernel) (iI_div64 (by omega) (by omega)) ?_
      refine v_lald C 8 rfl (by  omega) (by  omega) (by decide) dX3_tells_21 ?_
      refine v_iload_n C dX3_tells_22 rfl 1 rfl ?_
      refine v_bipush C dX3_tells_23 (by decide +kernel) ?_
      refine v_irem (z := f % 64) C dX3_tells_25 (by decide +kernel) (iI_rem64 (by omega) (by omega)) ?_
      refine v_lushr C dX3_tells_26 rfl ?_
      refine v_lconst C dX3_tells_27 rfl ?_
      refine v_land C dX3_tells_28 ?_
      refine v_lconst C dX3_tells_29 rfl ?_
      refine v_lcmp C dX3_tells_30 ?_
      rw [tlV_e]
      refine v_if_eq (tgt := 38) C dX3_tells_31 (by decide) (sm_of _) (fun c31 => ?_) (fun c31 => ?_)
      · skip
        refine v_iconst C dX3_tells_38 ?_
        exact v_zret C E rfl rfl dX3_tells_39 (by decide) (by decide) (⟨by rw [bI_f (fun h => h.2 c31)], rfl⟩)
      · skip
        refine v_iconst C dX3_tells_34 ?_
        refine v_goto (tgt := 39) C dX3_tells_35 (by decide) ?_
        exact v_zret C E rfl rfl dX3_tells_39 (by decide) (by decide) (⟨by rw [bI_t ⟨by omega, c31⟩], rfl⟩)
    · skip
      refine v_iconst C dX3_tells_11 ?_
      exact v_zret C E rfl rfl dX3_tells_12 (by decide) (by decide) (⟨by rw [bI_f (fun h => by omega)], rfl⟩)
set_option maxHeartbeats 4000000 in
set_option maxRecDepth 100000 in
theorem c_X3_tellLost (G : GG) (l : Launch) (ad : Nat → Nat) (F : Int → Int → Int) (K : Int → Int → Int64) (f : Int) (hff : sm f) : Ct G l yX3_tellLost (Cond.code yX3_tellLost cX3_tellLost 2 none :: wsL_law) 1 21 0 0 [.ref (ad 0), vI f] ((liW G ad F K)) (fun r w => r = none ∧ w = liW G ad (tLF K f F) (tLK f K)) := by
  refine Ct.of (own := RX3) (cc := cX3_tellLost) (maxL := 2) (ret := none) (by decide) rfl rfl (Nat.le_of_ble_eq_true rfl) (fun X C E M hG hl => ?_)
  subst hG hl
  refine v_iload_n C dX3_tellLost_0 rfl 1 rfl ?_
  refine v_if_lt (tgt := 47) C dX3_tellLost_1 (by decide) (by  first | assumption | exact ⟨by omega, by omega⟩) (fun c1 => ?_) (fun c1 => ?_)
  · skip
    exact v_vret C E rfl dX3_tellLost_47 (by decide) (by decide) (⟨rfl, by rw [tLF, tLK, if_neg (fun h => by omega), if_neg (fun h => by omega)]⟩)
  · skip
    refine v_iload_n C dX3_tellLost_4 rfl 1 rfl ?_
    refine v_sipush C dX3_tellLost_5 (by decide +kernel) ?_
    refine v_icmp_ge (tgt := 47) C dX3_tellLost_8 (by decide) (by  first | assumption | exact ⟨by omega, by omega⟩) (by decide) (fun c8 => ?_) (fun c8 => ?_)
    · skip
      exact v_vret C E rfl dX3_tellLost_47 (by decide) (by decide) (⟨rfl, by rw [tLF, tLK, if_neg (fun h => by omega), if_neg (fun h => by omega)]⟩)
    · skip
      refine v_aload_n C dX3_tellLost_11 rfl 0 rfl ?_
      refine v_iload_n C dX3_tellLost_12 rfl 1 rfl ?_
      refine v_callV (na := 1) (wy := (Cond.code yX3_tells cX3_tells 2 (some .boolean) :: wsL_law)) (wc := (liW (vG X) ad F K)) (wr := []) C [vI f] [] (c_X3_tells _ _ ad F K f (by first | assumption | exact ⟨by omega, by omega⟩)) rfl (gwV mw_166 mw_556 mw_164 mw_165 mw_15) rfl (by decide +kernel) 0 rfl rfl rfl rfl Sb.w rfl rfl dX3_tellLost_13 (fun r w1 hp13_1 => ?_)
      obtain ⟨rfl, rfl⟩ := hp13_1
      show V X 0 0 16 [(0, .ref (ad 0)), (1, vI f)] [vI (bI (tlL (K 2) f))] ((liW (vG X) ad F K))
      refine v_if_ne (tgt := 47) C dX3_tellLost_16 (by decide) sm_bI (fun c16 => ?_) (fun c16 => ?_)
      · have c16 := bI_n0.mp c16
        exact v_vret C E rfl dX3_tellLost_47 (by decide) (by decide) (⟨rfl, by rw [tLF, tLK, if_neg (fun h => h.2 c16), if_neg (fun h => h.2 c16)]⟩)
      · have c16 := bI_0.mp c16
        refine v_aload_n C dX3_tellLost_19 rfl 0 rfl ?_
        refine v_get (v := .ref (ad 8)) C inw_3 0 3 rfl (by decide) (List.mem_cons_of_mem _ mw_54) rfl rfl dX3_tellLost_20 ?_
        refine v_iload_n C dX3_tellLost_23 rfl 1 rfl ?_
        refine v_bipush C dX3_tellLost_24 (by decide +kernel) ?_
        refine v_idiv (z := f / 64) C dX3_tellLost_26 (by decide +kernel) (iI_div64 (by omega) (by omega)) ?_
        refine v_dup2 C dX3_tellLost_27 rfl rfl ?_
        refine v_lald C 8 rfl (by  omega) (by  omega) (by decide) dX3_tellLost_28 ?_
        refine v_lconst C dX3_tellLost_29 rfl ?_
        refine v_iload_n C dX3_tellLost_30 rfl 1 rfl ?_
        refine v_bipush C dX3_tellLost_31 (by decide +kernel) ?_
        refine v_irem (z := f % 64) C dX3_tellLost_33 (by decide +kernel) (iI_rem64 (by omega) (by omega)) ?_
        refine v_lshl C dX3_tellLost_34 rfl ?_
        refine v_lor C dX3_tellLost_35 ?_
        rw [orB_e]
        refine v_last C 8 rfl (by  omega) (by  omega) (by decide) dX3_tellLost_36 (ws' := (liW (vG X) ad F (up K 2 (up (K 2) (f / 64) (orB (K 2 (f / 64)) (f % 64)))))) rfl ?_
        refine v_aload_n C dX3_tellLost_37 rfl 0 rfl ?_
        refine v_dup C dX3_tellLost_38 rfl ?_
        refine v_get (v := vI (F 0 7)) C inw_3 0 4 rfl (by decide) (List.mem_cons_of_mem _ mw_188) rfl rfl dX3_tellLost_39 ?_
        refine v_iconst C dX3_tellLost_42 ?_
        refine v_iadd C dX3_tellLost_43 ?_
        refine v_put C inw_3 tyX3 tyX3_ok nmX3 0 4 rfl (by decide) (List.mem_cons_of_mem _ mw_188) rfl rfl rfl rfl (Nat.le_of_ble_eq_true rfl) dX3_tellLost_44 (ws' := (liW (vG X) ad (up F 0 (up (F 0) 7 ((F 0 7) + 1))) (up K 2 (up (K 2) (f / 64) (orB (K 2 (f / 64)) (f % 64)))))) rfl ?_
        exact v_vret C E rfl dX3_tellLost_47 (by decide) (by decide) (⟨rfl, by rw [tLF, tLK, if_pos ⟨by omega, c16⟩, if_pos ⟨by omega, c16⟩]⟩)
end C4
