section C8
set_option maxHeartbeats 4000000 in
set_option maxRecDepth 100000 in
theorem c_X4_init (G : GG) (l : Launch) (a : Nat)  : Ct G l yX4_init (Cond.code yX4_init cX4_init 1 none :: wsL_law) 3 64 9 159 [.ref a] ([(a, .inr (4, [.null, vI 0]))]) (fun r w => r = none ∧ ∃ q l1 l2 l3 l4 l5 l6 l7 l8 : Nat, w = liW G (adLn q l1 l2 l3 l4 l5 l6 l7 l8) liI (fun _ _ => 0) ++ [(a, .inr (4, [.ref q, vI 0]))]) := by
  refine Ct.ofI (own := RX4) (cc := cX4_init) (maxL := 1) (ret := none) (by decide) rfl rfl (Nat.le_of_ble_eq_true rfl) (fun X C E M I hG hl => ?_)
  subst hG hl
  refine v_aload_n C dX4_init_0 rfl 0 rfl ?_
  refine v_objInit C (List.mem_cons_of_mem _ mw_92) (List.mem_cons_of_mem _ mw_7) (List.mem_cons_of_mem _ mw_8) (by decide) (by decide) dX4_init_1 ?_
  refine v_aload_n C dX4_init_4 rfl 0 rfl ?_
  refine v_new (ci := 3) (fs := [.null, .null, .null, .null, vI 0, vI 0, vI 0, vI 0, vI 0, vI 0, vI 0]) C inw_3 tyX3 tyX3_ok rfl (List.mem_cons_of_mem _ mw_93) (List.mem_cons_of_mem _ mw_14) (List.mem_cons_of_mem _ mw_15) (fun j hj => by rcases (show j = 0 ∨ j = 1 ∨ j = 2 ∨ j = 3 ∨ j = 4 ∨ j = 5 ∨ j = 6 ∨ j = 7 ∨ j = 8 ∨ j = 9 ∨ j = 10 by omega) with rfl | rfl | rfl | rfl | rfl | rfl | rfl | rfl | rfl | rfl | rfl <;> rfl) rfl rfl dX4_init_5 (fun o1 => ?_)
  show V X 1 11 8 [(0, .ref a)] [.ref o1, .ref a] ([(a, .inr (4, [.null, vI 0]))] ++ [(o1, .inr (3, [.null, .null, .null, .null, vI 0, vI 0, vI 0, vI 0, vI 0, vI 0, vI 0]))])
  refine v_dup C dX4_init_8 rfl ?_
  refine v_callI (ret := none) (na := 0) (wy := (Cond.code yX3_init cX3_init 1 none :: wsL_law)) (wc := [(o1, .inr (3, [.null, .null, .null, .null, vI 0, vI 0, vI 0, vI 0, vI 0, vI 0, vI 0]))]) (wr := [(a, .inr (4, [.null, vI 0]))]) C [] [.ref o1, .ref a] (c_X3_init _ _ o1) rfl (gwI mw_44) (by decide +kernel) (List.mem_cons_of_mem _ mw_15) (List.mem_cons_of_mem _ mw_95) (List.mem_cons_of_mem _ mw_43) rfl rfl rfl (Sb.pl [1, 0] rfl rfl) rfl rfl dX4_init_9 (fun r w1 hp9_10 => ?_)
  obtain ⟨rfl, l2, l3, l4, l5, l6, l7, l8, l9, rfl⟩ := hp9_10
  show V X 9 159 12 [(0, .ref a)] [.ref o1, .ref a] ((liW (vG X) (adLn o1 l2 l3 l4 l5 l6 l7 l8 l9) liI (fun _ _ => 0)) ++ [(a, .inr (4, [.null, vI 0]))])
  refine v_putF C I inw_4 tyX4 tyX4_ok nmX4 9 0 rfl (by decide) (List.mem_cons_of_mem _ mw_94) rfl rfl rfl rfl rfl (Nat.le_of_ble_eq_true rfl) dX4_init_12 (ws' := (liW (vG X) (adLn o1 l2 l3 l4 l5 l6 l7 l8 l9) liI (fun _ _ => 0)) ++ [(a, .inr (4, [.ref o1, vI 0]))]) rfl ?_
  exact v_vret C E rfl dX4_init_15 (by decide) (by decide) (⟨rfl, _, _, _, _, _, _, _, _, _, rfl⟩)
set_option maxHeartbeats 4000000 in
set_option maxRecDepth 100000 in
theorem c_X6_addFour (G : GG) (l : Launch) (a b : Nat) (f bu : Int → Int) (v : Int) (e : Int → Int → Int) (he : ∀ a sh, u8 a sh = e a sh) (h0 : 0 ≤ f 0) (h1 : f 0 + 4 ≤ 700) : Ct G l yX6_addFour (Cond.code yX6_addFour cX6_addFour 3 none :: wsL_law) 0 0 0 0 [.ref a, vI v] ((rdW G a b (f) (bu))) (fun r w => r = none ∧ w = (rdW G a b (up (f) 0 ((f 0) + 4)) (up (up (up (up (bu) (f 0) (e v 24)) ((f 0) + 1) (e v 16)) ((f 0) + 2) (e v 8)) ((f 0) + 3) (e v 0)))) := by
  refine Ct.of (own := RX6) (cc := cX6_addFour) (maxL := 3) (ret := none) (by decide) rfl rfl (Nat.le_of_ble_eq_true rfl) (fun X C E M hG hl => ?_)
  subst hG hl
  refine v_bipush C dX6_addFour_0 (by decide +kernel) ?_
  refine v_istore_n C M dX6_addFour_2 rfl (by decide) (L' := [(2, vI 24), (0, .ref a), (1, vI v)]) rfl ?_
  refine v_iload_n C dX6_addFour_3 rfl 0 rfl ?_
  refine v_if_lt (tgt := 53) C dX6_addFour_4 (by decide) (by decide) (fun c => absurd c (by decide)) (fun _ => ?_)
  refine v_aload_n C dX6_addFour_7 rfl 1 rfl ?_
  refine v_get (v := vI (f 0)) C inw_6 0 1 rfl (by decide) (List.mem_cons_of_mem _ mw_441) rfl rfl dX6_addFour_8 ?_
  refine v_if_lt (tgt := 47) C dX6_addFour_11 (by decide) (by  first | assumption | exact ⟨by omega, by omega⟩) (fun c11 => ?_) (fun c11 => ?_)
  · exact absurd c11 (by omega)
  · skip
    refine v_aload_n C dX6_addFour_14 rfl 1 rfl ?_
    refine v_get (v := vI (f 0)) C inw_6 0 1 rfl (by decide) (List.mem_cons_of_mem _ mw_441) rfl rfl dX6_addFour_15 ?_
    refine v_sipush C dX6_addFour_18 (by decide +kernel) ?_
    refine v_icmp_ge (tgt := 47) C dX6_addFour_21 (by decide) (by  first | assumption | exact ⟨by omega, by omega⟩) (by decide) (fun c21 => ?_) (fun c21 => ?_)
    · exact absurd c21 (by omega)
    · refine v_aload_n C dX6_addFour_24 rfl 1 rfl ?_
      refine v_get (v := .ref b) C inw_6 0 0 rfl (by decide) (List.mem_cons_of_mem _ mw_41) rfl rfl dX6_addFour_25 ?_
      refine v_aload_n C dX6_addFour_28 rfl 1 rfl ?_
      refine v_get (v := vI (f 0)) C inw_6 0 1 rfl (by decide) (List.mem_cons_of_mem _ mw_441) rfl rfl dX6_addFour_29 ?_
      refine v_iload_n C dX6_addFour_32 rfl 2 rfl ?_
      refine v_iload_n C dX6_addFour_33 rfl 0 rfl ?_
      refine v_iushr (z := ((iI v).toUInt32 >>> ((iI 24).toUInt32 &&& Int32.toUInt32 31)).toInt32.toInt) C dX6_addFour_34 (iI_of _).symm ?_
      refine v_i2b (z := e v 24) C dX6_addFour_35 (by rw [← he]; exact u8_b v 24) ?_
      refine v_bast C 1 rfl (by  omega) (by  omega) (by decide) (by rw [← he]; exact u8_nar) dX6_addFour_36 (ws' := (rdW (vG X) a b (f) (up (bu) (f 0) (e v 24)))) rfl ?_
      refine v_aload_n C dX6_addFour_37 rfl 1 rfl ?_
      refine v_dup C dX6_addFour_38 rfl ?_
      refine v_get (v := vI (f 0)) C inw_6 0 1 rfl (by decide) (List.mem_cons_of_mem _ mw_441) rfl rfl dX6_addFour_39 ?_
      refine v_iconst C dX6_addFour_42 ?_
      refine v_iadd C dX6_addFour_43 ?_
      refine v_put C inw_6 tyX6 tyX6_ok nmX6 0 1 rfl (by decide) (List.mem_cons_of_mem _ mw_441) rfl rfl rfl rfl (Nat.le_of_ble_eq_true rfl) dX6_addFour_44 (ws' := (rdW (vG X) a b (up (f) 0 ((f 0) + 1)) (up (bu) (f 0) (e v 24)))) rfl ?_
      refine v_iinc C M dX6_addFour_47 0 rfl (by decide) (z' := 16) rfl (L' := [(2, vI 16), (0, .ref a), (1, vI v)]) rfl ?_
      refine v_goto (tgt := 3) C dX6_addFour_50 (by decide) ?_
      refine v_iload_n C dX6_addFour_3 rfl 0 rfl ?_
      refine v_if_lt (tgt := 53) C dX6_addFour_4 (by decide) (by decide) (fun c => absurd c (by decide)) (fun _ => ?_)
      refine v_aload_n C dX6_addFour_7 rfl 1 rfl ?_
      refine v_get (v := vI ((f 0) + 1)) C inw_6 0 1 rfl (by decide) (List.mem_cons_of_mem _ mw_441) rfl rfl dX6_addFour_8 ?_
      refine v_if_lt (tgt := 47) C dX6_addFour_11 (by decide) (by  first | assumption | exact ⟨by omega, by omega⟩) (fun c11 => ?_) (fun c11 => ?_)
      · exact absurd c11 (by omega)
      · skip
        refine v_aload_n C dX6_addFour_14 rfl 1 rfl ?_
        refine v_get (v := vI ((f 0) + 1)) C inw_6 0 1 rfl (by decide) (List.mem_cons_of_mem _ mw_441) rfl rfl dX6_addFour_15 ?_
        refine v_sipush C dX6_addFour_18 (by decide +kernel) ?_
        refine v_icmp_ge (tgt := 47) C dX6_addFour_21 (by decide) (by  first | assumption | exact ⟨by omega, by omega⟩) (by decide) (fun c21 => ?_) (fun c21 => ?_)
        · exact absurd c21 (by omega)
        · refine v_aload_n C dX6_addFour_24 rfl 1 rfl ?_
          refine v_get (v := .ref b) C inw_6 0 0 rfl (by decide) (List.mem_cons_of_mem _ mw_41) rfl rfl dX6_addFour_25 ?_
          refine v_aload_n C dX6_addFour_28 rfl 1 rfl ?_
          refine v_get (v := vI ((f 0) + 1)) C inw_6 0 1 rfl (by decide) (List.mem_cons_of_mem _ mw_441) rfl rfl dX6_addFour_29 ?_
          refine v_iload_n C dX6_addFour_32 rfl 2 rfl ?_
          refine v_iload_n C dX6_addFour_33 rfl 0 rfl ?_
          refine v_iushr (z := ((iI v).toUInt32 >>> ((iI 16).toUInt32 &&& Int32.toUInt32 31)).toInt32.toInt) C dX6_addFour_34 (iI_of _).symm ?_
          refine v_i2b (z := e v 16) C dX6_addFour_35 (by rw [← he]; exact u8_b v 16) ?_
          refine v_bast C 1 rfl (by  omega) (by  omega) (by decide) (by rw [← he]; exact u8_nar) dX6_addFour_36 (ws' := (rdW (vG X) a b (up (f) 0 ((f 0) + 1)) (up (up (bu) (f 0) (e v 24)) ((f 0) + 1) (e v 16)))) rfl ?_
          refine v_aload_n C dX6_addFour_37 rfl 1 rfl ?_
          refine v_dup C dX6_addFour_38 rfl ?_
          refine v_get (v := vI ((f 0) + 1)) C inw_6 0 1 rfl (by decide) (List.mem_cons_of_mem _ mw_441) rfl rfl dX6_addFour_39 ?_
          refine v_iconst C dX6_addFour_42 ?_
          refine v_iadd C dX6_addFour_43 ?_
          refine v_put C inw_6 tyX6 tyX6_ok nmX6 0 1 rfl (by decide) (List.mem_cons_of_mem _ mw_441) rfl rfl rfl rfl (Nat.le_of_ble_eq_true rfl) dX6_addFour_44 (ws' := (rdW (vG X) a b (up (f) 0 (((f 0) + 1) + 1)) (up (up (bu) (f 0) (e v 24)) ((f 0) + 1) (e v 16)))) rfl ?_
          refine v_iinc C M dX6_addFour_47 0 rfl (by decide) (z' := 8) rfl (L' := [(2, vI 8), (0, .ref a), (1, vI v)]) rfl ?_
          refine v_goto (tgt := 3) C dX6_addFour_50 (by decide) ?_
          refine v_iload_n C dX6_addFour_3 rfl 0 rfl ?_
          refine v_if_lt (tgt := 53) C dX6_addFour_4 (by decide) (by decide) (fun c => absurd c (by decide)) (fun _ => ?_)
          refine v_aload_n C dX6_addFour_7 rfl 1 rfl ?_
          refine v_get (v := vI (((f 0) + 1) + 1)) C inw_6 0 1 rfl (by decide) (List.mem_cons_of_mem _ mw_441) rfl rfl dX6_addFour_8 ?_
          refine v_if_lt (tgt := 47) C dX6_addFour_11 (by decide) (by  first | assumption | exact ⟨by omega, by omega⟩) (fun c11 => ?_) (fun c11 => ?_)
          · exact absurd c11 (by omega)
          · skip
            refine v_aload_n C dX6_addFour_14 rfl 1 rfl ?_
            refine v_get (v := vI (((f 0) + 1) + 1)) C inw_6 0 1 rfl (by decide) (List.mem_cons_of_mem _ mw_441) rfl rfl dX6_addFour_15 ?_
            refine v_sipush C dX6_addFour_18 (by decide +kernel) ?_
            refine v_icmp_ge (tgt := 47) C dX6_addFour_21 (by decide) (by  first | assumption | exact ⟨by omega, by omega⟩) (by decide) (fun c21 => ?_) (fun c21 => ?_)
            · exact absurd c21 (by omega)
            · refine v_aload_n C dX6_addFour_24 rfl 1 rfl ?_
              refine v_get (v := .ref b) C inw_6 0 0 rfl (by decide) (List.mem_cons_of_mem _ mw_41) rfl rfl dX6_addFour_25 ?_
              refine v_aload_n C dX6_addFour_28 rfl 1 rfl ?_
              refine v_get (v := vI (((f 0) + 1) + 1)) C inw_6 0 1 rfl (by decide) (List.mem_cons_of_mem _ mw_441) rfl rfl dX6_addFour_29 ?_
              refine v_iload_n C dX6_addFour_32 rfl 2 rfl ?_
              refine v_iload_n C dX6_addFour_33 rfl 0 rfl ?_
              refine v_iushr (z := ((iI v).toUInt32 >>> ((iI 8).toUInt32 &&& Int32.toUInt32 31)).toInt32.toInt) C dX6_addFour_34 (iI_of _).symm ?_
              refine v_i2b (z := e v 8) C dX6_addFour_35 (by rw [← he]; exact u8_b v 8) ?_
              refine v_bast C 1 rfl (by  omega) (by  omega) (by decide) (by rw [← he]; exact u8_nar) dX6_addFour_36 (ws' := (rdW (vG X) a b (up (f) 0 (((f 0) + 1) + 1)) (up (up (up (bu) (f 0) (e v 24)) ((f 0) + 1) (e v 16)) (((f 0) + 1) + 1) (e v 8)))) rfl ?_
              refine v_aload_n C dX6_addFour_37 rfl 1 rfl ?_
              refine v_dup C dX6_addFour_38 rfl ?_
              refine v_get (v := vI (((f 0) + 1) + 1)) C inw_6 0 1 rfl (by decide) (List.mem_cons_of_mem _ mw_441) rfl rfl dX6_addFour_39 ?_
              refine v_iconst C dX6_addFour_42 ?_
              refine v_iadd C dX6_addFour_43 ?_
              refine v_put C inw_6 tyX6 tyX6_ok nmX6 0 1 rfl (by decide) (List.mem_cons_of_mem _ mw_441) rfl rfl rfl rfl (Nat.le_of_ble_eq_true rfl) dX6_addFour_44 (ws' := (rdW (vG X) a b (up (f) 0 ((((f 0) + 1) + 1) + 1)) (up (up (up (bu) (f 0) (e v 24)) ((f 0) + 1) (e v 16)) (((f 0) + 1) + 1) (e v 8)))) rfl ?_
              refine v_iinc C M dX6_addFour_47 0 rfl (by decide) (z' := 0) rfl (L' := [(2, vI 0), (0, .ref a), (1, vI v)]) rfl ?_
              refine v_goto (tgt := 3) C dX6_addFour_50 (by decide) ?_
              refine v_iload_n C dX6_addFour_3 rfl 0 rfl ?_
              refine v_if_lt (tgt := 53) C dX6_addFour_4 (by decide) (by decide) (fun c => absurd c (by decide)) (fun _ => ?_)
              refine v_aload_n C dX6_addFour_7 rfl 1 rfl ?_
              refine v_get (v := vI ((((f 0) + 1) + 1) + 1)) C inw_6 0 1 rfl (by decide) (List.mem_cons_of_mem _ mw_441) rfl rfl dX6_addFour_8 ?_
              refine v_if_lt (tgt := 47) C dX6_addFour_11 (by decide) (by  first | assumption | exact ⟨by omega, by omega⟩) (fun c11 => ?_) (fun c11 => ?_)
              · exact absurd c11 (by omega)
              · skip
                refine v_aload_n C dX6_addFour_14 rfl 1 rfl ?_
                refine v_get (v := vI ((((f 0) + 1) + 1) + 1)) C inw_6 0 1 rfl (by decide) (List.mem_cons_of_mem _ mw_441) rfl rfl dX6_addFour_15 ?_
                refine v_sipush C dX6_addFour_18 (by decide +kernel) ?_
                refine v_icmp_ge (tgt := 47) C dX6_addFour_21 (by decide) (by  first | assumption | exact ⟨by omega, by omega⟩) (by decide) (fun c21 => ?_) (fun c21 => ?_)
                · exact absurd c21 (by omega)
                · refine v_aload_n C dX6_addFour_24 rfl 1 rfl ?_
                  refine v_get (v := .ref b) C inw_6 0 0 rfl (by decide) (List.mem_cons_of_mem _ mw_41) rfl rfl dX6_addFour_25 ?_
                  refine v_aload_n C dX6_addFour_28 rfl 1 rfl ?_
                  refine v_get (v := vI ((((f 0) + 1) + 1) + 1)) C inw_6 0 1 rfl (by decide) (List.mem_cons_of_mem _ mw_441) rfl rfl dX6_addFour_29 ?_
                  refine v_iload_n C dX6_addFour_32 rfl 2 rfl ?_
                  refine v_iload_n C dX6_addFour_33 rfl 0 rfl ?_
                  refine v_iushr (z := ((iI v).toUInt32 >>> ((iI 0).toUInt32 &&& Int32.toUInt32 31)).toInt32.toInt) C dX6_addFour_34 (iI_of _).symm ?_
                  refine v_i2b (z := e v 0) C dX6_addFour_35 (by rw [← he]; exact u8_b v 0) ?_
                  refine v_bast C 1 rfl (by  omega) (by  omega) (by decide) (by rw [← he]; exact u8_nar) dX6_addFour_36 (ws' := (rdW (vG X) a b (up (f) 0 ((((f 0) + 1) + 1) + 1)) (up (up (up (up (bu) (f 0) (e v 24)) ((f 0) + 1) (e v 16)) (((f 0) + 1) + 1) (e v 8)) ((((f 0) + 1) + 1) + 1) (e v 0)))) rfl ?_
                  refine v_aload_n C dX6_addFour_37 rfl 1 rfl ?_
                  refine v_dup C dX6_addFour_38 rfl ?_
                  refine v_get (v := vI ((((f 0) + 1) + 1) + 1)) C inw_6 0 1 rfl (by decide) (List.mem_cons_of_mem _ mw_441) rfl rfl dX6_addFour_39 ?_
                  refine v_iconst C dX6_addFour_42 ?_
                  refine v_iadd C dX6_addFour_43 ?_
                  refine v_put C inw_6 tyX6 tyX6_ok nmX6 0 1 rfl (by decide) (List.mem_cons_of_mem _ mw_441) rfl rfl rfl rfl (Nat.le_of_ble_eq_true rfl) dX6_addFour_44 (ws' := (rdW (vG X) a b (up (f) 0 (((((f 0) + 1) + 1) + 1) + 1)) (up (up (up (up (bu) (f 0) (e v 24)) ((f 0) + 1) (e v 16)) (((f 0) + 1) + 1) (e v 8)) ((((f 0) + 1) + 1) + 1) (e v 0)))) rfl ?_
                  refine v_iinc C M dX6_addFour_47 0 rfl (by decide) (z' := (-8)) rfl (L' := [(2, vI (-8)), (0, .ref a), (1, vI v)]) rfl ?_
                  refine v_goto (tgt := 3) C dX6_addFour_50 (by decide) ?_
                  refine v_iload_n C dX6_addFour_3 rfl 0 rfl ?_
                  refine v_if_lt (tgt := 53) C dX6_addFour_4 (by decide) (by decide) (fun _ => ?_) (fun c => absurd (by decide) c)
                  exact v_vret C E rfl dX6_addFour_53 (by decide) (by decide) (⟨rfl, by rw [show f 0 + 1 + 1 + 1 + 1 = f 0 + 4 by omega, show f 0 + 1 + 1 + 1 = f 0 + 3 by omega, show f 0 + 1 + 1 = f 0 + 2 by omega]⟩)
end C8
