section C27
set_option maxHeartbeats 4000000 in
set_option maxRecDepth 100000 in
theorem c_X7_efficiency (G : GG) (l : Launch) (A : Nat → Nat) (B : Nat → Nat → Nat) (lads : Nat → Nat → Nat) (f bu cf cp ff fp : Int → Int) (Q : Nat → Int → Int → Int) (R : Nat → Int → Int → Int64) (LF : Nat → Int → Int → Int) (LK : Nat → Int → Int → Int64) (z : Int → Int) (hQ : ∀ i, sB 1000000 (Q 0 i)) (h56 : Q 0 5 6 = 0) : Ct G l yX7_efficiency (Cond.code yX7_efficiency cX7_efficiency 3 (some .double) :: wsL_law) 3 65 0 0 [.ref (A 0)] ([((A 0), .inr (7, [.ref (A 1), .ref ((B 0) 0), .ref ((B 1) 0), .ref ((B 2) 0), .ref (A 3), .ref (A 5), .ref (A 8), .ref (A 10), .ref (A 11)]))] ++ (liW G (B 0) (Q 0) (R 0))) (fun r w => r = some (.double (efC (Q 0))) ∧ w = [((A 0), .inr (7, [.ref (A 1), .ref ((B 0) 0), .ref ((B 1) 0), .ref ((B 2) 0), .ref (A 3), .ref (A 5), .ref (A 8), .ref (A 10), .ref (A 11)]))] ++ (liW G (B 0) (Q 0) (R 0))) := by
  refine Ct.of (own := RX7) (cc := cX7_efficiency) (maxL := 3) (ret := (some .double)) (by decide) rfl rfl (Nat.le_of_ble_eq_true rfl) (fun X C E M hG hl => ?_)
  subst hG hl
  refine v_aload_n C dX7_efficiency_0 rfl 0 rfl ?_
  refine v_get (v := .ref ((B 0) 0)) C inw_7 0 1 rfl (by decide) (List.mem_cons_of_mem _ mw_16) rfl rfl dX7_efficiency_1 ?_
  refine v_getN (v := .ref ((B 0) 7)) C inw_3 1 2 rfl (by decide) nw_21 rfl rfl dX7_efficiency_4 ?_
  refine v_bipush C dX7_efficiency_7 (by decide +kernel) ?_
  refine v_iald C 8 rfl (by decide) (by decide) (by decide) dX7_efficiency_9 ?_
  refine v_istore_n C M dX7_efficiency_10 rfl (by decide) (L' := [(1, vI ((Q 0) 5 6)), (0, .ref (A 0))]) rfl ?_
  refine v_iload_n C dX7_efficiency_11 rfl 0 rfl ?_
  refine v_if_gt (tgt := 17) C dX7_efficiency_12 (by decide) (by have := hQ 5 6; first | assumption | exact ⟨by omega, by omega⟩) (fun c12 => ?_) (fun c12 => ?_)
  · skip
    exact absurd c12 (by omega)
  · skip
    refine v_dconst0 C dX7_efficiency_15 ?_
    exact v_dret C E rfl dX7_efficiency_16 (by decide) (by decide) (⟨by rw [show efC (Q 0) = _ from if_pos (Int.not_lt.mp c12)], rfl⟩)
set_option maxHeartbeats 4000000 in
set_option maxRecDepth 100000 in
theorem C_X7_efficiency (G : GG) (l : Launch) (A : Nat → Nat) (B : Nat → Nat → Nat) (lads : Nat → Nat → Nat) (f bu cf cp ff fp : Int → Int) (Q : Nat → Int → Int → Int) (R : Nat → Int → Int → Int64) (LF : Nat → Int → Int → Int) (LK : Nat → Int → Int → Int64) (z : Int → Int) (hQ : ∀ i, sB 1000000 (Q 0 i)) (h56 : Q 0 5 6 = 0) : Ct G l yX7_efficiency (Cond.code yX7_efficiency cX7_efficiency 3 (some .double) :: wsL_law) 3 65 0 0 [.ref (A 0)] (tlW G A B lads f bu cf cp ff fp Q R LF LK z) (fun r w => r = some (.double (efC (Q 0))) ∧ w = (tlW G A B lads f bu cf cp ff fp Q R LF LK z)) := by
  refine Ct.fr (wr := (rdW G (A 1) (A 2) (f) (bu)) ++ (liW G (B 1) (Q 1) (R 1)) ++ (liW G (B 2) (Q 2) (R 2)) ++ (frW G (A 3) (A 4) (cf) (cp)) ++ [((A 5), .inr (0, [.ref ((B 3) 0), .ref ((B 4) 0), .ref (A 6)]))] ++ (liW G (B 3) (Q 3) (R 3)) ++ (liW G (B 4) (Q 4) (R 4)) ++ (frW G (A 6) (A 7) (ff) (fp)) ++ [((A 8), .inr (2, [.ref (A 9), vI (z 0)])), ((A 9), .inl (G.2 4, 10, .inr (.inr (.inr (.inr (fQ (hqF lads)))))))] ++ [((A 10), .inr (4, [.ref ((B 5) 0), vI (z 1)]))] ++ (liW G (B 5) (Q 5) (R 5)) ++ [((A 11), .inr (4, [.ref ((B 6) 0), vI (z 2)]))] ++ (liW G (B 6) (Q 6) (R 6)) ++ (hiLs G lads LF LK 10)) (Sb.bl [0, 2, 1, 3, 4, 5, 6, 7, 8, 9, 10, 11, 12, 13, 14, 15] 16 fl16 (fl_app fl2 fl14) rfl rfl (by decide +kernel)) (c_X7_efficiency G l A B lads f bu cf cp ff fp Q R LF LK z hQ h56) (fun r w1 h => ?_)
  · obtain ⟨rfl, rfl⟩ := h
    exact ⟨_, ⟨rfl, rfl⟩, (Sb.bl [0, 2, 1, 3, 4, 5, 6, 7, 8, 9, 10, 11, 12, 13, 14, 15] 16 (fl_app fl2 fl14) fl16 rfl rfl (by decide +kernel))⟩
end C27
