section LawL
/-- the law's locals -/
abbrev lwL (X : vCx) (A : Nat → Nat) (i : Int) : List (Nat × Value) := [(2, vI i), (1, .ref (A 0)), (0, (.ref ((vG X).1.2 300)))]
abbrev lwC (X : vCx) (c0 : Cond) : Prop := vC X cL_law RL (c0 :: wsL_law) 16 634 600086 7301442
theorem lw_dc : Op.cmpValue (FP.dcmp FP.dconst0 FP.dconst0) .l = iI 0 := by decide +kernel
set_option maxHeartbeats 1000000 in
set_option maxRecDepth 100000 in
/-- a turn of the law's loop -/
theorem law_turn {X : vCx} {c0 : Cond} (C : lwC X c0) (M3 : vM X 3) {A : Nat → Nat} {B : Nat → Nat → Nat} (hst : (vL X).stackTraces = false) {k n : Nat} {i : Int} {F : Int → Int → Int} {K : Int → Int → Int64} {w : va_W} (hk : k + 220 ≤ 600086) (hn : n + 1520 ≤ 7301442) (h0 : 0 ≤ i) (h1 : i < 40) (hw : tlS (vG X) A B F K w) (hI : IN F i)
    (nx : ∀ (F2 : Int → Int → Int) (w2 : va_W), tlS (vG X) A B F2 K w2 → IN F2 (i + 1) → V X (k + 220) (n + 1520) 65 (lwL X A (i + 1)) [] w2) : V X k n 65 (lwL X A i) [] w := by
  refine v_iload_n C dL_law_65 rfl 0 rfl ?_
  refine v_bipush C dL_law_66 (by decide +kernel) ?_
  refine v_icmp_ge (tgt := 121) C dL_law_68 (by decide) ⟨by omega, by omega⟩ (by decide) (fun c => absurd c (by omega)) (fun _ => ?_)
  refine v_aload_n C dL_law_71 rfl 1 rfl ?_
  refine v_callS (na := 1) (wy := (Cond.code yL_isFrame cL_isFrame 8 (some .boolean) :: wsL_law)) (wc := w) (wr := []) C [.ref (A 0)] [] (c_L_isFrame _ _ A B F K w i hst hw hI ⟨by omega, by omega⟩) rfl (gwS mw_559 mw_557 mw_558 mw_213) (by decide +kernel) (hR_k rfl rfl (by omega) (by omega)) rfl Sb.w rfl rfl dL_law_72 (fun r w1 hp => ?_)
  obtain ⟨rfl, hw1⟩ := hp
  refine V.wld (List.append_nil _) ?_
  show V X (k + 80) (n + 600) 75 (lwL X A i) [vI 1] w1
  refine v_if_eq (tgt := 92) C dL_law_75 (by decide) (by decide) (fun c => absurd c (by decide)) (fun _ => ?_)
  refine v_aload_n C dL_law_78 rfl 1 rfl ?_
  obtain ⟨F1, hF1⟩ : ∃ Z, spL K F = Z := ⟨_, rfl⟩
  have hI1 : IN F1 (i + 1) := by rw [← hF1]; exact spL_IN hI h0
  refine v_callS (na := 1) (wy := (Cond.code yL_isStep cL_isStep 11 (some .boolean) :: wsL_law)) (wc := w1) (wr := []) C [.ref (A 0)] [] (c_L_isStep _ _ A B F K w1 i F1 hst hw1 hI ⟨by omega, by omega⟩ hF1) rfl (gwS mw_590 mw_588 mw_589 mw_213) (by decide +kernel) (hR_k rfl rfl (by omega) (by omega)) rfl Sb.w rfl rfl dL_law_79 (fun r w2 hp => ?_)
  obtain ⟨rfl, hw2⟩ := hp
  refine V.wld (List.append_nil _) ?_
  show V X (k + 80 + 60) (n + 600 + 400) 82 (lwL X A i) [vI 1] w2
  refine v_if_eq (tgt := 92) C dL_law_82 (by decide) (by decide) (fun c => absurd c (by decide)) (fun _ => ?_)
  refine v_aload_n C dL_law_85 rfl 1 rfl ?_
  refine v_callS (na := 1) (wy := (Cond.code yL_areBuffers cL_areBuffers 5 (some .boolean) :: wsL_law)) (wc := w2) (wr := []) C [.ref (A 0)] [] (c_L_areBuffers _ _ A B F1 K w2 (i + 1) hst hw2 hI1 ⟨by omega, by omega⟩) rfl (gwS mw_645 mw_643 mw_644 mw_213) (by decide +kernel) (hR_k rfl rfl (by omega) (by omega)) rfl Sb.w rfl rfl dL_law_86 (fun r w3 hp => ?_)
  obtain ⟨rfl, hw3⟩ := hp
  refine V.wld (List.append_nil _) ?_
  show V X (k + 80 + 60 + 60) (n + 600 + 400 + 400) 89 (lwL X A i) [vI 1] w3
  refine v_if_ne (tgt := 94) C dL_law_89 (by decide) (by decide) (fun _ => ?_) (fun c => absurd (show (1 : Int) = 0 by first | exact c | exact Classical.not_not.mp c) (by decide))
  refine v_aload_n C dL_law_94 rfl 2 rfl ?_
  refine v_bipush C dL_law_95 (by decide +kernel) ?_
  refine v_iload_n C dL_law_97 rfl 0 rfl ?_
  refine v_iadd C dL_law_98 ?_
  refine v_iconst C dL_law_99 ?_
  refine v_callS (na := 3) (wy := (Cond.code yL_pick cL_pick 3 (some .int) :: wsL_law)) (wc := []) (wr := w3) C [.ref ((vG X).1.2 300), vI (100 + i), vI 3] [] (c_L_pick _ _ (100 + i) 3 (by omega) (by omega) (by decide) (by decide)) rfl (gwS mw_375 mw_373 mw_374 mw_213) (by decide +kernel) (hR_k rfl rfl (by omega) (by omega)) rfl Sb.rf rfl rfl dL_law_100 (fun r w4 hp => ?_)
  obtain ⟨⟨x, rfl, hx⟩, rfl⟩ := hp
  show V X (k + 80 + 60 + 60) (n + 600 + 400 + 400) 103 (lwL X A i) [vI x] w3
  have fin : ∀ (F2 : Int → Int → Int) (w5 : va_W) (k5 n5 : Nat), k5 ≤ k + 220 → n5 ≤ n + 1520 → tlS (vG X) A B F2 K w5 → IN F2 (i + 1) → V X k5 n5 115 (lwL X A i) [] w5 := by
    intro F2 w5 k5 n5 hk5 hn5 hw5 hI5
    refine v_iinc C M3 dL_law_115 0 rfl (by decide) (z' := i + 1) rfl (L' := lwL X A (i + 1)) rfl ?_
    refine v_goto (tgt := 65) C dL_law_118 (by decide) ?_
    exact V.wid hk5 hn5 (nx F2 w5 hw5 hI5)
  refine v_if_ne (tgt := 115) C dL_law_103 (by decide) ⟨by omega, by omega⟩ (fun _ => ?_) (fun _ => ?_)
  · exact fin F1 w3 _ _ (by omega) (by omega) hw3 hI1
  refine v_aload_n C dL_law_106 rfl 1 rfl ?_
  refine v_callS (na := 1) (wy := (Cond.code yL_readsAll cL_readsAll 3 (some .boolean) :: wsL_law)) (wc := w3) (wr := []) C [.ref (A 0)] [] (c_L_readsAll _ _ A B F1 K w3 (i + 1) hst hw3 hI1 ⟨by omega, by omega⟩) rfl (gwS mw_648 mw_646 mw_647 mw_213) (by decide +kernel) (hR_k rfl rfl (by omega) (by omega)) rfl Sb.w rfl rfl dL_law_107 (fun r w6 hp => ?_)
  obtain ⟨rfl, F2, hw6, hI6, _⟩ := hp
  refine V.wld (List.append_nil _) ?_
  show V X (k + 80 + 60 + 60 + 20) (n + 600 + 400 + 400 + 120) 110 (lwL X A i) [vI 1] w6
  refine v_if_ne (tgt := 115) C dL_law_110 (by decide) (by decide) (fun _ => ?_) (fun c => absurd (show (1 : Int) = 0 by first | exact c | exact Classical.not_not.mp c) (by decide))
  exact fin F2 w6 _ _ (by omega) (by omega) hw6 hI6
set_option maxHeartbeats 1000000 in
set_option maxRecDepth 100000 in
/-- the law's loop: t turns are left -/
theorem law_loop {X : vCx} {c0 : Cond} (C : lwC X c0) (M3 : vM X 3) {A : Nat → Nat} {B : Nat → Nat → Nat} (hst : (vL X).stackTraces = false) (fin : ∀ (k n : Nat) (L' : List (Nat × Value)) (ws : va_W), k ≤ 600086 → n ≤ 7301442 → V X k n 125 L' [vI 1] ws) :
    ∀ (t k n : Nat) (i : Int) (F : Int → Int → Int) (K : Int → Int → Int64) (w : va_W), 0 ≤ i → i + t = 40 → k + 220 * t + 2 ≤ 600086 → n + 1520 * t + 12 ≤ 7301442 → tlS (vG X) A B F K w → IN F i → V X k n 65 (lwL X A i) [] w := by
  intro t
  induction t with
  | zero =>
    intro k n i F K w h0 hi hk hn hw hI
    have e40 : i = 40 := by omega
    subst e40
    refine v_iload_n C dL_law_65 rfl 0 rfl ?_
    refine v_bipush C dL_law_66 (by decide +kernel) ?_
    refine v_icmp_ge (tgt := 121) C dL_law_68 (by decide) (by decide) (by decide) (fun _ => ?_) (fun c => absurd (by decide) c)
    refine v_aload_n C dL_law_121 rfl 1 rfl ?_
    refine v_callSH (na := 1) (wy := (Cond.codeWith yL_refuses cL_refuses 2 (some .boolean) [(0, 7, 8, 118)] :: wsL_law)) (wc := w) (wr := []) C [.ref (A 0)] [] (c_L_refuses _ _ A B F K w 40 hst hw hI ⟨by decide, by decide⟩) rfl (gwS mw_659 mw_657 mw_658 mw_213) (by decide +kernel) (hR_k rfl rfl (by omega) (by omega)) rfl Sb.w rfl rfl dL_law_122 (fun r w1 hp => ?_)
    subst hp
    refine V.wld (List.append_nil _) ?_
    exact fin _ _ _ _ (by omega) (by omega)
  | succ t ih =>
    intro k n i F K w h0 hi hk hn hw hI
    exact law_turn C M3 hst (by omega) (by omega) h0 (by omega) hw hI (fun F2 w2 hw2 hI2 => ih (k + 220) (n + 1520) (i + 1) F2 K w2 (by omega) (by omega) (by omega) (by omega) hw2 hI2)
set_option maxHeartbeats 4000000 in
set_option maxRecDepth 100000 in
/-- the law from its entry -/
theorem lw_begin {X : vCx} {c0 : Cond} (C : lwC X c0) (M3 : vM X 3) (hst : (vL X).stackTraces = false) {b : Nat} (hb : (vG X).1.2 300 = b)
    (fin : ∀ (k n : Nat) (L' : List (Nat × Value)) (ws : va_W), k ≤ 600086 → n ≤ 7301442 → V X k n 125 L' [vI 1] ws) : V X 0 0 0 [(0, .ref b)] [] [] := by
  rw [← hb]
  refine v_new (ci := 7) (fs := [.null, .null, .null, .null, .null, .null, .null, .null, .null]) C inw_7 tyX7 tyX7_ok rfl (List.mem_cons_of_mem _ mw_0) (List.mem_cons_of_mem _ mw_1) (List.mem_cons_of_mem _ mw_2) (fun j hj => by rcases (show j = 0 ∨ j = 1 ∨ j = 2 ∨ j = 3 ∨ j = 4 ∨ j = 5 ∨ j = 6 ∨ j = 7 ∨ j = 8 by omega) with rfl | rfl | rfl | rfl | rfl | rfl | rfl | rfl | rfl <;> rfl) rfl rfl dL_law_0 (fun x => ?_)
  show V X 1 9 3 [(0, .ref ((vG X).1.2 300))] [.ref x] [(x, .inr (7, [.null, .null, .null, .null, .null, .null, .null, .null, .null]))]
  refine v_dup C dL_law_3 rfl ?_
  refine v_callI (ret := none) (na := 0) (wy := (Cond.code yX7_init cX7_init 1 none :: wsL_law)) (wc := [(x, .inr (7, [.null, .null, .null, .null, .null, .null, .null, .null, .null]))]) (wr := []) C [] [.ref x] (c_X7_init (vG X) (vL X) x) rfl (gwI mw_5) (by decide +kernel) (List.mem_cons_of_mem _ mw_2) (List.mem_cons_of_mem _ mw_3) (List.mem_cons_of_mem _ mw_4) rfl rfl rfl Sb.w rfl rfl dL_law_4 (fun r w1 hp => ?_)
  obtain ⟨rfl, A, B, lads, hA0, rfl⟩ := hp
  subst hA0
  refine V.sb (ws' := (tlW (vG X) A B lads (fun _ => 0) (fun _ => 0) (fun _ => 0) (fun _ => 0) (fun _ => 0) (fun _ => 0) (fun _ => liI) (fun _ _ _ => 0) (fun _ => liI) (fun _ _ _ => 0) (fun _ => 0))) (Sb.bl [0] 1 (fl_app fl1 fl0) fl1 rfl rfl (by decide +kernel)) ?_
  show V X 165 3484 7 [(0, .ref ((vG X).1.2 300))] [.ref (A 0)] (tlW (vG X) A B lads (fun _ => 0) (fun _ => 0) (fun _ => 0) (fun _ => 0) (fun _ => 0) (fun _ => 0) (fun _ => liI) (fun _ _ _ => 0) (fun _ => liI) (fun _ _ _ => 0) (fun _ => 0))
  have hw : tlX (vG X) A B 0 (fun _ => 0) liI (fun _ _ => 0) (tlW (vG X) A B lads (fun _ => 0) (fun _ => 0) (fun _ => 0) (fun _ => 0) (fun _ => 0) (fun _ => 0) (fun _ => liI) (fun _ _ _ => 0) (fun _ => liI) (fun _ _ _ => 0) (fun _ => 0)) := ⟨lads, _, _, _, _, _, _, _, _, _, by rw [show up (fun _ => (0 : Int)) 0 0 = (fun _ => 0) from up_id rfl], rfl, rfl, rfl, rfl, rfl, fun _ => Or.inl rfl⟩
  obtain ⟨w, hwE⟩ : ∃ Z, Z = (tlW (vG X) A B lads (fun _ => 0) (fun _ => 0) (fun _ => 0) (fun _ => 0) (fun _ => 0) (fun _ => 0) (fun _ => liI) (fun _ _ _ => 0) (fun _ => liI) (fun _ _ _ => 0) (fun _ => 0)) := ⟨_, rfl⟩
  rw [← hwE] at hw ⊢
  clear hwE
  have hB : ∀ i, sB 1000000 (liI i) := fun i => sB_mono (by decide) (liI_B i)
  refine v_astore_n C M3 dL_law_7 rfl (by decide) (L' := [(1, .ref (A 0)), (0, .ref ((vG X).1.2 300))]) rfl ?_
  refine v_aload_n C dL_law_8 rfl 0 rfl ?_
  refine v_iconst C dL_law_9 ?_
  refine v_callV (na := 1) (wy := (Cond.code yX7_size cX7_size 2 (some .int) :: wsL_law)) (wc := w) (wr := []) C [vI 0] [] (j_size (q := 0) (v := 3) hst hw (by decide) (fun _ => rfl)) rfl (gwV mw_99 mw_96 mw_97 mw_98 mw_2) rfl (by decide +kernel) 0 hw.at0 rfl rfl rfl Sb.w rfl rfl dL_law_10 (fun r w10 hp => ?_)
  obtain ⟨rfl, hw10⟩ := hp
  refine V.wld (List.append_nil _) ?_
  show V X 166 3490 13 [(1, .ref (A 0)), (0, .ref ((vG X).1.2 300))] [vI 3] w10
  refine v_iconst C dL_law_13 ?_
  refine v_icmp_ne (tgt := 61) C dL_law_14 (by decide) (by decide) (by decide) (fun c => absurd rfl c) (fun _ => ?_)
  refine v_aload_n C dL_law_17 rfl 0 rfl ?_
  refine v_iconst C dL_law_18 ?_
  refine v_callV (na := 1) (wy := (Cond.code yX7_size cX7_size 2 (some .int) :: wsL_law)) (wc := w10) (wr := []) C [vI 1] [] (j_size (q := 1) (v := 20) hst hw10 (by decide) (fun _ => rfl)) rfl (gwV mw_99 mw_96 mw_97 mw_98 mw_2) rfl (by decide +kernel) 0 hw10.at0 rfl rfl rfl Sb.w rfl rfl dL_law_19 (fun r w19 hp => ?_)
  obtain ⟨rfl, hw19⟩ := hp
  refine V.wld (List.append_nil _) ?_
  show V X 167 3496 22 [(1, .ref (A 0)), (0, .ref ((vG X).1.2 300))] [vI 20] w19
  refine v_bipush C dL_law_22 (by decide +kernel) ?_
  refine v_icmp_ne (tgt := 61) C dL_law_24 (by decide) (by decide) (by decide) (fun c => absurd rfl c) (fun _ => ?_)
  refine v_aload_n C dL_law_27 rfl 0 rfl ?_
  refine v_iconst C dL_law_28 ?_
  refine v_callV (na := 1) (wy := (Cond.code yX7_next cX7_next 2 (some .int) :: wsL_law)) (wc := w19) (wr := []) C [vI 0] [] (j_next (q := 0) (v := 1) hst hw19 (by decide) (by unfold nxC; rw [if_pos rfl, if_neg liI_nd]) hB (Or.inl rfl) (fun h => absurd h liI_nd)) rfl (gwV mw_109 mw_106 mw_107 mw_108 mw_2) rfl (by decide +kernel) 0 hw19.at0 rfl rfl rfl Sb.w rfl rfl dL_law_29 (fun r w29 hp => ?_)
  obtain ⟨rfl, hw29⟩ := hp
  refine V.wld (List.append_nil _) ?_
  show V X 168 3502 32 [(1, .ref (A 0)), (0, .ref ((vG X).1.2 300))] [vI 1] w29
  refine v_iconst C dL_law_32 ?_
  refine v_icmp_ne (tgt := 61) C dL_law_33 (by decide) (by decide) (by decide) (fun c => absurd rfl c) (fun _ => ?_)
  refine v_aload_n C dL_law_36 rfl 0 rfl ?_
  refine v_callV (na := 0) (wy := (Cond.code yX7_undo cX7_undo 1 (some .int) :: wsL_law)) (wc := w29) (wr := []) C [] [] (j_undo hst hw29) rfl (gwV mw_170 mw_167 mw_168 mw_169 mw_2) rfl (by decide +kernel) 0 hw29.at0 rfl rfl rfl Sb.w rfl rfl dL_law_37 (fun r w37 hp => ?_)
  obtain ⟨rfl, hw37⟩ := hp
  refine V.wld (List.append_nil _) ?_
  show V X 168 3502 40 [(1, .ref (A 0)), (0, .ref ((vG X).1.2 300))] [vI (-1)] w37
  refine v_iconst C dL_law_40 ?_
  refine v_icmp_ne (tgt := 61) C dL_law_41 (by decide) (by decide) (by decide) (fun c => absurd rfl c) (fun _ => ?_)
  refine v_aload_n C dL_law_44 rfl 0 rfl ?_
  refine v_callV (na := 0) (wy := (Cond.code yX7_efficiency cX7_efficiency 3 (some .double) :: wsL_law)) (wc := w37) (wr := []) C [] [] (j_efficiency hst hw37 hB rfl) rfl (gwV mw_205 mw_202 mw_203 mw_204 mw_2) rfl (by decide +kernel) 0 hw37.at0 rfl rfl rfl Sb.w rfl rfl dL_law_45 (fun r w45 hp => ?_)
  obtain ⟨rfl, hw45⟩ := hp
  refine V.wld (List.append_nil _) ?_
  show V X 168 3502 48 [(1, .ref (A 0)), (0, .ref ((vG X).1.2 300))] [.double FP.dconst0] w45
  refine v_dconst0 C dL_law_48 ?_
  refine v_dcmp C dL_law_49 ?_
  rw [lw_dc]
  refine v_if_ne (tgt := 61) C dL_law_50 (by decide) (by decide) (fun c => absurd rfl c) (fun _ => ?_)
  refine v_aload_n C dL_law_53 rfl 0 rfl ?_
  refine v_aload_n C dL_law_54 rfl 1 rfl ?_
  refine v_callS (na := 2) (wy := (Cond.code yL_begins cL_begins 9 (some .boolean) :: wsL_law)) (wc := w45) (wr := []) C [.ref (A 0), .ref ((vG X).1.2 300)] [] (c_L_begins _ _ A B liI (fun _ _ => 0) w45 hst hw45) rfl (gwS mw_214 mw_211 mw_212 mw_213) (by decide +kernel) rfl rfl Sb.w rfl rfl dL_law_55 (fun r w55 hp => ?_)
  obtain ⟨rfl, F2, K2, hw55, hI55⟩ := hp
  refine V.wld (List.append_nil _) ?_
  show V X 568 403502 58 [(1, .ref (A 0)), (0, .ref ((vG X).1.2 300))] [vI 1] w55
  refine v_if_ne (tgt := 63) C dL_law_58 (by decide) (by decide) (fun _ => ?_) (fun c => absurd (show (1 : Int) = 0 by first | exact c | exact Classical.not_not.mp c) (by decide))
  refine v_iconst C dL_law_63 ?_
  refine v_istore_n C M3 dL_law_64 rfl (by decide) (L' := lwL X A 0) rfl ?_
  exact law_loop C M3 hst fin 40 568 403502 0 F2 K2 w55 (by decide) (by decide) (by decide) (by decide) hw55 hI55
end LawL
