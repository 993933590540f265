section K3
set_option maxHeartbeats 4000000 in
set_option maxRecDepth 100000 in
theorem c_L_isFrame (G : GG) (l : Launch) (A : Nat → Nat) (B : Nat → Nat → Nat) (F : Int → Int → Int) (K : Int → Int → Int64) (w : va_W) (n : Int) (hst : l.stackTraces = false) (hw : tlS G A B F K w) (hI : IN F n) (hn : 0 ≤ n ∧ n ≤ 60) : Ct G l yL_isFrame (Cond.code yL_isFrame cL_isFrame 8 (some .boolean) :: wsL_law) 8 134 80 600 [.ref (A 0)] (w) (fun r w' => r = some (vI 1) ∧ tlS G A B F K w') := by
  refine Ct.of (own := RL) (cc := cL_isFrame) (maxL := 8) (ret := (some .boolean)) (by decide) rfl rfl (Nat.le_of_ble_eq_true rfl) (fun X C E M hG hl => ?_)
  subst hG hl
  have hB := hI.B6 (by omega)
  have hT := hI.1.1
  have hT2 : 0 ≤ F 0 1 ∧ F 0 1 ≤ 1 := by omega
  have hdd := dlL_in hI
  have hd2 := hdd.2.2
  have hFR := fr_facts (K := K) hI
  obtain ⟨li, hl1, hl2⟩ := LSp_all (f := pbL F K) (N := 7 + dlL F) (by omega)
  have hn3 : nxC K F 3 = 2 + (7 + dlL F) + escI (pbL F K) (7 + dlL F) := rfl
  have NB : ∀ q v : Int, (∀ li : Int → Int, LSp li (pbL F K) (7 + dlL F) → li (1 + (7 + dlL F) + escI (pbL F K) (7 + dlL F)) = 126 → v = if 0 ≤ q ∧ q ≤ (1 + (7 + dlL F) + escI (pbL F K) (7 + dlL F)) then li q else -1) → v = if 0 ≤ q ∧ q ≤ (1 + (7 + dlL F) + escI (pbL F K) (7 + dlL F)) then li q else -1 := fun q v h => h li hl1 hl2
  obtain ⟨nn, hnn⟩ : ∃ nn, nn = nxC K F 3 := ⟨_, rfl⟩
  rw [← hnn] at hn3
  obtain ⟨p, hp⟩ : ∃ p, p = pbL F K := ⟨_, rfl⟩
  obtain ⟨N, hN⟩ : ∃ N, N = 7 + dlL F := ⟨_, rfl⟩
  rw [← hp, ← hN] at hFR hl1 hl2 hn3
  have NB2 : ∀ q v : Int, (∀ li : Int → Int, LSp li (pbL F K) (7 + dlL F) → li (1 + (7 + dlL F) + escI (pbL F K) (7 + dlL F)) = 126 → v = if 0 ≤ q ∧ q ≤ (1 + (7 + dlL F) + escI (pbL F K) (7 + dlL F)) then li q else -1) → v = if 0 ≤ q ∧ q ≤ 1 + N + escI p N then li q else -1 := fun q v h => by rw [hp, hN]; exact NB q v h
  clear NB
  obtain ⟨⟨n7, n15⟩, pb, p0, p1, p2, p3, p4, p5, psum, pturn, pd1, pd2⟩ := hFR
  have hes := escI_in (f := p) (k := N) (by omega)
  refine v_aload_n C dL_isFrame_0 rfl 0 rfl ?_
  refine v_iconst C dL_isFrame_1 ?_
  refine v_callV (na := 1) (wy := (Cond.code yX7_next cX7_next 2 (some .int) :: wsL_law)) (wc := w) (wr := []) C [vI 3] [] (k_next (q := 3) (v := nn) hst hw (by decide) hnn.symm hB hT hd2) rfl (gwV mw_109 mw_106 mw_107 mw_108 mw_2) rfl (by decide +kernel) 0 hw.at0 rfl rfl rfl Sb.w rfl rfl dL_isFrame_2 (fun r w1 hp2 => ?_)
  obtain ⟨rfl, hw1⟩ := hp2
  refine V.wld (List.append_nil _) ?_
  show V X 1 6 5 [(0, .ref (A 0))] [vI nn] (w1)
  refine v_istore_n C M dL_isFrame_5 rfl (by decide) (L' := [(1, vI nn), (0, .ref (A 0))]) rfl ?_
  refine v_aload_n C dL_isFrame_6 rfl 1 rfl ?_
  refine v_iconst C dL_isFrame_7 ?_
  refine v_callV (na := 1) (wy := (Cond.code yX7_nextByte cX7_nextByte 2 (some .int) :: wsL_law)) (wc := w1) (wr := []) C [vI 0] [] (k_nextByte (q := 0) hst hw1 (by first | assumption | exact ⟨by omega, by omega⟩) hB hT hd2) rfl (gwV mw_563 mw_560 mw_561 mw_562 mw_2) rfl (by decide +kernel) 0 hw1.at0 rfl rfl rfl Sb.w rfl rfl dL_isFrame_8 (fun r w2 hp8 => ?_)
  obtain ⟨v8_1, rfl, hw2, hv⟩ := hp8
  refine V.wld (List.append_nil _) ?_
  show V X 1 6 11 [(1, vI nn), (0, .ref (A 0))] [vI v8_1] (w2)
  have ev := NB2 0 v8_1 hv
  clear hv
  rw [if_pos ⟨by omega, by omega⟩, hl1.1] at ev
  subst ev
  show V X 1 6 11 [(1, vI nn), (0, .ref (A 0))] [vI 126] (w2)
  refine v_bipush C dL_isFrame_11 (by decide +kernel) ?_
  refine v_icmp_ne (tgt := 37) C dL_isFrame_13 (by decide) (by decide) (by decide) (fun c => absurd (by decide) c) (fun _ => ?_)
  refine v_aload_n C dL_isFrame_16 rfl 1 rfl ?_
  refine v_iload_n C dL_isFrame_17 rfl 0 rfl ?_
  refine v_iconst C dL_isFrame_18 ?_
  refine v_isub C dL_isFrame_19 ?_
  refine v_callV (na := 1) (wy := (Cond.code yX7_nextByte cX7_nextByte 2 (some .int) :: wsL_law)) (wc := w2) (wr := []) C [vI (nn - 1)] [] (k_nextByte (q := (nn - 1)) hst hw2 (by first | assumption | exact ⟨by omega, by omega⟩) hB hT hd2) rfl (gwV mw_563 mw_560 mw_561 mw_562 mw_2) rfl (by decide +kernel) 0 hw2.at0 rfl rfl rfl Sb.w rfl rfl dL_isFrame_20 (fun r w3 hp20 => ?_)
  obtain ⟨v20_2, rfl, hw3, hv⟩ := hp20
  refine V.wld (List.append_nil _) ?_
  show V X 1 6 23 [(1, vI nn), (0, .ref (A 0))] [vI v20_2] (w3)
  have ev := NB2 (nn - 1) v20_2 hv
  clear hv
  rw [if_pos ⟨by omega, by omega⟩, show (nn - 1) = 1 + N + escI p N by omega, hl2] at ev
  subst ev
  show V X 1 6 23 [(1, vI nn), (0, .ref (A 0))] [vI 126] (w3)
  refine v_bipush C dL_isFrame_23 (by decide +kernel) ?_
  refine v_icmp_ne (tgt := 37) C dL_isFrame_25 (by decide) (by decide) (by decide) (fun c => absurd (by decide) c) (fun _ => ?_)
  refine v_aload_n C dL_isFrame_28 rfl 1 rfl ?_
  refine v_iload_n C dL_isFrame_29 rfl 0 rfl ?_
  refine v_callV (na := 1) (wy := (Cond.code yX7_nextByte cX7_nextByte 2 (some .int) :: wsL_law)) (wc := w3) (wr := []) C [vI nn] [] (k_nextByte (q := nn) hst hw3 (by first | assumption | exact ⟨by omega, by omega⟩) hB hT hd2) rfl (gwV mw_563 mw_560 mw_561 mw_562 mw_2) rfl (by decide +kernel) 0 hw3.at0 rfl rfl rfl Sb.w rfl rfl dL_isFrame_30 (fun r w4 hp30 => ?_)
  obtain ⟨v30_3, rfl, hw4, hv⟩ := hp30
  refine V.wld (List.append_nil _) ?_
  show V X 1 6 33 [(1, vI nn), (0, .ref (A 0))] [vI v30_3] (w4)
  have ev := NB2 nn v30_3 hv
  clear hv
  rw [if_neg (by omega)] at ev
  subst ev
  show V X 1 6 33 [(1, vI nn), (0, .ref (A 0))] [vI (-1)] (w4)
  refine v_iconst C dL_isFrame_33 ?_
  refine v_icmp_eq (tgt := 39) C dL_isFrame_34 (by decide) (by decide) (by decide) (fun _ => ?_) (fun c => absurd (by decide) c)
  refine v_bipush C dL_isFrame_39 (by decide +kernel) ?_
  refine v_newI C (List.mem_cons_of_mem _ mw_51) (by decide) (by decide) (N' := 20) rfl rfl rfl rfl dL_isFrame_41 (fun q => ?_)
  refine V.sb (ws' := [(q, .inl ((vG X).2 1, 20, .inl (fI (fun _ => 0))))] ++ w4) (Sb.bl [1, 0] 2 fl2 fl2 rfl rfl (by decide +kernel)) ?_
  show V X 2 26 43 [(1, vI nn), (0, .ref (A 0))] [.ref q] ([(q, .inl ((vG X).2 1, 20, .inl (fI (fun _ => 0))))] ++ w4)
  refine v_astore_n C M dL_isFrame_43 rfl (by decide) (L' := [(2, .ref q), (1, vI nn), (0, .ref (A 0))]) rfl ?_
  refine v_iconst C dL_isFrame_44 ?_
  refine v_istore_n C M dL_isFrame_45 rfl (by decide) (L' := [(3, vI 0), (2, .ref q), (1, vI nn), (0, .ref (A 0))]) rfl ?_
  refine v_iconst C dL_isFrame_46 ?_
  refine v_istore C M dL_isFrame_47 (by decide) (L' := [(4, vI 1), (3, vI 0), (2, .ref q), (1, vI nn), (0, .ref (A 0))]) rfl ?_
  refine V.loc (L' := [(0, .ref (A 0)), (1, vI nn), (2, .ref q), (3, vI 0), (4, vI 1)]) [4, 3, 2, 1, 0] rfl ?_
  have lp1 : ∀ (n : Nat) (j : Nat) (g : Int → Int) (wl : va_W) (hwl : tlS (vG X) A B F K wl) (hj : (j : Int) ≤ N) (hg : ∀ i : Int, 0 ≤ i → i < (j : Int) → g i = p i) (hm : N - (j : Int) < (n : Int)), V X 2 26 49 [(0, .ref (A 0)), (1, vI nn), (2, .ref q), (3, vI (j : Int)), (4, vI (1 + (j : Int) + escI p (j : Int)))] [] ([(q, .inl ((vG X).2 1, 20, .inl (fI g)))] ++ wl) := by
    intro n
    induction n with
    | zero => intro j g wl hwl hj hg hm; exact absurd hm (by omega)
    | succ n ih =>
      intro j g wl hwl hj hg hm
      have hej := escI_in (f := p) (k := (j : Int)) (by omega)
      have hem := escI_mono (f := p) (j := (j : Int)) (k := N) (by omega) hj
      refine v_iload C dL_isFrame_49 4 rfl ?_
      refine v_iload_n C dL_isFrame_51 rfl 1 rfl ?_
      refine v_iconst C dL_isFrame_52 ?_
      refine v_isub C dL_isFrame_53 ?_
      refine v_icmp_ge (tgt := 109) C dL_isFrame_54 (by decide) (by  first | assumption | exact ⟨by omega, by omega⟩) (by  first | assumption | exact ⟨by omega, by omega⟩) (fun c54 => ?_) (fun c54 => ?_)
      · skip
        have hjN : (j : Int) = N := by omega
        have gB : ∀ i : Int, 0 ≤ i → i < N → 0 ≤ g i ∧ g i < 256 := fun i h0 h1 => by rw [hg i h0 (by omega)]; exact pb i
        have gp : ∀ i : Int, 0 ≤ i → i < N → g i = p i := fun i h0 h1 => hg i h0 (by omega)
        refine V.eq rfl rfl rfl (L' := [(0, .ref (A 0)), (1, vI nn), (2, .ref q), (3, vI N), (4, vI (1 + N + escI p N))]) (by rw [hjN]) rfl rfl ?_
        refine v_iconst C dL_isFrame_109 ?_
        refine v_istore C M dL_isFrame_110 (by decide) (L' := [(4, vI 0), (0, .ref (A 0)), (1, vI nn), (2, .ref q), (3, vI N)]) rfl ?_
        refine v_iconst C dL_isFrame_112 ?_
        refine v_istore C M dL_isFrame_113 (by decide) (L' := [(5, vI 0), (4, vI 0), (0, .ref (A 0)), (1, vI nn), (2, .ref q), (3, vI N)]) rfl ?_
        refine V.loc (L' := [(0, .ref (A 0)), (1, vI nn), (2, .ref q), (3, vI N), (4, vI 0), (5, vI 0)]) [2, 3, 4, 5, 1, 0] rfl ?_
        have lp2 : ∀ (n : Nat) (i : Nat) (hi : (i : Int) ≤ N - 1) (hm : N - (i : Int) < (n : Int)), V X 2 26 115 [(0, .ref (A 0)), (1, vI nn), (2, .ref q), (3, vI N), (4, vI (sumI p (i : Int))), (5, vI (i : Int))] [] ([(q, .inl ((vG X).2 1, 20, .inl (fI g)))] ++ wl) := by
          intro n
          induction n with
          | zero => intro i hi hm; exact absurd hm (by omega)
          | succ n ih =>
            intro i hi hm
            have hsb := sumI_B pb i
            refine v_iload C dL_isFrame_115 5 rfl ?_
            refine v_iload_n C dL_isFrame_117 rfl 3 rfl ?_
            refine v_iconst C dL_isFrame_118 ?_
            refine v_isub C dL_isFrame_119 ?_
            refine v_icmp_ge (tgt := 138) C dL_isFrame_120 (by decide) (by  first | assumption | exact ⟨by omega, by omega⟩) (by  first | assumption | exact ⟨by omega, by omega⟩) (fun c120 => ?_) (fun c120 => ?_)
            · skip
              have hiN : (i : Int) = N - 1 := by omega
              refine V.eq rfl rfl rfl (L' := [(0, .ref (A 0)), (1, vI nn), (2, .ref q), (3, vI N), (4, vI (sumI p (N - 1))), (5, vI (N - 1))]) (by rw [hiN]) rfl rfl ?_
              rw [hiN] at hsb
              have g0 := gp 0 (by decide) (by omega)
              have g1 := gp 1 (by decide) (by omega)
              have g2 := gp 2 (by decide) (by omega)
              have g3 := gp 3 (by decide) (by omega)
              have g4 := gp 4 (by decide) (by omega)
              have g5 := gp 5 (by decide) (by omega)
              have gs := gp (N - 1) (by omega) (by omega)
              have s1 := hI.2.1.1
              have s2 := hI.2.1.2
              unfold ST at s1 s2
              have n0 : nxC K F 0 = if isDL F then 0 else 1 := rfl
              have n01 : nxC K F 0 = 0 ∨ nxC K F 0 = 1 := by rw [n0]; split; exact Or.inl rfl; exact Or.inr rfl
              have n2b : 0 ≤ nxC K F 2 ∧ nxC K F 2 < 1000000 := by
                by_cases hd : isDL F
                · have := pd1 hd; omega
                · have e2 : nxC K F 2 = stL F 9 := by show nuL F = _; unfold nuL; rw [if_neg hd]
                  rw [e2]; have a := hB 1 9; have b := hB 2 9; unfold stL; split <;> omega
              have hBt := hB (1 + F 0 1)
              have bt1 := hBt 1
              have bt2 := hBt 2
              have bt3 := hBt 3
              have bt4 := hBt 4
              have bt5 := hBt 5
              refine v_aload_n C dL_isFrame_138 rfl 0 rfl ?_
              refine v_iconst C dL_isFrame_139 ?_
              refine v_callV (na := 1) (wy := (Cond.code yX7_size cX7_size 2 (some .int) :: wsL_law)) (wc := wl) (wr := [(q, .inl ((vG X).2 1, 20, .inl (fI g)))]) C [vI 3] [] (k_size (q := 3) (v := (F 0 1)) hst hwl (by decide) (fun _ => rfl)) rfl (gwV mw_99 mw_96 mw_97 mw_98 mw_2) rfl (by decide +kernel) 0 hwl.at0 rfl rfl rfl (Sb.bl [1, 0] 2 fl2 fl2 rfl rfl (by decide +kernel)) rfl rfl dL_isFrame_140 (fun r w5 hp140 => ?_)
              obtain ⟨rfl, hw5⟩ := hp140
              refine V.sb (ws' := [(q, .inl ((vG X).2 1, 20, .inl (fI g)))] ++ w5) (Sb.bl [1, 0] 2 fl2 fl2 rfl rfl (by decide +kernel)) ?_
              show V X 3 32 143 [(0, .ref (A 0)), (1, vI nn), (2, .ref q), (3, vI N), (4, vI (sumI p (N - 1))), (5, vI (N - 1))] [vI (F 0 1)] ([(q, .inl ((vG X).2 1, 20, .inl (fI g)))] ++ w5)
              refine v_istore C M dL_isFrame_143 (by decide) (L' := [(5, vI (F 0 1)), (0, .ref (A 0)), (1, vI nn), (2, .ref q), (3, vI N), (4, vI (sumI p (N - 1)))]) rfl ?_
              refine v_iload C dL_isFrame_145 5 rfl ?_
              refine v_sipush C dL_isFrame_147 (by decide +kernel) ?_
              refine v_iand C dL_isFrame_150 (iI_and255 (sumI p (N - 1))) ?_
              refine v_aload_n C dL_isFrame_151 rfl 3 rfl ?_
              refine v_iload_n C dL_isFrame_152 rfl 4 rfl ?_
              refine v_iconst C dL_isFrame_153 ?_
              refine v_isub C dL_isFrame_154 ?_
              refine v_iald C 0 rfl (by omega) (show N - 1 < 20 by omega) (by decide) dL_isFrame_155 ?_
              show V X 3 32 156 [(5, vI (F 0 1)), (0, .ref (A 0)), (1, vI nn), (2, .ref q), (3, vI N), (4, vI (sumI p (N - 1)))] [vI (g (N - 1)), vI ((sumI p (N - 1)) % 256)] ([(q, .inl ((vG X).2 1, 20, .inl (fI g)))] ++ w5)
              refine v_icmp_ne (tgt := 203) C dL_isFrame_156 (by decide) (by  first | assumption | exact ⟨by omega, by omega⟩) (by have := gB (N - 1) (by omega) (by omega); first | assumption | exact ⟨by omega, by omega⟩) (fun c => absurd ((show _ = _ from by rw [gs, psum])) c) (fun _ => ?_)
              refine v_aload_n C dL_isFrame_159 rfl 3 rfl ?_
              refine v_iconst C dL_isFrame_160 ?_
              refine v_iald C 0 rfl (by decide) (by decide) (by decide) dL_isFrame_161 ?_
              refine v_aload_n C dL_isFrame_162 rfl 1 rfl ?_
              refine v_iconst C dL_isFrame_163 ?_
              refine v_callV (na := 1) (wy := (Cond.code yX7_next cX7_next 2 (some .int) :: wsL_law)) (wc := w5) (wr := [(q, .inl ((vG X).2 1, 20, .inl (fI g)))]) C [vI 0] [vI ( g 0)] (k_next (q := 0) (v := (nxC K F 0)) hst hw5 (by decide) rfl hB hT hd2) rfl (gwV mw_109 mw_106 mw_107 mw_108 mw_2) rfl (by decide +kernel) 0 hw5.at0 rfl rfl rfl (Sb.bl [1, 0] 2 fl2 fl2 rfl rfl (by decide +kernel)) rfl rfl dL_isFrame_164 (fun r w6 hp164 => ?_)
              obtain ⟨rfl, hw6⟩ := hp164
              refine V.sb (ws' := [(q, .inl ((vG X).2 1, 20, .inl (fI g)))] ++ w6) (Sb.bl [1, 0] 2 fl2 fl2 rfl rfl (by decide +kernel)) ?_
              show V X 4 38 167 [(5, vI (F 0 1)), (0, .ref (A 0)), (1, vI nn), (2, .ref q), (3, vI N), (4, vI (sumI p (N - 1)))] [vI (nxC K F 0), vI ( g 0)] ([(q, .inl ((vG X).2 1, 20, .inl (fI g)))] ++ w6)
              refine v_iconst C dL_isFrame_167 ?_
              refine v_iload C dL_isFrame_168 0 rfl ?_
              refine v_imul C dL_isFrame_170 ?_
              refine v_iadd C dL_isFrame_171 ?_
              refine v_icmp_ne (tgt := 203) C dL_isFrame_172 (by decide) (by  first | assumption | exact ⟨by omega, by omega⟩) (by have := hB 0 1; first | assumption | exact ⟨by omega, by omega⟩) (fun c => absurd ((show _ = _ by omega)) c) (fun _ => ?_)
              refine v_aload_n C dL_isFrame_175 rfl 3 rfl ?_
              refine v_iconst C dL_isFrame_176 ?_
              refine v_iald C 0 rfl (by decide) (by decide) (by decide) dL_isFrame_177 ?_
              refine v_aload_n C dL_isFrame_178 rfl 1 rfl ?_
              refine v_iconst C dL_isFrame_179 ?_
              refine v_callV (na := 1) (wy := (Cond.code yX7_next cX7_next 2 (some .int) :: wsL_law)) (wc := w6) (wr := [(q, .inl ((vG X).2 1, 20, .inl (fI g)))]) C [vI 2] [vI ( g 1)] (k_next (q := 2) (v := (nxC K F 2)) hst hw6 (by decide) rfl hB hT hd2) rfl (gwV mw_109 mw_106 mw_107 mw_108 mw_2) rfl (by decide +kernel) 0 hw6.at0 rfl rfl rfl (Sb.bl [1, 0] 2 fl2 fl2 rfl rfl (by decide +kernel)) rfl rfl dL_isFrame_180 (fun r w7 hp180 => ?_)
              obtain ⟨rfl, hw7⟩ := hp180
              refine V.sb (ws' := [(q, .inl ((vG X).2 1, 20, .inl (fI g)))] ++ w7) (Sb.bl [1, 0] 2 fl2 fl2 rfl rfl (by decide +kernel)) ?_
              show V X 5 44 183 [(5, vI (F 0 1)), (0, .ref (A 0)), (1, vI nn), (2, .ref q), (3, vI N), (4, vI (sumI p (N - 1)))] [vI (nxC K F 2), vI ( g 1)] ([(q, .inl ((vG X).2 1, 20, .inl (fI g)))] ++ w7)
              refine v_sipush C dL_isFrame_183 (by decide +kernel) ?_
              refine v_iand C dL_isFrame_186 (iI_and255 (nxC K F 2)) ?_
              refine v_icmp_ne (tgt := 203) C dL_isFrame_187 (by decide) (by  first | assumption | exact ⟨by omega, by omega⟩) (by  first | assumption | exact ⟨by omega, by omega⟩) (fun c => absurd ((show _ = _ by omega)) c) (fun _ => ?_)
              refine v_aload_n C dL_isFrame_190 rfl 3 rfl ?_
              refine v_iconst C dL_isFrame_191 ?_
              refine v_iald C 0 rfl (by decide) (by decide) (by decide) dL_isFrame_192 ?_
              refine v_aload_n C dL_isFrame_193 rfl 1 rfl ?_
              refine v_iload C dL_isFrame_194 0 rfl ?_
              refine v_iconst C dL_isFrame_196 ?_
              refine v_callV (na := 2) (wy := (Cond.code yX7_station cX7_station 3 (some .int) :: wsL_law)) (wc := w7) (wr := [(q, .inl ((vG X).2 1, 20, .inl (fI g)))]) C [vI (F 0 1), vI 1] [vI ( g 2)] (k_station (s := (F 0 1)) (q := 1) hst hw7 hT2 (by decide)) rfl (gwV mw_571 mw_568 mw_569 mw_570 mw_2) rfl (by decide +kernel) 0 hw7.at0 rfl rfl rfl (Sb.bl [1, 0] 2 fl2 fl2 rfl rfl (by decide +kernel)) rfl rfl dL_isFrame_197 (fun r w8 hp197 => ?_)
              obtain ⟨rfl, hw8⟩ := hp197
              refine V.sb (ws' := [(q, .inl ((vG X).2 1, 20, .inl (fI g)))] ++ w8) (Sb.bl [1, 0] 2 fl2 fl2 rfl rfl (by decide +kernel)) ?_
              show V X 7 56 200 [(5, vI (F 0 1)), (0, .ref (A 0)), (1, vI nn), (2, .ref q), (3, vI N), (4, vI (sumI p (N - 1)))] [vI (F (1 + (F 0 1)) 1), vI ( g 2)] ([(q, .inl ((vG X).2 1, 20, .inl (fI g)))] ++ w8)
              refine v_icmp_eq (tgt := 205) C dL_isFrame_200 (by decide) (by  first | assumption | exact ⟨by omega, by omega⟩) (by have := hB (1 + (F 0 1)) 1; first | assumption | exact ⟨by omega, by omega⟩) (fun _ => ?_) (fun c => absurd ((show _ = _ by omega)) c)
              refine v_aload_n C dL_isFrame_205 rfl 3 rfl ?_
              refine v_iconst C dL_isFrame_206 ?_
              refine v_iald C 0 rfl (by decide) (by decide) (by decide) dL_isFrame_207 ?_
              refine v_aload_n C dL_isFrame_208 rfl 1 rfl ?_
              refine v_iload C dL_isFrame_209 0 rfl ?_
              refine v_iconst C dL_isFrame_211 ?_
              refine v_callV (na := 2) (wy := (Cond.code yX7_station cX7_station 3 (some .int) :: wsL_law)) (wc := w8) (wr := [(q, .inl ((vG X).2 1, 20, .inl (fI g)))]) C [vI (F 0 1), vI 2] [vI ( g 3)] (k_station (s := (F 0 1)) (q := 2) hst hw8 hT2 (by decide)) rfl (gwV mw_571 mw_568 mw_569 mw_570 mw_2) rfl (by decide +kernel) 0 hw8.at0 rfl rfl rfl (Sb.bl [1, 0] 2 fl2 fl2 rfl rfl (by decide +kernel)) rfl rfl dL_isFrame_212 (fun r w9 hp212 => ?_)
              obtain ⟨rfl, hw9⟩ := hp212
              refine V.sb (ws' := [(q, .inl ((vG X).2 1, 20, .inl (fI g)))] ++ w9) (Sb.bl [1, 0] 2 fl2 fl2 rfl rfl (by decide +kernel)) ?_
              show V X 9 68 215 [(5, vI (F 0 1)), (0, .ref (A 0)), (1, vI nn), (2, .ref q), (3, vI N), (4, vI (sumI p (N - 1)))] [vI (F (1 + (F 0 1)) 2), vI ( g 3)] ([(q, .inl ((vG X).2 1, 20, .inl (fI g)))] ++ w9)
              refine v_aload_n C dL_isFrame_215 rfl 1 rfl ?_
              refine v_iload C dL_isFrame_216 0 rfl ?_
              refine v_iconst C dL_isFrame_218 ?_
              refine v_callV (na := 2) (wy := (Cond.code yX7_station cX7_station 3 (some .int) :: wsL_law)) (wc := w9) (wr := [(q, .inl ((vG X).2 1, 20, .inl (fI g)))]) C [vI (F 0 1), vI 3] [vI (F (1 + (F 0 1)) 2), vI ( g 3)] (k_station (s := (F 0 1)) (q := 3) hst hw9 hT2 (by decide)) rfl (gwV mw_571 mw_568 mw_569 mw_570 mw_2) rfl (by decide +kernel) 0 hw9.at0 rfl rfl rfl (Sb.bl [1, 0] 2 fl2 fl2 rfl rfl (by decide +kernel)) rfl rfl dL_isFrame_219 (fun r w10 hp219 => ?_)
              obtain ⟨rfl, hw10⟩ := hp219
              refine V.sb (ws' := [(q, .inl ((vG X).2 1, 20, .inl (fI g)))] ++ w10) (Sb.bl [1, 0] 2 fl2 fl2 rfl rfl (by decide +kernel)) ?_
              show V X 11 80 222 [(5, vI (F 0 1)), (0, .ref (A 0)), (1, vI nn), (2, .ref q), (3, vI N), (4, vI (sumI p (N - 1)))] [vI (F (1 + (F 0 1)) 3), vI (F (1 + (F 0 1)) 2), vI ( g 3)] ([(q, .inl ((vG X).2 1, 20, .inl (fI g)))] ++ w10)
              refine v_iadd C dL_isFrame_222 ?_
              refine v_icmp_ne (tgt := 256) C dL_isFrame_223 (by decide) (by  first | assumption | exact ⟨by omega, by omega⟩) (by have := hB (1 + (F 0 1)) 2; have := hB (1 + (F 0 1)) 3; first | assumption | exact ⟨by omega, by omega⟩) (fun c => absurd ((show _ = _ by omega)) c) (fun _ => ?_)
              refine v_aload_n C dL_isFrame_226 rfl 3 rfl ?_
              refine v_iconst C dL_isFrame_227 ?_
              refine v_iald C 0 rfl (by decide) (by decide) (by decide) dL_isFrame_228 ?_
              refine v_aload_n C dL_isFrame_229 rfl 1 rfl ?_
              refine v_iload C dL_isFrame_230 0 rfl ?_
              refine v_iconst C dL_isFrame_232 ?_
              refine v_callV (na := 2) (wy := (Cond.code yX7_station cX7_station 3 (some .int) :: wsL_law)) (wc := w10) (wr := [(q, .inl ((vG X).2 1, 20, .inl (fI g)))]) C [vI (F 0 1), vI 4] [vI ( g 4)] (k_station (s := (F 0 1)) (q := 4) hst hw10 hT2 (by decide)) rfl (gwV mw_571 mw_568 mw_569 mw_570 mw_2) rfl (by decide +kernel) 0 hw10.at0 rfl rfl rfl (Sb.bl [1, 0] 2 fl2 fl2 rfl rfl (by decide +kernel)) rfl rfl dL_isFrame_233 (fun r w11 hp233 => ?_)
              obtain ⟨rfl, hw11⟩ := hp233
              refine V.sb (ws' := [(q, .inl ((vG X).2 1, 20, .inl (fI g)))] ++ w11) (Sb.bl [1, 0] 2 fl2 fl2 rfl rfl (by decide +kernel)) ?_
              show V X 13 92 236 [(5, vI (F 0 1)), (0, .ref (A 0)), (1, vI nn), (2, .ref q), (3, vI N), (4, vI (sumI p (N - 1)))] [vI (F (1 + (F 0 1)) 4), vI ( g 4)] ([(q, .inl ((vG X).2 1, 20, .inl (fI g)))] ++ w11)
              refine v_icmp_ne (tgt := 256) C dL_isFrame_236 (by decide) (by  first | assumption | exact ⟨by omega, by omega⟩) (by have := hB (1 + (F 0 1)) 4; first | assumption | exact ⟨by omega, by omega⟩) (fun c => absurd ((show _ = _ by omega)) c) (fun _ => ?_)
              refine v_aload_n C dL_isFrame_239 rfl 3 rfl ?_
              refine v_iconst C dL_isFrame_240 ?_
              refine v_iald C 0 rfl (by decide) (by decide) (by decide) dL_isFrame_241 ?_
              refine v_aload_n C dL_isFrame_242 rfl 1 rfl ?_
              refine v_iload C dL_isFrame_243 0 rfl ?_
              refine v_iconst C dL_isFrame_245 ?_
              refine v_callV (na := 2) (wy := (Cond.code yX7_station cX7_station 3 (some .int) :: wsL_law)) (wc := w11) (wr := [(q, .inl ((vG X).2 1, 20, .inl (fI g)))]) C [vI (F 0 1), vI 5] [vI ( g 5)] (k_station (s := (F 0 1)) (q := 5) hst hw11 hT2 (by decide)) rfl (gwV mw_571 mw_568 mw_569 mw_570 mw_2) rfl (by decide +kernel) 0 hw11.at0 rfl rfl rfl (Sb.bl [1, 0] 2 fl2 fl2 rfl rfl (by decide +kernel)) rfl rfl dL_isFrame_246 (fun r w12 hp246 => ?_)
              obtain ⟨rfl, hw12⟩ := hp246
              refine V.sb (ws' := [(q, .inl ((vG X).2 1, 20, .inl (fI g)))] ++ w12) (Sb.bl [1, 0] 2 fl2 fl2 rfl rfl (by decide +kernel)) ?_
              show V X 15 104 249 [(5, vI (F 0 1)), (0, .ref (A 0)), (1, vI nn), (2, .ref q), (3, vI N), (4, vI (sumI p (N - 1)))] [vI (F (1 + (F 0 1)) 5), vI ( g 5)] ([(q, .inl ((vG X).2 1, 20, .inl (fI g)))] ++ w12)
              refine v_sipush C dL_isFrame_249 (by decide +kernel) ?_
              refine v_iand C dL_isFrame_252 (iI_and255 (F (1 + (F 0 1)) 5)) ?_
              refine v_icmp_eq (tgt := 258) C dL_isFrame_253 (by decide) (by  first | assumption | exact ⟨by omega, by omega⟩) (by have := hB (1 + (F 0 1)) 5; first | assumption | exact ⟨by omega, by omega⟩) (fun _ => ?_) (fun c => absurd ((show _ = _ by omega)) c)
              refine v_aload_n C dL_isFrame_258 rfl 1 rfl ?_
              refine v_iconst C dL_isFrame_259 ?_
              refine v_callV (na := 1) (wy := (Cond.code yX7_next cX7_next 2 (some .int) :: wsL_law)) (wc := w12) (wr := [(q, .inl ((vG X).2 1, 20, .inl (fI g)))]) C [vI 0] [] (k_next (q := 0) (v := (nxC K F 0)) hst hw12 (by decide) rfl hB hT hd2) rfl (gwV mw_109 mw_106 mw_107 mw_108 mw_2) rfl (by decide +kernel) 0 hw12.at0 rfl rfl rfl (Sb.bl [1, 0] 2 fl2 fl2 rfl rfl (by decide +kernel)) rfl rfl dL_isFrame_260 (fun r w13 hp260 => ?_)
              obtain ⟨rfl, hw13⟩ := hp260
              refine V.sb (ws' := [(q, .inl ((vG X).2 1, 20, .inl (fI g)))] ++ w13) (Sb.bl [1, 0] 2 fl2 fl2 rfl rfl (by decide +kernel)) ?_
              show V X 16 110 263 [(5, vI (F 0 1)), (0, .ref (A 0)), (1, vI nn), (2, .ref q), (3, vI N), (4, vI (sumI p (N - 1)))] [vI (nxC K F 0)] ([(q, .inl ((vG X).2 1, 20, .inl (fI g)))] ++ w13)
              refine v_iconst C dL_isFrame_263 ?_
              refine v_icmp_ne (tgt := 279) C dL_isFrame_264 (by decide) (by  first | assumption | exact ⟨by omega, by omega⟩) (by decide) (fun c264 => ?_) (fun c264 => ?_)
              · skip
                have hd : isDL F := by by_cases x : isDL F; exact x; exact absurd (show nxC K F 0 = 1 by rw [n0, if_neg x]) c264
                obtain ⟨q1, q2, q3⟩ := pd1 hd
                have q4 := pd2 hd
                refine v_aload_n C dL_isFrame_279 rfl 1 rfl ?_
                refine v_iconst C dL_isFrame_280 ?_
                refine v_callV (na := 1) (wy := (Cond.code yX7_next cX7_next 2 (some .int) :: wsL_law)) (wc := w13) (wr := [(q, .inl ((vG X).2 1, 20, .inl (fI g)))]) C [vI 2] [] (k_next (q := 2) (v := (nxC K F 2)) hst hw13 (by decide) rfl hB hT hd2) rfl (gwV mw_109 mw_106 mw_107 mw_108 mw_2) rfl (by decide +kernel) 0 hw13.at0 rfl rfl rfl (Sb.bl [1, 0] 2 fl2 fl2 rfl rfl (by decide +kernel)) rfl rfl dL_isFrame_281 (fun r w14 hp281 => ?_)
                obtain ⟨rfl, hw14⟩ := hp281
                refine V.sb (ws' := [(q, .inl ((vG X).2 1, 20, .inl (fI g)))] ++ w14) (Sb.bl [1, 0] 2 fl2 fl2 rfl rfl (by decide +kernel)) ?_
                show V X 17 116 284 [(5, vI (F 0 1)), (0, .ref (A 0)), (1, vI nn), (2, .ref q), (3, vI N), (4, vI (sumI p (N - 1)))] [vI (nxC K F 2)] ([(q, .inl ((vG X).2 1, 20, .inl (fI g)))] ++ w14)
                refine v_istore C M dL_isFrame_284 (by decide) (L' := [(6, vI (nxC K F 2)), (5, vI (F 0 1)), (0, .ref (A 0)), (1, vI nn), (2, .ref q), (3, vI N), (4, vI (sumI p (N - 1)))]) rfl ?_
                refine v_bipush C dL_isFrame_286 (by decide +kernel) ?_
                refine v_istore C M dL_isFrame_288 (by decide) (L' := [(7, vI 6), (6, vI (nxC K F 2)), (5, vI (F 0 1)), (0, .ref (A 0)), (1, vI nn), (2, .ref q), (3, vI N), (4, vI (sumI p (N - 1)))]) rfl ?_
                refine V.loc (L' := [(0, .ref (A 0)), (1, vI nn), (2, .ref q), (3, vI N), (4, vI (sumI p (N - 1))), (5, vI (F 0 1)), (6, vI (nxC K F 2)), (7, vI 6)]) [3, 4, 5, 6, 7, 2, 1, 0] rfl ?_
                have lp3 : ∀ (n : Nat) (i : Nat) (wm : va_W) (hwm : tlS (vG X) A B F K wm) (hi : (i : Int) ≤ N - 7) (hm : N - (i : Int) < (n : Int)), V X (17 + 2 * i) (116 + 12 * i) 290 [(0, .ref (A 0)), (1, vI nn), (2, .ref q), (3, vI N), (4, vI (sumI p (N - 1))), (5, vI (F 0 1)), (6, vI (nxC K F 2)), (7, vI (6 + (i : Int)))] [] ([(q, .inl ((vG X).2 1, 20, .inl (fI g)))] ++ wm) := by
                  intro n
                  induction n with
                  | zero => intro i wm hwm hi hm; exact absurd hm (by omega)
                  | succ n ih =>
                    intro i wm hwm hi hm
                    refine v_iload C dL_isFrame_290 7 rfl ?_
                    refine v_iload_n C dL_isFrame_292 rfl 3 rfl ?_
                    refine v_iconst C dL_isFrame_293 ?_
                    refine v_isub C dL_isFrame_294 ?_
                    refine v_icmp_ge (tgt := 326) C dL_isFrame_295 (by decide) (by  first | assumption | exact ⟨by omega, by omega⟩) (by  first | assumption | exact ⟨by omega, by omega⟩) (fun c295 => ?_) (fun c295 => ?_)
                    · skip
                      have hiN : 6 + (i : Int) = N - 1 := by omega
                      refine V.wid (k' := 35) (n' := 226) (by omega) (by omega) ?_
                      refine v_aload_n C dL_isFrame_326 rfl 0 rfl ?_
                      refine v_iload C dL_isFrame_327 5 rfl ?_
                      refine v_iload C dL_isFrame_329 6 rfl ?_
                      refine v_iload_n C dL_isFrame_331 rfl 3 rfl ?_
                      refine v_bipush C dL_isFrame_332 (by decide +kernel) ?_
                      refine v_isub C dL_isFrame_334 ?_
                      refine v_callV (na := 3) (wy := (Cond.code yX7_messageByte cX7_messageByte 5 (some .int) :: wsL_law)) (wc := wm) (wr := [(q, .inl ((vG X).2 1, 20, .inl (fI g)))]) C [vI (F 0 1), vI (nxC K F 2), vI (N - 7)] [] (k_messageByte (s := F 0 1) (m := (nxC K F 2)) (j := (N - 7)) hst hwm hT2 ⟨q2, q3⟩ ⟨by omega, by omega⟩ hB) rfl (gwV mw_585 mw_582 mw_583 mw_584 mw_2) rfl (by decide +kernel) 0 hwm.at0 rfl rfl rfl (Sb.bl [1, 0] 2 fl2 fl2 rfl rfl (by decide +kernel)) rfl rfl dL_isFrame_335 (fun r w15 hp335 => ?_)
                      obtain ⟨rfl, hw15⟩ := hp335
                      refine V.sb (ws' := [(q, .inl ((vG X).2 1, 20, .inl (fI g)))] ++ w15) (Sb.bl [1, 0] 2 fl2 fl2 rfl rfl (by decide +kernel)) ?_
                      show V X 37 238 338 [(0, .ref (A 0)), (1, vI nn), (2, .ref q), (3, vI N), (4, vI (sumI p (N - 1))), (5, vI (F 0 1)), (6, vI (nxC K F 2)), (7, vI (6 + (i : Int)))] [vI (if 0 ≤ (N - 7) ∧ (N - 7) < F (3 + F 0 1) (nxC K F 2) then cB0 (K (F 0 1) (nxC K F 2)) (N - 7) % 256 else -1)] ([(q, .inl ((vG X).2 1, 20, .inl (fI g)))] ++ w15)
                      rw [if_neg (by omega)]
                      show V X 37 238 338 [(0, .ref (A 0)), (1, vI nn), (2, .ref q), (3, vI N), (4, vI (sumI p (N - 1))), (5, vI (F 0 1)), (6, vI (nxC K F 2)), (7, vI (6 + (i : Int)))] [vI (-1)] ([(q, .inl ((vG X).2 1, 20, .inl (fI g)))] ++ w15)
                      refine v_iconst C dL_isFrame_338 ?_
                      refine v_icmp_ne (tgt := 346) C dL_isFrame_339 (by decide) (by decide) (by decide) (fun c => absurd (by decide) c) (fun _ => ?_)
                      refine v_iconst C dL_isFrame_342 ?_
                      refine v_goto (tgt := 347) C dL_isFrame_343 (by decide) ?_
                      refine V.sb (ws' := w15) (Sb.dropl) ?_
                      refine V.wid (k' := 80) (n' := 600) (by decide) (by decide) ?_
                      exact v_zret C E rfl rfl dL_isFrame_347 (by decide) (by decide) ⟨rfl, hw15⟩
                    · skip
                      refine v_aload_n C dL_isFrame_298 rfl 2 rfl ?_
                      refine v_iload C dL_isFrame_299 7 rfl ?_
                      refine v_iald C 0 rfl (by omega) (show 6 + (i : Int) < 20 by omega) (by decide) dL_isFrame_301 ?_
                      rw [gp (6 + (i : Int)) (by omega) (by omega), q4 (6 + (i : Int)) (by omega) (by omega)]
                      show V X (17 + 2 * i) (116 + 12 * i) 302 [(0, .ref (A 0)), (1, vI nn), (2, .ref q), (3, vI N), (4, vI (sumI p (N - 1))), (5, vI (F 0 1)), (6, vI (nxC K F 2)), (7, vI (6 + (i : Int)))] [vI (cB0 (K (F 0 1) (nxC K F 2)) ((6 + (i : Int)) - 6) % 256)] ([(q, .inl ((vG X).2 1, 20, .inl (fI g)))] ++ wm)
                      refine v_aload_n C dL_isFrame_302 rfl 0 rfl ?_
                      refine v_iload C dL_isFrame_303 5 rfl ?_
                      refine v_iload C dL_isFrame_305 6 rfl ?_
                      refine v_iload C dL_isFrame_307 7 rfl ?_
                      refine v_bipush C dL_isFrame_309 (by decide +kernel) ?_
                      refine v_isub C dL_isFrame_311 ?_
                      refine v_callV (na := 3) (wy := (Cond.code yX7_messageByte cX7_messageByte 5 (some .int) :: wsL_law)) (wc := wm) (wr := [(q, .inl ((vG X).2 1, 20, .inl (fI g)))]) C [vI (F 0 1), vI (nxC K F 2), vI ((6 + (i : Int)) - 6)] [vI (cB0 (K (F 0 1) (nxC K F 2)) ((6 + (i : Int)) - 6) % 256)] (k_messageByte (s := F 0 1) (m := (nxC K F 2)) (j := ((6 + (i : Int)) - 6)) hst hwm hT2 ⟨q2, q3⟩ ⟨by omega, by omega⟩ hB) rfl (gwV mw_585 mw_582 mw_583 mw_584 mw_2) rfl (by decide +kernel) 0 hwm.at0 rfl (hR_k rfl rfl (by omega) (by omega)) rfl (Sb.bl [1, 0] 2 fl2 fl2 rfl rfl (by decide +kernel)) rfl rfl dL_isFrame_312 (fun r w15 hp312 => ?_)
                      obtain ⟨rfl, hw15⟩ := hp312
                      refine V.sb (ws' := [(q, .inl ((vG X).2 1, 20, .inl (fI g)))] ++ w15) (Sb.bl [1, 0] 2 fl2 fl2 rfl rfl (by decide +kernel)) ?_
                      show V X ((17 + 2 * i) + 2) ((116 + 12 * i) + 12) 315 [(0, .ref (A 0)), (1, vI nn), (2, .ref q), (3, vI N), (4, vI (sumI p (N - 1))), (5, vI (F 0 1)), (6, vI (nxC K F 2)), (7, vI (6 + (i : Int)))] [vI (if 0 ≤ ((6 + (i : Int)) - 6) ∧ ((6 + (i : Int)) - 6) < F (3 + F 0 1) (nxC K F 2) then cB0 (K (F 0 1) (nxC K F 2)) ((6 + (i : Int)) - 6) % 256 else -1), vI (cB0 (K (F 0 1) (nxC K F 2)) ((6 + (i : Int)) - 6) % 256)] ([(q, .inl ((vG X).2 1, 20, .inl (fI g)))] ++ w15)
                      rw [if_pos ⟨by omega, by omega⟩]
                      show V X ((17 + 2 * i) + 2) ((116 + 12 * i) + 12) 315 [(0, .ref (A 0)), (1, vI nn), (2, .ref q), (3, vI N), (4, vI (sumI p (N - 1))), (5, vI (F 0 1)), (6, vI (nxC K F 2)), (7, vI (6 + (i : Int)))] [vI (cB0 (K (F 0 1) (nxC K F 2)) ((6 + (i : Int)) - 6) % 256), vI (cB0 (K (F 0 1) (nxC K F 2)) ((6 + (i : Int)) - 6) % 256)] ([(q, .inl ((vG X).2 1, 20, .inl (fI g)))] ++ w15)
                      have hc : 0 ≤ (cB0 (K (F 0 1) (nxC K F 2)) ((6 + (i : Int)) - 6) % 256) ∧ (cB0 (K (F 0 1) (nxC K F 2)) ((6 + (i : Int)) - 6) % 256) < 256 := ⟨by omega, by omega⟩
                      refine v_icmp_eq (tgt := 320) C dL_isFrame_315 (by decide) (by  first | assumption | exact ⟨by omega, by omega⟩) (by  first | assumption | exact ⟨by omega, by omega⟩) (fun _ => ?_) (fun c => absurd (rfl) c)
                      refine v_iinc C M dL_isFrame_320 7 rfl (by decide) (z' := ((6 + (i : Int)) + 1)) rfl (L' := [(7, vI ((6 + (i : Int)) + 1)), (0, .ref (A 0)), (1, vI nn), (2, .ref q), (3, vI N), (4, vI (sumI p (N - 1))), (5, vI (F 0 1)), (6, vI (nxC K F 2))]) rfl ?_
                      refine v_goto (tgt := 290) C dL_isFrame_323 (by decide) ?_
                      refine V.loc (L' := [(0, .ref (A 0)), (1, vI nn), (2, .ref q), (3, vI N), (4, vI (sumI p (N - 1))), (5, vI (F 0 1)), (6, vI (nxC K F 2)), (7, vI ((6 + (i : Int)) + 1))]) [1, 2, 3, 4, 5, 6, 7, 0] rfl ?_
                      refine V.wid (k' := 17 + 2 * (i + 1)) (n' := 116 + 12 * (i + 1)) (by omega) (by omega) ?_
                      refine V.eq rfl rfl rfl (L' := [(0, .ref (A 0)), (1, vI nn), (2, .ref q), (3, vI N), (4, vI (sumI p (N - 1))), (5, vI (F 0 1)), (6, vI (nxC K F 2)), (7, vI (6 + ((i + 1 : Nat) : Int)))]) (by rw [show 6 + ((i + 1 : Nat) : Int) = 6 + (i : Int) + 1 by omega]) rfl rfl ?_
                      exact ih (i + 1) w15 hw15 (by omega) (by omega)
                exact lp3 16 0 w14 hw14 (by omega) (by omega)
              · skip
                have hnd : ¬ isDL F := fun hd => by rw [n0, if_pos hd] at c264; exact absurd c264 (by decide)
                have e7 := pturn hnd
                refine v_iload_n C dL_isFrame_267 rfl 4 rfl ?_
                refine v_bipush C dL_isFrame_268 (by decide +kernel) ?_
                refine v_icmp_ne (tgt := 277) C dL_isFrame_270 (by decide) (by  first | assumption | exact ⟨by omega, by omega⟩) (by decide) (fun c => absurd (e7) c) (fun _ => ?_)
                refine v_iconst C dL_isFrame_273 ?_
                refine v_goto (tgt := 278) C dL_isFrame_274 (by decide) ?_
                refine V.sb (ws' := w13) (Sb.dropl) ?_
                refine V.wid (k' := 80) (n' := 600) (by decide) (by decide) ?_
                exact v_zret C E rfl rfl dL_isFrame_278 (by decide) (by decide) ⟨rfl, hw13⟩
            · skip
              refine v_iload C dL_isFrame_123 4 rfl ?_
              refine v_aload_n C dL_isFrame_125 rfl 2 rfl ?_
              refine v_iload C dL_isFrame_126 5 rfl ?_
              refine v_iald C 0 rfl (by omega) (show (i : Int) < 20 by omega) (by decide) dL_isFrame_128 ?_
              rw [gp (i : Int) (by omega) (by omega)]
              show V X 2 26 129 [(0, .ref (A 0)), (1, vI nn), (2, .ref q), (3, vI N), (4, vI (sumI p (i : Int))), (5, vI (i : Int))] [vI (p (i : Int)), vI (sumI p (i : Int))] ([(q, .inl ((vG X).2 1, 20, .inl (fI g)))] ++ wl)
              refine v_iadd C dL_isFrame_129 ?_
              refine v_istore C M dL_isFrame_130 (by decide) (L' := [(4, vI ((sumI p (i : Int)) + (p (i : Int)))), (0, .ref (A 0)), (1, vI nn), (2, .ref q), (3, vI N), (5, vI (i : Int))]) rfl ?_
              refine v_iinc C M dL_isFrame_132 5 rfl (by decide) (z' := ((i : Int) + 1)) rfl (L' := [(5, vI ((i : Int) + 1)), (4, vI ((sumI p (i : Int)) + (p (i : Int)))), (0, .ref (A 0)), (1, vI nn), (2, .ref q), (3, vI N)]) rfl ?_
              refine v_goto (tgt := 115) C dL_isFrame_135 (by decide) ?_
              refine V.loc (L' := [(0, .ref (A 0)), (1, vI nn), (2, .ref q), (3, vI N), (4, vI ((sumI p (i : Int)) + (p (i : Int)))), (5, vI ((i : Int) + 1))]) [2, 3, 4, 5, 1, 0] rfl ?_
              refine V.eq rfl rfl rfl (L' := [(0, .ref (A 0)), (1, vI nn), (2, .ref q), (3, vI N), (4, vI (sumI p ((i + 1 : Nat) : Int))), (5, vI ((i + 1 : Nat) : Int))]) (by rw [show ((i + 1 : Nat) : Int) = (i : Int) + 1 by omega, sumI_s (by omega)]) rfl rfl ?_
              exact ih (i + 1) (by omega) (by omega)
        exact lp2 16 0 (by omega) (by omega)
      · skip
        have hjl : (j : Int) < N := by
          by_cases h : (j : Int) < N
          · exact h
          · have e9 : (j : Int) = N := by omega
            rw [e9] at c54
            exact absurd (show nn - 1 ≤ 1 + N + escI p N by omega) c54
        have hes1 := escI_s (f := p) (k := (j : Int)) (by omega)
        have hem1 := escI_mono (f := p) (j := (j : Int) + 1) (k := N) (by omega) (by omega)
        have hpj := pb (j : Int)
        refine v_aload_n C dL_isFrame_57 rfl 0 rfl ?_
        refine v_iload C dL_isFrame_58 4 rfl ?_
        refine v_callV (na := 1) (wy := (Cond.code yX7_nextByte cX7_nextByte 2 (some .int) :: wsL_law)) (wc := wl) (wr := [(q, .inl ((vG X).2 1, 20, .inl (fI g)))]) C [vI (1 + (j : Int) + escI p (j : Int))] [] (k_nextByte (q := (1 + (j : Int) + escI p (j : Int))) hst hwl (by first | assumption | exact ⟨by omega, by omega⟩) hB hT hd2) rfl (gwV mw_563 mw_560 mw_561 mw_562 mw_2) rfl (by decide +kernel) 0 hwl.at0 rfl rfl rfl (Sb.bl [1, 0] 2 fl2 fl2 rfl rfl (by decide +kernel)) rfl rfl dL_isFrame_60 (fun r w14 hp60 => ?_)
        obtain ⟨v60_13, rfl, hw14, hv⟩ := hp60
        refine V.sb (ws' := [(q, .inl ((vG X).2 1, 20, .inl (fI g)))] ++ w14) (Sb.bl [1, 0] 2 fl2 fl2 rfl rfl (by decide +kernel)) ?_
        show V X 2 26 63 [(0, .ref (A 0)), (1, vI nn), (2, .ref q), (3, vI (j : Int)), (4, vI (1 + (j : Int) + escI p (j : Int)))] [vI v60_13] ([(q, .inl ((vG X).2 1, 20, .inl (fI g)))] ++ w14)
        have ev := NB2 (1 + (j : Int) + escI p (j : Int)) v60_13 hv
        clear hv
        rw [if_pos ⟨by omega, by omega⟩] at ev
        have hlj := hl1.2 (j : Int) (by omega) hjl
        by_cases hmk : isMk (p (j : Int))
        · skip
          rw [(hlj.1 hmk).1] at ev
          subst ev
          show V X 2 26 63 [(0, .ref (A 0)), (1, vI nn), (2, .ref q), (3, vI (j : Int)), (4, vI (1 + (j : Int) + escI p (j : Int)))] [vI 125] ([(q, .inl ((vG X).2 1, 20, .inl (fI g)))] ++ w14)
          rw [bI_t hmk] at hes1
          refine v_istore C M dL_isFrame_63 (by decide) (L' := [(5, vI 125), (0, .ref (A 0)), (1, vI nn), (2, .ref q), (3, vI (j : Int)), (4, vI (1 + (j : Int) + escI p (j : Int)))]) rfl ?_
          refine v_iload C dL_isFrame_65 0 rfl ?_
          refine v_bipush C dL_isFrame_67 (by decide +kernel) ?_
          refine v_icmp_ne (tgt := 74) C dL_isFrame_69 (by decide) (by decide) (by decide) (fun _ => ?_) (fun c => absurd c (by decide))
          refine v_iload C dL_isFrame_74 0 rfl ?_
          refine v_bipush C dL_isFrame_76 (by decide +kernel) ?_
          refine v_icmp_ne (tgt := 95) C dL_isFrame_78 (by decide) (by decide) (by decide) (fun c => absurd (by decide) c) (fun _ => ?_)
          refine v_iinc C M dL_isFrame_81 5 rfl (by decide) (z' := ((1 + (j : Int) + escI p (j : Int)) + 1)) rfl (L' := [(4, vI ((1 + (j : Int) + escI p (j : Int)) + 1)), (5, vI 125), (0, .ref (A 0)), (1, vI nn), (2, .ref q), (3, vI (j : Int))]) rfl ?_
          refine v_aload_n C dL_isFrame_84 rfl 2 rfl ?_
          refine v_iload C dL_isFrame_85 0 rfl ?_
          refine v_callV (na := 1) (wy := (Cond.code yX7_nextByte cX7_nextByte 2 (some .int) :: wsL_law)) (wc := w14) (wr := [(q, .inl ((vG X).2 1, 20, .inl (fI g)))]) C [vI ((1 + (j : Int) + escI p (j : Int)) + 1)] [] (k_nextByte (q := ((1 + (j : Int) + escI p (j : Int)) + 1)) hst hw14 (by first | assumption | exact ⟨by omega, by omega⟩) hB hT hd2) rfl (gwV mw_563 mw_560 mw_561 mw_562 mw_2) rfl (by decide +kernel) 0 hw14.at0 rfl rfl rfl (Sb.bl [1, 0] 2 fl2 fl2 rfl rfl (by decide +kernel)) rfl rfl dL_isFrame_87 (fun r w15 hp87 => ?_)
          obtain ⟨v87_14, rfl, hw15, hv⟩ := hp87
          refine V.sb (ws' := [(q, .inl ((vG X).2 1, 20, .inl (fI g)))] ++ w15) (Sb.bl [1, 0] 2 fl2 fl2 rfl rfl (by decide +kernel)) ?_
          show V X 2 26 90 [(4, vI ((1 + (j : Int) + escI p (j : Int)) + 1)), (5, vI 125), (0, .ref (A 0)), (1, vI nn), (2, .ref q), (3, vI (j : Int))] [vI v87_14] ([(q, .inl ((vG X).2 1, 20, .inl (fI g)))] ++ w15)
          have ev := NB2 ((1 + (j : Int) + escI p (j : Int)) + 1) v87_14 hv
          clear hv
          rw [if_pos ⟨by omega, by omega⟩, show ((1 + (j : Int) + escI p (j : Int)) + 1) = 1 + (j : Int) + escI p (j : Int) + 1 by omega, (hlj.1 hmk).2] at ev
          subst ev
          show V X 2 26 90 [(4, vI ((1 + (j : Int) + escI p (j : Int)) + 1)), (5, vI 125), (0, .ref (A 0)), (1, vI nn), (2, .ref q), (3, vI (j : Int))] [vI (xr (p (j : Int)))] ([(q, .inl ((vG X).2 1, 20, .inl (fI g)))] ++ w15)
          refine v_bipush C dL_isFrame_90 (by decide +kernel) ?_
          refine v_ixor C dL_isFrame_92 (xr_b hmk) ?_
          show V X 2 26 93 [(4, vI ((1 + (j : Int) + escI p (j : Int)) + 1)), (5, vI 125), (0, .ref (A 0)), (1, vI nn), (2, .ref q), (3, vI (j : Int))] [vI (p (j : Int))] ([(q, .inl ((vG X).2 1, 20, .inl (fI g)))] ++ w15)
          refine v_istore C M dL_isFrame_93 (by decide) (L' := [(5, vI (p (j : Int))), (4, vI ((1 + (j : Int) + escI p (j : Int)) + 1)), (0, .ref (A 0)), (1, vI nn), (2, .ref q), (3, vI (j : Int))]) rfl ?_
          refine v_aload_n C dL_isFrame_95 rfl 4 rfl ?_
          refine v_iload_n C dL_isFrame_96 rfl 5 rfl ?_
          refine v_iload C dL_isFrame_97 0 rfl ?_
          refine v_iast C 0 rfl (by omega) (show (j : Int) < 20 by omega) (by decide) dL_isFrame_99 (ws' := [(q, .inl ((vG X).2 1, 20, .inl (fI (up g (j : Int) (p (j : Int))))))] ++ w15) rfl ?_
          refine v_iinc C M dL_isFrame_100 5 rfl (by decide) (z' := ((j : Int) + 1)) rfl (L' := [(3, vI ((j : Int) + 1)), (5, vI (p (j : Int))), (4, vI ((1 + (j : Int) + escI p (j : Int)) + 1)), (0, .ref (A 0)), (1, vI nn), (2, .ref q)]) rfl ?_
          refine v_iinc C M dL_isFrame_103 2 rfl (by decide) (z' := (((1 + (j : Int) + escI p (j : Int)) + 1) + 1)) rfl (L' := [(4, vI (((1 + (j : Int) + escI p (j : Int)) + 1) + 1)), (3, vI ((j : Int) + 1)), (5, vI (p (j : Int))), (0, .ref (A 0)), (1, vI nn), (2, .ref q)]) rfl ?_
          refine v_goto (tgt := 49) C dL_isFrame_106 (by decide) ?_
          refine V.loc (L' := [(0, .ref (A 0)), (1, vI nn), (2, .ref q), (3, vI ((j : Int) + 1)), (4, vI (((1 + (j : Int) + escI p (j : Int)) + 1) + 1))]) [3, 4, 5, 1, 0] rfl ?_
          refine V.eq rfl rfl rfl (L' := [(0, .ref (A 0)), (1, vI nn), (2, .ref q), (3, vI ((j + 1 : Nat) : Int)), (4, vI (1 + ((j + 1 : Nat) : Int) + escI p ((j + 1 : Nat) : Int)))]) (by rw [show (((j + 1 : Nat) : Int)) = (j : Int) + 1 by omega, show 1 + ((j : Int) + 1) + escI p ((j : Int) + 1) = (1 + (j : Int) + escI p (j : Int) + 1) + 1 by omega]) rfl rfl ?_
          exact ih (j + 1) (up g (j : Int) (p (j : Int))) w15 hw15 (by omega) (fun i h0 h1 => by by_cases hi : i = (j : Int); rw [hi, up_s]; rw [up_n hi]; exact hg i h0 (by omega)) (by omega)
        · skip
          rw [hlj.2 hmk] at ev
          subst ev
          show V X 2 26 63 [(0, .ref (A 0)), (1, vI nn), (2, .ref q), (3, vI (j : Int)), (4, vI (1 + (j : Int) + escI p (j : Int)))] [vI (p (j : Int))] ([(q, .inl ((vG X).2 1, 20, .inl (fI g)))] ++ w14)
          have hm1 : ¬ p (j : Int) = 126 := fun h => hmk (Or.inl h)
          have hm2 : ¬ p (j : Int) = 125 := fun h => hmk (Or.inr h)
          rw [bI_f hmk] at hes1
          refine v_istore C M dL_isFrame_63 (by decide) (L' := [(5, vI (p (j : Int))), (0, .ref (A 0)), (1, vI nn), (2, .ref q), (3, vI (j : Int)), (4, vI (1 + (j : Int) + escI p (j : Int)))]) rfl ?_
          refine v_iload C dL_isFrame_65 0 rfl ?_
          refine v_bipush C dL_isFrame_67 (by decide +kernel) ?_
          refine v_icmp_ne (tgt := 74) C dL_isFrame_69 (by decide) (by have := pb (j : Int); first | assumption | exact ⟨by omega, by omega⟩) (by decide) (fun _ => ?_) (fun c => absurd c (hm1))
          refine v_iload C dL_isFrame_74 0 rfl ?_
          refine v_bipush C dL_isFrame_76 (by decide +kernel) ?_
          refine v_icmp_ne (tgt := 95) C dL_isFrame_78 (by decide) (by have := pb (j : Int); first | assumption | exact ⟨by omega, by omega⟩) (by decide) (fun _ => ?_) (fun c => absurd c (hm2))
          refine v_aload_n C dL_isFrame_95 rfl 3 rfl ?_
          refine v_iload_n C dL_isFrame_96 rfl 4 rfl ?_
          refine v_iload C dL_isFrame_97 0 rfl ?_
          refine v_iast C 0 rfl (by omega) (show (j : Int) < 20 by omega) (by decide) dL_isFrame_99 (ws' := [(q, .inl ((vG X).2 1, 20, .inl (fI (up g (j : Int) (p (j : Int))))))] ++ w14) rfl ?_
          refine v_iinc C M dL_isFrame_100 4 rfl (by decide) (z' := ((j : Int) + 1)) rfl (L' := [(3, vI ((j : Int) + 1)), (5, vI (p (j : Int))), (0, .ref (A 0)), (1, vI nn), (2, .ref q), (4, vI (1 + (j : Int) + escI p (j : Int)))]) rfl ?_
          refine v_iinc C M dL_isFrame_103 5 rfl (by decide) (z' := ((1 + (j : Int) + escI p (j : Int)) + 1)) rfl (L' := [(4, vI ((1 + (j : Int) + escI p (j : Int)) + 1)), (3, vI ((j : Int) + 1)), (5, vI (p (j : Int))), (0, .ref (A 0)), (1, vI nn), (2, .ref q)]) rfl ?_
          refine v_goto (tgt := 49) C dL_isFrame_106 (by decide) ?_
          refine V.loc (L' := [(0, .ref (A 0)), (1, vI nn), (2, .ref q), (3, vI ((j : Int) + 1)), (4, vI ((1 + (j : Int) + escI p (j : Int)) + 1))]) [3, 4, 5, 1, 0] rfl ?_
          refine V.eq rfl rfl rfl (L' := [(0, .ref (A 0)), (1, vI nn), (2, .ref q), (3, vI ((j + 1 : Nat) : Int)), (4, vI (1 + ((j + 1 : Nat) : Int) + escI p ((j + 1 : Nat) : Int)))]) (by rw [show (((j + 1 : Nat) : Int)) = (j : Int) + 1 by omega, show 1 + ((j : Int) + 1) + escI p ((j : Int) + 1) = (1 + (j : Int) + escI p (j : Int)) + 1 by omega]) rfl rfl ?_
          exact ih (j + 1) (up g (j : Int) (p (j : Int))) w14 hw14 (by omega) (fun i h0 h1 => by by_cases hi : i = (j : Int); rw [hi, up_s]; rw [up_n hi]; exact hg i h0 (by omega)) (by omega)
  exact lp1 16 0 (fun _ => 0) w4 hw4 (by omega) (fun i h0 h1 => absurd h1 (by omega)) (by omega)
end K3
