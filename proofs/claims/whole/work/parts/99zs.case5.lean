section Case5
set_option maxHeartbeats 2000000 in
set_option maxRecDepth 100000 in
theorem lc_13 {X : vCx} {c0 : Cond} (C : lwC X c0) (M9 : vM X 9) {A : Nat → Nat} {B : Nat → Nat → Nat} {ad : Nat → Nat} {o b L : Nat} {xs : Nat → Int} (Sc : vScr X b L xs) (hxs : ∀ j, sm (xs j)) (hst : (vL X).stackTraces = false) {k n : Nat} (hk : k + 3 ≤ 601024) (hn : n + 18 ≤ 7293034) {i : Int} (hi0 : 0 ≤ i) (hi : i + 6 ≤ (L : Int)) (hL : L ≤ 3072) {g : Int → Int64} {lads : Nat → Nat → Nat} {f bu cf cp ff fp : Int → Int} {Q : Nat → Int → Int → Int} {R : Nat → Int → Int → Int64} {LF : Nat → Int → Int → Int} {LK : Nat → Int → Int → Int64} {z : Int → Int} {M : Int → Int → Int} (T : TI f bu Q R LF LK z M)
    (nx : ∀ (k3 : Int) (w1 w2 : va_W) (g2 : Int → Int64), LIk (vG X) A B ad k3 w1 w2 → V X (k + 3) (n + 18) 1413 (lwL A ad o b i) [] (w1 ++ w2 ++ lwO (vG X) o g2)) : V X k n 813 (lwL A ad o b i) [] ((tlW (vG X) A B lads f bu cf cp ff fp Q R LF LK z) ++ (mW (vG X) ad M) ++ (lwO (vG X) o g)) := by
  have hg := T.1
  have hB : sB 1000000 (M 2) := J_B hg.2.1 (by have := hg.2.2.2.2.1; omega)
  have hQ : ∀ i, sB 1000000 (Q 0 i) := REL_B hg.1 hg.2.1 (by have := hg.2.2.2.2.1; omega)
  have hz6 := GOOD_6 hg
  have hc := T.2.2.1.1
  have h14 : M 0 14 = z 0 := T.2.2.1.2.1
  have hOK : OKL (Q 0) := REL_OKL hg.1 hg.2.1 (by have := hg.2.2.2.2.1; omega)
  have hOKs : OKs (M 2) := J_OKs hg.2.1 (by have := hg.2.2.2.2.1; omega)
  have h7 : 0 ≤ M 2 7 ∧ M 2 7 ≤ 40 := ⟨hg.2.1.1.2.2.2.2.2.1, hg.2.2.2.1⟩
  have h4 : 1 ≤ M 2 4 ∧ M 2 4 ≤ 7 := ⟨hg.2.2.1, hg.2.1.1.2.2.2.1.2⟩
  have h24 : M 0 24 = 0 := T.2.2.2.2.2.2.2.2.2.2
  have h9 : Q 0 0 9 = -1 := hg.2.2.2.2.2.2.1
  have h44 : Q 0 0 4 = M 2 4 := hg.1.1.1.2.2.1
  have hFO : ∀ rd : Int, (rd = 0 ∨ rd = 1) → FOK rd (R 0) (Q 0) 600 := fun rd hr => by
    have t := GOOD_FOK (lost := -1) (b := Q 0 0 4) hr hg (by omega) (by decide)
    rw [foF_id h9] at t
    exact t
  have hGO : ∀ rd lost b : Int, (rd = 0 ∨ rd = 1) → (-1 ≤ lost ∧ lost ≤ 10000) → (0 ≤ b ∧ b ≤ 7) → GOk rd lost b (M 2) := fun rd lost b hr hl hb => J_GOk hr hg.2.1 h7.2 hg.2.2.2.2.1 ⟨by omega, hl.2⟩ hb
  have hM20 : ∀ s, (s = 0 ∨ s = 1) → 0 ≤ M 2 (18 + 11 * s + 0) ∧ M 2 (18 + 11 * s + 0) ≤ 20 := fun s hs => by
    rcases hs with rfl | rfl
    · exact hg.2.1.2.1.1
    · exact hg.2.1.2.2.1.1
  have j18 := hg.2.1.2.1
  have j29 := hg.2.1.2.2.1
  simp only [JS, Int.reduceAdd] at j18 j29
  have ha30 : 0 ≤ M 2 30 ∧ M 2 30 ≤ 20 := by omega
  have ha19 : 0 ≤ M 2 19 ∧ M 2 19 ≤ 20 := by omega
  refine v_aload_n C dL_law_813 rfl 3 rfl ?_
  refine v_callV (na := 0) (wy := (Cond.code yX7_efficiency cX7_efficiency 3 (some .double) :: wsL_law)) (wc := (tlW (vG X) A B lads f bu cf cp ff fp Q R LF LK z)) (wr := (mW (vG X) ad M) ++ (lwO (vG X) o g)) C [] [] (C_X7_efficiency (vG X) (vL X) A B lads f bu cf cp ff fp Q R LF LK z hQ) rfl (gwV mw_733 mw_730 mw_731 mw_732 mw_2) rfl (by decide +kernel) 0 rfl rfl (hR_k rfl rfl (by omega) (by omega)) rfl (Sb.bl [0, 1, 2] 3 fl3 (fl_app fl1 fl2) rfl rfl (by decide +kernel)) rfl rfl dL_law_814 (fun r1 w1 hp => ?_)
  have hP := pd_efficiency (G := vG X) (A := A) (B := B) (ad := ad) (lads := lads) (cf := cf) (cp := cp) (ff := ff) (fp := fp) T 
  have hr1 := hp
  obtain ⟨v1, hv1⟩ : ∃ v1 : UInt64, r1 = some (.double v1) := by
    obtain ⟨rfl, _⟩ := hr1; exact ⟨_, rfl⟩
  subst hv1
  refine v_dstore C M9 dL_law_817 (by decide) (L' := (5, .double v1) :: lwL A ad o b i) rfl ?_
  refine v_aload_n C dL_law_819 rfl 3 rfl ?_
  refine v_callV (na := 0) (wy := (Cond.code yX8_efficiency cX8_efficiency 4 (some .double) :: wsL_law)) (wc := (mW (vG X) ad M)) (wr := w1 ++ (lwO (vG X) o g)) C [] [] (c_X8_efficiency (vG X) (vL X) ad M hB ha30 ha19) rfl (gwV mw_742 mw_739 mw_740 mw_741 mw_5) rfl (by decide +kernel) 0 rfl rfl (hR_k rfl rfl (by omega) (by omega)) rfl (Sb.bl [1, 0, 2] 3 (fl_app fl1 fl2) (fl_app fl1 fl2) rfl rfl (by decide +kernel)) rfl rfl dL_law_820 (fun r2 w2 hq => ?_)
  obtain ⟨v, h1, h2, k3, hLI⟩ := hP _ _ _ _ hp hq
  subst h2
  rw [Value.double.inj (Option.some.inj h1)]
  refine v_dstore C M9 dL_law_823 (by decide) (L' := (7, .double v) :: (5, .double v) :: lwL A ad o b i) rfl ?_
  have hend : V X k n 1413 ((7, .double v) :: (5, .double v) :: lwL A ad o b i) [] (w2 ++ (w1 ++ (lwO (vG X) o g))) := by
    refine V.loc [2, 3, 4, 5, 6] rfl ?_
    exact V.sb (Sb.bl [1, 0, 2] 3 (fl_app fl1 fl2) fl3 rfl rfl (by decide +kernel)) (V.wid (by omega) (by omega) (nx _ _ _ _ hLI))
  have hcm : ∃ q : Int, sm q ∧ Op.cmpValue (FP.dcmp v v) .l = iI q := by
    obtain ⟨q, h1, h2⟩ := iI_ex (Op.cmpValue (FP.dcmp v v) .l)
    exact ⟨q, h1, h2⟩
  obtain ⟨q, hsq, hq9⟩ := hcm
  refine v_dload C dL_law_825 1 rfl ?_
  refine v_dload C dL_law_827 0 rfl ?_
  refine v_dcmp C dL_law_829 ?_
  rw [hq9]
  refine v_if_eq (tgt := 851) C dL_law_830 (by decide) hsq (fun c => ?_) (fun c => ?_)
  · exact v_goto (tgt := 1413) C dL_law_851 (by decide) hend
  · refine v_dload C dL_law_833 1 rfl ?_
    refine v_dload C dL_law_835 1 rfl ?_
    refine v_dcmp C dL_law_837 ?_
    rw [hq9]
    refine v_if_eq (tgt := 849) C dL_law_838 (by decide) hsq (fun c2 => absurd c2 c) (fun _ => ?_)
    refine v_dload C dL_law_841 0 rfl ?_
    refine v_dload C dL_law_843 0 rfl ?_
    refine v_dcmp C dL_law_845 ?_
    rw [hq9]
    refine v_if_ne (tgt := 851) C dL_law_846 (by decide) hsq (fun _ => ?_) (fun c2 => absurd c2 c)
    exact v_goto (tgt := 1413) C dL_law_851 (by decide) hend
set_option maxHeartbeats 2000000 in
set_option maxRecDepth 100000 in
theorem lc_21 {X : vCx} {c0 : Cond} (C : lwC X c0) (M9 : vM X 9) {A : Nat → Nat} {B : Nat → Nat → Nat} {ad : Nat → Nat} {o b L : Nat} {xs : Nat → Int} (Sc : vScr X b L xs) (hxs : ∀ j, sm (xs j)) (hst : (vL X).stackTraces = false) {k n : Nat} (hk : k + 3 ≤ 601024) (hn : n + 18 ≤ 7293034) {i : Int} (hi0 : 0 ≤ i) (hi : i + 6 ≤ (L : Int)) (hL : L ≤ 3072) {g : Int → Int64} {lads : Nat → Nat → Nat} {f bu cf cp ff fp : Int → Int} {Q : Nat → Int → Int → Int} {R : Nat → Int → Int → Int64} {LF : Nat → Int → Int → Int} {LK : Nat → Int → Int → Int64} {z : Int → Int} {M : Int → Int → Int} (T : TI f bu Q R LF LK z M)
    (nx : ∀ (k3 : Int) (w1 w2 : va_W) (g2 : Int → Int64), LIk (vG X) A B ad k3 w1 w2 → V X (k + 3) (n + 18) 1413 (lwL A ad o b i) [] (w1 ++ w2 ++ lwO (vG X) o g2)) : V X k n 1350 (lwL A ad o b i) [] ((tlW (vG X) A B lads f bu cf cp ff fp Q R LF LK z) ++ (mW (vG X) ad M) ++ (lwO (vG X) o g)) := by
  have hg := T.1
  have hB : sB 1000000 (M 2) := J_B hg.2.1 (by have := hg.2.2.2.2.1; omega)
  have hQ : ∀ i, sB 1000000 (Q 0 i) := REL_B hg.1 hg.2.1 (by have := hg.2.2.2.2.1; omega)
  have hz6 := GOOD_6 hg
  have hc := T.2.2.1.1
  have h14 : M 0 14 = z 0 := T.2.2.1.2.1
  have hOK : OKL (Q 0) := REL_OKL hg.1 hg.2.1 (by have := hg.2.2.2.2.1; omega)
  have hOKs : OKs (M 2) := J_OKs hg.2.1 (by have := hg.2.2.2.2.1; omega)
  have h7 : 0 ≤ M 2 7 ∧ M 2 7 ≤ 40 := ⟨hg.2.1.1.2.2.2.2.2.1, hg.2.2.2.1⟩
  have h4 : 1 ≤ M 2 4 ∧ M 2 4 ≤ 7 := ⟨hg.2.2.1, hg.2.1.1.2.2.2.1.2⟩
  have h24 : M 0 24 = 0 := T.2.2.2.2.2.2.2.2.2.2
  have h9 : Q 0 0 9 = -1 := hg.2.2.2.2.2.2.1
  have h44 : Q 0 0 4 = M 2 4 := hg.1.1.1.2.2.1
  have hFO : ∀ rd : Int, (rd = 0 ∨ rd = 1) → FOK rd (R 0) (Q 0) 600 := fun rd hr => by
    have t := GOOD_FOK (lost := -1) (b := Q 0 0 4) hr hg (by omega) (by decide)
    rw [foF_id h9] at t
    exact t
  have hGO : ∀ rd lost b : Int, (rd = 0 ∨ rd = 1) → (-1 ≤ lost ∧ lost ≤ 10000) → (0 ≤ b ∧ b ≤ 7) → GOk rd lost b (M 2) := fun rd lost b hr hl hb => J_GOk hr hg.2.1 h7.2 hg.2.2.2.2.1 ⟨by omega, hl.2⟩ hb
  have hM20 : ∀ s, (s = 0 ∨ s = 1) → 0 ≤ M 2 (18 + 11 * s + 0) ∧ M 2 (18 + 11 * s + 0) ≤ 20 := fun s hs => by
    rcases hs with rfl | rfl
    · exact hg.2.1.2.1.1
    · exact hg.2.1.2.2.1.1
  refine v_aload_n C dL_law_1350 rfl 3 rfl ?_
  refine v_callV (na := 0) (wy := (Cond.code yX7_undo cX7_undo 1 (some .int) :: wsL_law)) (wc := (tlW (vG X) A B lads f bu cf cp ff fp Q R LF LK z)) (wr := (mW (vG X) ad M) ++ (lwO (vG X) o g)) C [] [] (C_X7_undo (vG X) (vL X) A B lads f bu cf cp ff fp Q R LF LK z hc T.2.2.1.2.2.2) rfl (gwV mw_859 mw_856 mw_857 mw_858 mw_2) rfl (by decide +kernel) 0 rfl rfl (hR_k rfl rfl (by omega) (by omega)) rfl (Sb.bl [0, 1, 2] 3 fl3 (fl_app fl1 fl2) rfl rfl (by decide +kernel)) rfl rfl dL_law_1351 (fun r1 w1 hp => ?_)
  have hP := pd_undo (G := vG X) (A := A) (B := B) (ad := ad) (lads := lads) (cf := cf) (cp := cp) (ff := ff) (fp := fp) T 
  have hr1 := hp
  obtain ⟨v1, hv1⟩ : ∃ v1 : Int, r1 = some (vI v1) := by
    obtain ⟨F1, K1, c1, ⟨_, _, _, _, rfl⟩ | ⟨_, _, _, _, rfl⟩, _⟩ := hr1 <;> exact ⟨_, rfl⟩
  subst hv1
  refine v_aload_n C dL_law_1354 rfl 2 rfl ?_
  refine v_callV (na := 0) (wy := (Cond.code yX8_undo cX8_undo 1 (some .int) :: wsL_law)) (wc := (mW (vG X) ad M)) (wr := w1 ++ (lwO (vG X) o g)) C [] [vI v1] (c_X8_undo (vG X) (vL X) ad M (by omega) (by omega)) rfl (gwV mw_867 mw_864 mw_865 mw_866 mw_5) rfl (by decide +kernel) 0 rfl rfl (hR_k rfl rfl (by omega) (by omega)) rfl (Sb.bl [1, 0, 2] 3 (fl_app fl1 fl2) (fl_app fl1 fl2) rfl rfl (by decide +kernel)) rfl rfl dL_law_1355 (fun r2 w2 hq => ?_)
  obtain ⟨v, hsv, h1, h2, k3, hLI⟩ := hP _ _ _ _ hp hq
  subst h2
  rw [Option.some.inj h1]
  refine v_icmp_eq (tgt := 1413) C dL_law_1358 (by decide) hsv hsv (fun _ => ?_) (fun c => absurd rfl c)
  exact V.sb (Sb.bl [1, 0, 2] 3 (fl_app fl1 fl2) fl3 rfl rfl (by decide +kernel)) (V.wid (by omega) (by omega) (nx _ _ _ _ hLI))
set_option maxHeartbeats 2000000 in
set_option maxRecDepth 100000 in
theorem lc_22 {X : vCx} {c0 : Cond} (C : lwC X c0) (M9 : vM X 9) {A : Nat → Nat} {B : Nat → Nat → Nat} {ad : Nat → Nat} {o b L : Nat} {xs : Nat → Int} (Sc : vScr X b L xs) (hxs : ∀ j, sm (xs j)) (hst : (vL X).stackTraces = false) {k n : Nat} (hk : k + 3 ≤ 601024) (hn : n + 18 ≤ 7293034) {i : Int} (hi0 : 0 ≤ i) (hi : i + 6 ≤ (L : Int)) (hL : L ≤ 3072) {g : Int → Int64} {lads : Nat → Nat → Nat} {f bu cf cp ff fp : Int → Int} {Q : Nat → Int → Int → Int} {R : Nat → Int → Int → Int64} {LF : Nat → Int → Int → Int} {LK : Nat → Int → Int → Int64} {z : Int → Int} {M : Int → Int → Int} (T : TI f bu Q R LF LK z M)
    (nx : ∀ (k3 : Int) (w1 w2 : va_W) (g2 : Int → Int64), LIk (vG X) A B ad k3 w1 w2 → V X (k + 3) (n + 18) 1413 (lwL A ad o b i) [] (w1 ++ w2 ++ lwO (vG X) o g2)) : V X k n 1363 (lwL A ad o b i) [] ((tlW (vG X) A B lads f bu cf cp ff fp Q R LF LK z) ++ (mW (vG X) ad M) ++ (lwO (vG X) o g)) := by
  obtain ⟨a1, ha1⟩ : ∃ a, a = xs (i + 1).toNat := ⟨_, rfl⟩
  have hs_a1 : sm a1 := by rw [ha1]; exact hxs _
  have hg := T.1
  have hB : sB 1000000 (M 2) := J_B hg.2.1 (by have := hg.2.2.2.2.1; omega)
  have hQ : ∀ i, sB 1000000 (Q 0 i) := REL_B hg.1 hg.2.1 (by have := hg.2.2.2.2.1; omega)
  have hz6 := GOOD_6 hg
  have hc := T.2.2.1.1
  have h14 : M 0 14 = z 0 := T.2.2.1.2.1
  have hOK : OKL (Q 0) := REL_OKL hg.1 hg.2.1 (by have := hg.2.2.2.2.1; omega)
  have hOKs : OKs (M 2) := J_OKs hg.2.1 (by have := hg.2.2.2.2.1; omega)
  have h7 : 0 ≤ M 2 7 ∧ M 2 7 ≤ 40 := ⟨hg.2.1.1.2.2.2.2.2.1, hg.2.2.2.1⟩
  have h4 : 1 ≤ M 2 4 ∧ M 2 4 ≤ 7 := ⟨hg.2.2.1, hg.2.1.1.2.2.2.1.2⟩
  have h24 : M 0 24 = 0 := T.2.2.2.2.2.2.2.2.2.2
  have h9 : Q 0 0 9 = -1 := hg.2.2.2.2.2.2.1
  have h44 : Q 0 0 4 = M 2 4 := hg.1.1.1.2.2.1
  have hFO : ∀ rd : Int, (rd = 0 ∨ rd = 1) → FOK rd (R 0) (Q 0) 600 := fun rd hr => by
    have t := GOOD_FOK (lost := -1) (b := Q 0 0 4) hr hg (by omega) (by decide)
    rw [foF_id h9] at t
    exact t
  have hGO : ∀ rd lost b : Int, (rd = 0 ∨ rd = 1) → (-1 ≤ lost ∧ lost ≤ 10000) → (0 ≤ b ∧ b ≤ 7) → GOk rd lost b (M 2) := fun rd lost b hr hl hb => J_GOk hr hg.2.1 h7.2 hg.2.2.2.2.1 ⟨by omega, hl.2⟩ hb
  have hM20 : ∀ s, (s = 0 ∨ s = 1) → 0 ≤ M 2 (18 + 11 * s + 0) ∧ M 2 (18 + 11 * s + 0) ≤ 20 := fun s hs => by
    rcases hs with rfl | rfl
    · exact hg.2.1.2.1.1
    · exact hg.2.1.2.2.1.1
  refine v_aload_n C dL_law_1363 rfl 3 rfl ?_
  refine v_aload_n C dL_law_1364 rfl 4 rfl ?_
  refine v_iload C dL_law_1365 0 rfl ?_
  refine v_iconst C dL_law_1367 ?_
  refine v_iadd C dL_law_1368 ?_
  refine v_sld C Sc (i := i + 1) (a := a1) (by omega) (by omega) (by omega) ha1 dL_law_1369 ?_
  refine v_callV (na := 1) (wy := (Cond.code yX7_saveSnapshot cX7_saveSnapshot 3 (some .boolean) :: wsL_law)) (wc := (tlW (vG X) A B lads f bu cf cp ff fp Q R LF LK z)) (wr := (mW (vG X) ad M) ++ (lwO (vG X) o g)) C [vI a1] [] (C_X7_saveSnapshot (vG X) (vL X) A B lads f bu cf cp ff fp Q R LF LK z a1 hs_a1 hz6) rfl (gwV mw_871 mw_868 mw_869 mw_870 mw_2) rfl (by decide +kernel) 0 rfl rfl (hR_k rfl rfl (by omega) (by omega)) rfl (Sb.bl [0, 1, 2] 3 fl3 (fl_app fl1 fl2) rfl rfl (by decide +kernel)) rfl rfl dL_law_1370 (fun r1 w1 hp => ?_)
  have hP := pd_saveSnapshot (G := vG X) (A := A) (B := B) (ad := ad) (lads := lads) (cf := cf) (cp := cp) (ff := ff) (fp := fp) T a1
  have hr1 := hp
  obtain ⟨v1, hv1⟩ : ∃ v1 : Int, r1 = some (vI v1) := by
    rcases hr1 with ⟨_, rfl, _⟩ | ⟨_, rfl, _⟩ | ⟨_, rfl, _⟩ <;> exact ⟨_, rfl⟩
  subst hv1
  refine v_aload_n C dL_law_1373 rfl 2 rfl ?_
  refine v_aload_n C dL_law_1374 rfl 4 rfl ?_
  refine v_iload C dL_law_1375 0 rfl ?_
  refine v_iconst C dL_law_1377 ?_
  refine v_iadd C dL_law_1378 ?_
  refine v_sld C Sc (i := i + 1) (a := a1) (by omega) (by omega) (by omega) ha1 dL_law_1379 ?_
  refine v_callV (na := 1) (wy := (Cond.code yX8_saveSnapshot cX8_saveSnapshot 2 (some .boolean) :: wsL_law)) (wc := (mW (vG X) ad M)) (wr := w1 ++ (lwO (vG X) o g)) C [vI a1] [vI v1] (c_X8_saveSnapshot (vG X) (vL X) ad M a1 hs_a1) rfl (gwV mw_879 mw_876 mw_877 mw_878 mw_5) rfl (by decide +kernel) 0 rfl rfl (hR_k rfl rfl (by omega) (by omega)) rfl (Sb.bl [1, 0, 2] 3 (fl_app fl1 fl2) (fl_app fl1 fl2) rfl rfl (by decide +kernel)) rfl rfl dL_law_1380 (fun r2 w2 hq => ?_)
  obtain ⟨v, hsv, h1, h2, k3, hLI⟩ := hP _ _ _ _ hp hq
  subst h2
  rw [Option.some.inj h1]
  refine v_icmp_eq (tgt := 1413) C dL_law_1383 (by decide) hsv hsv (fun _ => ?_) (fun c => absurd rfl c)
  exact V.sb (Sb.bl [1, 0, 2] 3 (fl_app fl1 fl2) fl3 rfl rfl (by decide +kernel)) (V.wid (by omega) (by omega) (nx _ _ _ _ hLI))
set_option maxHeartbeats 2000000 in
set_option maxRecDepth 100000 in
theorem lc_23 {X : vCx} {c0 : Cond} (C : lwC X c0) (M9 : vM X 9) {A : Nat → Nat} {B : Nat → Nat → Nat} {ad : Nat → Nat} {o b L : Nat} {xs : Nat → Int} (Sc : vScr X b L xs) (hxs : ∀ j, sm (xs j)) (hst : (vL X).stackTraces = false) {k n : Nat} (hk : k + 3 ≤ 601024) (hn : n + 18 ≤ 7293034) {i : Int} (hi0 : 0 ≤ i) (hi : i + 6 ≤ (L : Int)) (hL : L ≤ 3072) {g : Int → Int64} {lads : Nat → Nat → Nat} {f bu cf cp ff fp : Int → Int} {Q : Nat → Int → Int → Int} {R : Nat → Int → Int → Int64} {LF : Nat → Int → Int → Int} {LK : Nat → Int → Int → Int64} {z : Int → Int} {M : Int → Int → Int} (T : TI f bu Q R LF LK z M)
    (nx : ∀ (k3 : Int) (w1 w2 : va_W) (g2 : Int → Int64), LIk (vG X) A B ad k3 w1 w2 → V X (k + 3) (n + 18) 1413 (lwL A ad o b i) [] (w1 ++ w2 ++ lwO (vG X) o g2)) : V X k n 1388 (lwL A ad o b i) [] ((tlW (vG X) A B lads f bu cf cp ff fp Q R LF LK z) ++ (mW (vG X) ad M) ++ (lwO (vG X) o g)) := by
  obtain ⟨a1, ha1⟩ : ∃ a, a = xs (i + 1).toNat := ⟨_, rfl⟩
  have hs_a1 : sm a1 := by rw [ha1]; exact hxs _
  have hg := T.1
  have hB : sB 1000000 (M 2) := J_B hg.2.1 (by have := hg.2.2.2.2.1; omega)
  have hQ : ∀ i, sB 1000000 (Q 0 i) := REL_B hg.1 hg.2.1 (by have := hg.2.2.2.2.1; omega)
  have hz6 := GOOD_6 hg
  have hc := T.2.2.1.1
  have h14 : M 0 14 = z 0 := T.2.2.1.2.1
  have hOK : OKL (Q 0) := REL_OKL hg.1 hg.2.1 (by have := hg.2.2.2.2.1; omega)
  have hOKs : OKs (M 2) := J_OKs hg.2.1 (by have := hg.2.2.2.2.1; omega)
  have h7 : 0 ≤ M 2 7 ∧ M 2 7 ≤ 40 := ⟨hg.2.1.1.2.2.2.2.2.1, hg.2.2.2.1⟩
  have h4 : 1 ≤ M 2 4 ∧ M 2 4 ≤ 7 := ⟨hg.2.2.1, hg.2.1.1.2.2.2.1.2⟩
  have h24 : M 0 24 = 0 := T.2.2.2.2.2.2.2.2.2.2
  have h9 : Q 0 0 9 = -1 := hg.2.2.2.2.2.2.1
  have h44 : Q 0 0 4 = M 2 4 := hg.1.1.1.2.2.1
  have hFO : ∀ rd : Int, (rd = 0 ∨ rd = 1) → FOK rd (R 0) (Q 0) 600 := fun rd hr => by
    have t := GOOD_FOK (lost := -1) (b := Q 0 0 4) hr hg (by omega) (by decide)
    rw [foF_id h9] at t
    exact t
  have hGO : ∀ rd lost b : Int, (rd = 0 ∨ rd = 1) → (-1 ≤ lost ∧ lost ≤ 10000) → (0 ≤ b ∧ b ≤ 7) → GOk rd lost b (M 2) := fun rd lost b hr hl hb => J_GOk hr hg.2.1 h7.2 hg.2.2.2.2.1 ⟨by omega, hl.2⟩ hb
  have hM20 : ∀ s, (s = 0 ∨ s = 1) → 0 ≤ M 2 (18 + 11 * s + 0) ∧ M 2 (18 + 11 * s + 0) ≤ 20 := fun s hs => by
    rcases hs with rfl | rfl
    · exact hg.2.1.2.1.1
    · exact hg.2.1.2.2.1.1
  have hz1 : z 1 = 0 ∨ z 1 = 1 := by rw [T.2.2.2.1.1]; exact T.2.2.2.1.2.2.1 0
  have hz2 : z 2 = 0 ∨ z 2 = 1 := by rw [T.2.2.2.1.2.1]; exact T.2.2.2.1.2.2.1 1
  refine v_aload_n C dL_law_1388 rfl 3 rfl ?_
  refine v_aload_n C dL_law_1389 rfl 4 rfl ?_
  refine v_iload C dL_law_1390 0 rfl ?_
  refine v_iconst C dL_law_1392 ?_
  refine v_iadd C dL_law_1393 ?_
  refine v_sld C Sc (i := i + 1) (a := a1) (by omega) (by omega) (by omega) ha1 dL_law_1394 ?_
  refine v_callV (na := 1) (wy := (Cond.code yX7_restoreSnapshot cX7_restoreSnapshot 3 (some .boolean) :: wsL_law)) (wc := (tlW (vG X) A B lads f bu cf cp ff fp Q R LF LK z)) (wr := (mW (vG X) ad M) ++ (lwO (vG X) o g)) C [vI a1] [] (C_X7_restoreSnapshot (vG X) (vL X) A B lads f bu cf cp ff fp Q R LF LK z a1 hs_a1 hz1 hz2 T.2.2.2.1.2.2.2.2.2.1 T.2.2.2.1.2.2.2.2.2.2) rfl (gwV mw_883 mw_880 mw_881 mw_882 mw_2) rfl (by decide +kernel) 0 rfl rfl (hR_k rfl rfl (by omega) (by omega)) rfl (Sb.bl [0, 1, 2] 3 fl3 (fl_app fl1 fl2) rfl rfl (by decide +kernel)) rfl rfl dL_law_1395 (fun r1 w1 hp => ?_)
  have hP := pd_restoreSnapshot (G := vG X) (A := A) (B := B) (ad := ad) (lads := lads) (cf := cf) (cp := cp) (ff := ff) (fp := fp) T a1
  have hr1 := hp
  obtain ⟨v1, hv1⟩ : ∃ v1 : Int, r1 = some (vI v1) := by
    rcases hr1 with ⟨_, rfl, _⟩ | ⟨_, rfl, _⟩ | ⟨_, rfl, _⟩ <;> exact ⟨_, rfl⟩
  subst hv1
  refine v_aload_n C dL_law_1398 rfl 2 rfl ?_
  refine v_aload_n C dL_law_1399 rfl 4 rfl ?_
  refine v_iload C dL_law_1400 0 rfl ?_
  refine v_iconst C dL_law_1402 ?_
  refine v_iadd C dL_law_1403 ?_
  refine v_sld C Sc (i := i + 1) (a := a1) (by omega) (by omega) (by omega) ha1 dL_law_1404 ?_
  refine v_callV (na := 1) (wy := (Cond.code yX8_restoreSnapshot cX8_restoreSnapshot 2 (some .boolean) :: wsL_law)) (wc := (mW (vG X) ad M)) (wr := w1 ++ (lwO (vG X) o g)) C [vI a1] [vI v1] (c_X8_restoreSnapshot (vG X) (vL X) ad M a1 hs_a1 T.2.2.2.1.2.2.1) rfl (gwV mw_887 mw_884 mw_885 mw_886 mw_5) rfl (by decide +kernel) 0 rfl rfl (hR_k rfl rfl (by omega) (by omega)) rfl (Sb.bl [1, 0, 2] 3 (fl_app fl1 fl2) (fl_app fl1 fl2) rfl rfl (by decide +kernel)) rfl rfl dL_law_1405 (fun r2 w2 hq => ?_)
  obtain ⟨v, hsv, h1, h2, k3, hLI⟩ := hP _ _ _ _ hp hq
  subst h2
  rw [Option.some.inj h1]
  refine v_icmp_eq (tgt := 1413) C dL_law_1408 (by decide) hsv hsv (fun _ => ?_) (fun c => absurd rfl c)
  exact V.sb (Sb.bl [1, 0, 2] 3 (fl_app fl1 fl2) fl3 rfl rfl (by decide +kernel)) (V.wid (by omega) (by omega) (nx _ _ _ _ hLI))
set_option maxHeartbeats 2000000 in
set_option maxRecDepth 100000 in
theorem lc_8 {X : vCx} {c0 : Cond} (C : lwC X c0) (M9 : vM X 9) {A : Nat → Nat} {B : Nat → Nat → Nat} {ad : Nat → Nat} {o b L : Nat} {xs : Nat → Int} (Sc : vScr X b L xs) (hxs : ∀ j, sm (xs j)) (hst : (vL X).stackTraces = false) {k n : Nat} (hk : k + 3 ≤ 601024) (hn : n + 18 ≤ 7293034) {i : Int} (hi0 : 0 ≤ i) (hi : i + 6 ≤ (L : Int)) (hL : L ≤ 3072) {g : Int → Int64} {lads : Nat → Nat → Nat} {f bu cf cp ff fp : Int → Int} {Q : Nat → Int → Int → Int} {R : Nat → Int → Int → Int64} {LF : Nat → Int → Int → Int} {LK : Nat → Int → Int → Int64} {z : Int → Int} {M : Int → Int → Int} (T : TI f bu Q R LF LK z M)
    (nx : ∀ (k3 : Int) (w1 w2 : va_W) (g2 : Int → Int64), LIk (vG X) A B ad k3 w1 w2 → V X (k + 3) (n + 18) 1413 (lwL A ad o b i) [] (w1 ++ w2 ++ lwO (vG X) o g2)) : V X k n 591 (lwL A ad o b i) [] ((tlW (vG X) A B lads f bu cf cp ff fp Q R LF LK z) ++ (mW (vG X) ad M) ++ (lwO (vG X) o g)) := by
  obtain ⟨a1, ha1⟩ : ∃ a, a = xs (i + 1).toNat := ⟨_, rfl⟩
  have hs_a1 : sm a1 := by rw [ha1]; exact hxs _
  obtain ⟨a2, ha2⟩ : ∃ a, a = xs (i + 2).toNat := ⟨_, rfl⟩
  have hs_a2 : sm a2 := by rw [ha2]; exact hxs _
  have hg := T.1
  have hB : sB 1000000 (M 2) := J_B hg.2.1 (by have := hg.2.2.2.2.1; omega)
  have hQ : ∀ i, sB 1000000 (Q 0 i) := REL_B hg.1 hg.2.1 (by have := hg.2.2.2.2.1; omega)
  have hz6 := GOOD_6 hg
  have hc := T.2.2.1.1
  have h14 : M 0 14 = z 0 := T.2.2.1.2.1
  have hOK : OKL (Q 0) := REL_OKL hg.1 hg.2.1 (by have := hg.2.2.2.2.1; omega)
  have hOKs : OKs (M 2) := J_OKs hg.2.1 (by have := hg.2.2.2.2.1; omega)
  have h7 : 0 ≤ M 2 7 ∧ M 2 7 ≤ 40 := ⟨hg.2.1.1.2.2.2.2.2.1, hg.2.2.2.1⟩
  have h4 : 1 ≤ M 2 4 ∧ M 2 4 ≤ 7 := ⟨hg.2.2.1, hg.2.1.1.2.2.2.1.2⟩
  have h24 : M 0 24 = 0 := T.2.2.2.2.2.2.2.2.2.2
  have h9 : Q 0 0 9 = -1 := hg.2.2.2.2.2.2.1
  have h44 : Q 0 0 4 = M 2 4 := hg.1.1.1.2.2.1
  have hFO : ∀ rd : Int, (rd = 0 ∨ rd = 1) → FOK rd (R 0) (Q 0) 600 := fun rd hr => by
    have t := GOOD_FOK (lost := -1) (b := Q 0 0 4) hr hg (by omega) (by decide)
    rw [foF_id h9] at t
    exact t
  have hGO : ∀ rd lost b : Int, (rd = 0 ∨ rd = 1) → (-1 ≤ lost ∧ lost ≤ 10000) → (0 ≤ b ∧ b ≤ 7) → GOk rd lost b (M 2) := fun rd lost b hr hl hb => J_GOk hr hg.2.1 h7.2 hg.2.2.2.2.1 ⟨by omega, hl.2⟩ hb
  have hM20 : ∀ s, (s = 0 ∨ s = 1) → 0 ≤ M 2 (18 + 11 * s + 0) ∧ M 2 (18 + 11 * s + 0) ≤ 20 := fun s hs => by
    rcases hs with rfl | rfl
    · exact hg.2.1.2.1.1
    · exact hg.2.1.2.2.1.1
  obtain ⟨rd, hrde⟩ : ∃ rd : Int, rd = bI (¬ a1 = 0) := ⟨_, rfl⟩
  have hrd : rd = 0 ∨ rd = 1 := by rw [hrde]; exact bI_01
  refine v_aload_n C dL_law_591 rfl 3 rfl ?_
  suffices hrdk : V X k n 606 (lwL A ad o b i) [vI rd, .ref (A 0)] ((tlW (vG X) A B lads f bu cf cp ff fp Q R LF LK z) ++ (mW (vG X) ad M) ++ (lwO (vG X) o g)) by
    refine v_aload_n C dL_law_592 rfl 4 rfl ?_
    refine v_iload C dL_law_593 0 rfl ?_
    refine v_iconst C dL_law_595 ?_
    refine v_iadd C dL_law_596 ?_
    refine v_sld C Sc (i := i + 1) (a := a1) (by omega) (by omega) (by omega) ha1 dL_law_597 ?_
    refine v_if_eq (tgt := 605) C dL_law_598 (by decide) hs_a1 (fun c => ?_) (fun c => ?_)
    · refine v_iconst C dL_law_605 ?_
      rw [hrde, bI_f (fun h => h c)] at hrdk
      exact hrdk
    · refine v_iconst C dL_law_601 ?_
      refine v_goto (tgt := 606) C dL_law_602 (by decide) ?_
      rw [hrde, bI_t c] at hrdk
      exact hrdk
  refine v_aload_n C dL_law_606 rfl 4 rfl ?_
  refine v_iload C dL_law_607 0 rfl ?_
  refine v_iconst C dL_law_609 ?_
  refine v_iadd C dL_law_610 ?_
  refine v_sld C Sc (i := i + 2) (a := a2) (by omega) (by omega) (by omega) ha2 dL_law_611 ?_
  refine v_aload_n C dL_law_612 rfl 1 rfl ?_
  have hM := C_X7_until (vG X) (vL X) A B lads f bu cf cp ff fp Q R LF LK z rd a2 hst hrd hs_a2 hz6 (hFO rd hrd)
  refine v_callSH (na := 4) (wy := (Cond.codeWith yL_until cL_until 5 (some .int) [(0, 10, 13, 13)] :: wsL_law)) (wc := (tlW (vG X) A B lads f bu cf cp ff fp Q R LF LK z) ++ (lwO (vG X) o g)) (wr := (mW (vG X) ad M)) C [.ref (A 0), vI rd, vI a2, .ref o] [] (c_L_until (vG X) (vL X) (A 0) o rd a2 (tlW (vG X) A B lads f bu cf cp ff fp Q R LF LK z) _ g _ _ rfl hM (by rintro r w ⟨_, F1, f2, p2, rfl, _⟩; exact ⟨_, rfl⟩) (by rintro E w ⟨rfl, _⟩; exact rfl)) rfl (gwS mw_573 mw_571 mw_572 mw_155) (by decide +kernel) (hR_k rfl rfl (by omega) (by omega)) rfl (Sb.bl [0, 2, 1] 3 fl3 (fl_app fl2 fl1) rfl rfl (by decide +kernel)) rfl rfl dL_law_613 (fun r w9 hp => ?_)
  obtain ⟨w1, g9, kk, rfl, hkk, rfl, hK⟩ := PH_out (ph_until (G := vG X) (A := A) (B := B) (ad := ad) (lads := lads) (cf := cf) (cp := cp) (ff := ff) (fp := fp) T rd a2 hrd) hp
  refine v_istore C M9 dL_law_616 (by decide) (L' := (5, vI kk) :: lwL A ad o b i) rfl ?_
  refine v_aload_n C dL_law_618 rfl 3 rfl ?_
  suffices hrdk : V X (k + 1) (n + 6) 633 ((5, vI kk) :: lwL A ad o b i) [vI rd, .ref (ad 0)] ((w1 ++ (lwO (vG X) o g9)) ++ (mW (vG X) ad M)) by
    refine v_aload_n C dL_law_619 rfl 5 rfl ?_
    refine v_iload C dL_law_620 1 rfl ?_
    refine v_iconst C dL_law_622 ?_
    refine v_iadd C dL_law_623 ?_
    refine v_sld C Sc (i := i + 1) (a := a1) (by omega) (by omega) (by omega) ha1 dL_law_624 ?_
    refine v_if_eq (tgt := 632) C dL_law_625 (by decide) hs_a1 (fun c => ?_) (fun c => ?_)
    · refine v_iconst C dL_law_632 ?_
      rw [hrde, bI_f (fun h => h c)] at hrdk
      exact hrdk
    · refine v_iconst C dL_law_628 ?_
      refine v_goto (tgt := 633) C dL_law_629 (by decide) ?_
      rw [hrde, bI_t c] at hrdk
      exact hrdk
  refine v_aload_n C dL_law_633 rfl 5 rfl ?_
  refine v_iload C dL_law_634 1 rfl ?_
  refine v_iconst C dL_law_636 ?_
  refine v_iadd C dL_law_637 ?_
  refine v_sld C Sc (i := i + 2) (a := a2) (by omega) (by omega) (by omega) ha2 dL_law_638 ?_
  refine v_callV (na := 2) (wy := (Cond.code yX8_until cX8_until 3 (some .int) :: wsL_law)) (wc := (mW (vG X) ad M)) (wr := w1 ++ (lwO (vG X) o g9)) C [vI rd, vI a2] [] (c_X8_until (vG X) (vL X) ad M rd a2 hrd hs_a2 hB h7.1 h7.2 h4 hGO) rfl (gwV mw_639 mw_636 mw_637 mw_638 mw_5) rfl (by decide +kernel) 0 rfl rfl (hR_k rfl rfl (by omega) (by omega)) rfl (Sb.bl [2, 0, 1] 3 (fl_app fl2 fl1) (fl_app fl1 fl2) rfl rfl (by decide +kernel)) rfl rfl dL_law_639 (fun r w2 hq => ?_)
  obtain ⟨v, rfl, hLI, hv⟩ := hK r w2 hq
  exact lw_tail (pc := 642) C M9 hkk hLI hv (by omega) (by omega) dL_law_642 dL_law_644 dL_law_645 dL_law_648 dL_law_650 dL_law_655 dL_law_657 dL_law_660 dL_law_661 dL_law_662 dL_law_663 dL_law_665 dL_law_666 dL_law_667 dL_law_672 (by decide) (V.wid (by omega) (by omega) (nx _ _ _ _ hLI))
end Case5
