section Case2
set_option maxHeartbeats 2000000 in
set_option maxRecDepth 100000 in
theorem lc_9 {X : vCx} {c0 : Cond} (C : lwC X c0) (M9 : vM X 9) {A : Nat → Nat} {B : Nat → Nat → Nat} {ad : Nat → Nat} {o b L : Nat} {xs : Nat → Int} (Sc : vScr X b L xs) (hxs : ∀ j, sm (xs j)) (hst : (vL X).stackTraces = false) {k n : Nat} (hk : k + 3 ≤ 601024) (hn : n + 18 ≤ 7293034) {i : Int} (hi0 : 0 ≤ i) (hi : i + 6 ≤ (L : Int)) (hL : L ≤ 3072) {g : Int → Int64} {lads : Nat → Nat → Nat} {f bu cf cp ff fp : Int → Int} {Q : Nat → Int → Int → Int} {R : Nat → Int → Int → Int64} {LF : Nat → Int → Int → Int} {LK : Nat → Int → Int → Int64} {z : Int → Int} {M : Int → Int → Int} (T : TI f bu Q R LF LK z M)
    (nx : ∀ (k3 : Int) (w1 w2 : va_W) (g2 : Int → Int64), LIk (vG X) A B ad k3 w1 w2 → V X (k + 3) (n + 18) 1413 (lwL A ad o b i) [] (w1 ++ w2 ++ lwO (vG X) o g2)) : V X k n 675 (lwL A ad o b i) [] ((tlW (vG X) A B lads f bu cf cp ff fp Q R LF LK z) ++ (mW (vG X) ad M) ++ (lwO (vG X) o g)) := by
  obtain ⟨a1, ha1⟩ : ∃ a, a = xs (i + 1).toNat := ⟨_, rfl⟩
  have hs_a1 : sm a1 := by rw [ha1]; exact hxs _
  have hg := T.1
  have hB : sB 1000000 (M 2) := J_B hg.2.1 (by have := hg.2.2.2.2.1; omega)
  have hQ : ∀ i, sB 1000000 (Q 0 i) := REL_B hg.1 hg.2.1 (by have := hg.2.2.2.2.1; omega)
  have hz6 := GOOD_6 hg
  have hc := T.2.2.1.1
  have h14 : M 0 14 = z 0 := T.2.2.1.2.1
  have hOK : OKL (Q 0) := REL_OKL hg.1 hg.2.1 (by have := hg.2.2.2.2.1; omega)
  have hOKs : OKs (M 2) := J_OKs hg.2.1 (by have := hg.2.2.2.2.1; omega)
  have h7 : 0 ≤ M 2 7 ∧ M 2 7 ≤ 40 := ⟨hg.2.1.1.2.2.2.2.2.1, hg.2.2.2.1⟩
  have h4 : 1 ≤ M 2 4 ∧ M 2 4 ≤ 7 := ⟨hg.2.2.1, hg.2.1.1.2.2.2.1.2⟩
  have h24 : M 0 24 = 0 := T.2.2.2.2.2.2.2.2.2.2
  have h9 : Q 0 0 9 = -1 := hg.2.2.2.2.2.2.1
  have h44 : Q 0 0 4 = M 2 4 := hg.1.1.1.2.2.1
  have hFO : ∀ rd : Int, (rd = 0 ∨ rd = 1) → FOK rd (R 0) (Q 0) 600 := fun rd hr => by
    have t := GOOD_FOK (lost := -1) (b := Q 0 0 4) hr hg (by omega) (by decide)
    rw [foF_id h9] at t
    exact t
  have hGO : ∀ rd lost b : Int, (rd = 0 ∨ rd = 1) → (-1 ≤ lost ∧ lost ≤ 10000) → (0 ≤ b ∧ b ≤ 7) → GOk rd lost b (M 2) := fun rd lost b hr hl hb => J_GOk hr hg.2.1 h7.2 hg.2.2.2.2.1 ⟨by omega, hl.2⟩ hb
  have hM20 : ∀ s, (s = 0 ∨ s = 1) → 0 ≤ M 2 (18 + 11 * s + 0) ∧ M 2 (18 + 11 * s + 0) ≤ 20 := fun s hs => by
    rcases hs with rfl | rfl
    · exact hg.2.1.2.1.1
    · exact hg.2.1.2.2.1.1
  have hlo : 0 ≤ a1 ∧ a1 < 2000 → FOK 1 (R 0) (up (Q 0) 0 (up (Q 0 0) 9 a1)) 600 := fun c => by
    have t := GOOD_FOK (lost := a1) (b := Q 0 0 4) (Or.inr rfl) hg (by omega) (by omega)
    rw [foF_l] at t
    exact t
  refine v_aload_n C dL_law_675 rfl 3 rfl ?_
  refine v_aload_n C dL_law_676 rfl 4 rfl ?_
  refine v_iload C dL_law_677 0 rfl ?_
  refine v_iconst C dL_law_679 ?_
  refine v_iadd C dL_law_680 ?_
  refine v_sld C Sc (i := i + 1) (a := a1) (by omega) (by omega) (by omega) ha1 dL_law_681 ?_
  refine v_aload_n C dL_law_682 rfl 1 rfl ?_
  have hM := C_X7_delay (vG X) (vL X) A B lads f bu cf cp ff fp Q R LF LK z a1 hst hs_a1 hz6 (hFO 1 (Or.inr rfl)) hlo (tkL_sm (hFO 1 (Or.inr rfl))) (fun c => tkL_sm (hlo c))
  refine v_callSH (na := 3) (wy := (Cond.codeWith yL_delay cL_delay 4 (some .int) [(0, 9, 12, 13)] :: wsL_law)) (wc := (tlW (vG X) A B lads f bu cf cp ff fp Q R LF LK z) ++ (lwO (vG X) o g)) (wr := (mW (vG X) ad M)) C [.ref (A 0), vI a1, .ref o] [] (c_L_delay (vG X) (vL X) (A 0) o (a1) (tlW (vG X) A B lads f bu cf cp ff fp Q R LF LK z) _ g _ _ rfl hM (by rintro r w ⟨_, F1, f2, p2, rfl, _⟩; exact ⟨_, rfl⟩) (by rintro E w ⟨rfl, _⟩; exact rfl)) rfl (gwS mw_673 mw_671 mw_672 mw_155) (by decide +kernel) (hR_k rfl rfl (by omega) (by omega)) rfl (Sb.bl [0, 2, 1] 3 fl3 (fl_app fl2 fl1) rfl rfl (by decide +kernel)) rfl rfl dL_law_683 (fun r w9 hp => ?_)
  obtain ⟨w1, g9, kk, rfl, hkk, rfl, hK⟩ := PH_out (ph_delay (G := vG X) (A := A) (B := B) (ad := ad) (lads := lads) (cf := cf) (cp := cp) (ff := ff) (fp := fp) T a1) hp
  refine v_istore C M9 dL_law_686 (by decide) (L' := (5, vI kk) :: lwL A ad o b i) rfl ?_
  refine v_aload_n C dL_law_688 rfl 3 rfl ?_
  refine v_aload_n C dL_law_689 rfl 5 rfl ?_
  refine v_iload C dL_law_690 1 rfl ?_
  refine v_iconst C dL_law_692 ?_
  refine v_iadd C dL_law_693 ?_
  refine v_sld C Sc (i := i + 1) (a := a1) (by omega) (by omega) (by omega) ha1 dL_law_694 ?_
  refine v_callV (na := 1) (wy := (Cond.code yX8_delay cX8_delay 2 (some .int) :: wsL_law)) (wc := (mW (vG X) ad M)) (wr := w1 ++ (lwO (vG X) o g9)) C [vI a1] [] (c_X8_delay (vG X) (vL X) ad M a1 hs_a1 hB h7.1 h7.2 h4 hGO) rfl (gwV mw_688 mw_685 mw_686 mw_687 mw_5) rfl (by decide +kernel) 0 rfl rfl (hR_k rfl rfl (by omega) (by omega)) rfl (Sb.bl [2, 0, 1] 3 (fl_app fl2 fl1) (fl_app fl1 fl2) rfl rfl (by decide +kernel)) rfl rfl dL_law_695 (fun r w2 hq => ?_)
  obtain ⟨v, rfl, hLI, hv⟩ := hK r w2 hq
  exact lw_tail (pc := 698) C M9 hkk hLI hv (by omega) (by omega) dL_law_698 dL_law_700 dL_law_701 dL_law_704 dL_law_706 dL_law_711 dL_law_713 dL_law_716 dL_law_717 dL_law_718 dL_law_719 dL_law_721 dL_law_722 dL_law_723 dL_law_728 (by decide) (V.wid (by omega) (by omega) (nx _ _ _ _ hLI))
set_option maxHeartbeats 2000000 in
set_option maxRecDepth 100000 in
theorem lc_14 {X : vCx} {c0 : Cond} (C : lwC X c0) (M9 : vM X 9) {A : Nat → Nat} {B : Nat → Nat → Nat} {ad : Nat → Nat} {o b L : Nat} {xs : Nat → Int} (Sc : vScr X b L xs) (hxs : ∀ j, sm (xs j)) (hst : (vL X).stackTraces = false) {k n : Nat} (hk : k + 3 ≤ 601024) (hn : n + 18 ≤ 7293034) {i : Int} (hi0 : 0 ≤ i) (hi : i + 6 ≤ (L : Int)) (hL : L ≤ 3072) {g : Int → Int64} {lads : Nat → Nat → Nat} {f bu cf cp ff fp : Int → Int} {Q : Nat → Int → Int → Int} {R : Nat → Int → Int → Int64} {LF : Nat → Int → Int → Int} {LK : Nat → Int → Int → Int64} {z : Int → Int} {M : Int → Int → Int} (T : TI f bu Q R LF LK z M)
    (nx : ∀ (k3 : Int) (w1 w2 : va_W) (g2 : Int → Int64), LIk (vG X) A B ad k3 w1 w2 → V X (k + 3) (n + 18) 1413 (lwL A ad o b i) [] (w1 ++ w2 ++ lwO (vG X) o g2)) : V X k n 854 (lwL A ad o b i) [] ((tlW (vG X) A B lads f bu cf cp ff fp Q R LF LK z) ++ (mW (vG X) ad M) ++ (lwO (vG X) o g)) := by
  obtain ⟨a1, ha1⟩ : ∃ a, a = xs (i + 1).toNat := ⟨_, rfl⟩
  have hs_a1 : sm a1 := by rw [ha1]; exact hxs _
  obtain ⟨a2, ha2⟩ : ∃ a, a = xs (i + 2).toNat := ⟨_, rfl⟩
  have hs_a2 : sm a2 := by rw [ha2]; exact hxs _
  obtain ⟨a3, ha3⟩ : ∃ a, a = xs (i + 3).toNat := ⟨_, rfl⟩
  have hs_a3 : sm a3 := by rw [ha3]; exact hxs _
  obtain ⟨a4, ha4⟩ : ∃ a, a = xs (i + 4).toNat := ⟨_, rfl⟩
  have hs_a4 : sm a4 := by rw [ha4]; exact hxs _
  have hg := T.1
  have hB : sB 1000000 (M 2) := J_B hg.2.1 (by have := hg.2.2.2.2.1; omega)
  have hQ : ∀ i, sB 1000000 (Q 0 i) := REL_B hg.1 hg.2.1 (by have := hg.2.2.2.2.1; omega)
  have hz6 := GOOD_6 hg
  have hc := T.2.2.1.1
  have h14 : M 0 14 = z 0 := T.2.2.1.2.1
  have hOK : OKL (Q 0) := REL_OKL hg.1 hg.2.1 (by have := hg.2.2.2.2.1; omega)
  have hOKs : OKs (M 2) := J_OKs hg.2.1 (by have := hg.2.2.2.2.1; omega)
  have h7 : 0 ≤ M 2 7 ∧ M 2 7 ≤ 40 := ⟨hg.2.1.1.2.2.2.2.2.1, hg.2.2.2.1⟩
  have h4 : 1 ≤ M 2 4 ∧ M 2 4 ≤ 7 := ⟨hg.2.2.1, hg.2.1.1.2.2.2.1.2⟩
  have h24 : M 0 24 = 0 := T.2.2.2.2.2.2.2.2.2.2
  have h9 : Q 0 0 9 = -1 := hg.2.2.2.2.2.2.1
  have h44 : Q 0 0 4 = M 2 4 := hg.1.1.1.2.2.1
  have hFO : ∀ rd : Int, (rd = 0 ∨ rd = 1) → FOK rd (R 0) (Q 0) 600 := fun rd hr => by
    have t := GOOD_FOK (lost := -1) (b := Q 0 0 4) hr hg (by omega) (by decide)
    rw [foF_id h9] at t
    exact t
  have hGO : ∀ rd lost b : Int, (rd = 0 ∨ rd = 1) → (-1 ≤ lost ∧ lost ≤ 10000) → (0 ≤ b ∧ b ≤ 7) → GOk rd lost b (M 2) := fun rd lost b hr hl hb => J_GOk hr hg.2.1 h7.2 hg.2.2.2.2.1 ⟨by omega, hl.2⟩ hb
  have hM20 : ∀ s, (s = 0 ∨ s = 1) → 0 ≤ M 2 (18 + 11 * s + 0) ∧ M 2 (18 + 11 * s + 0) ≤ 20 := fun s hs => by
    rcases hs with rfl | rfl
    · exact hg.2.1.2.1.1
    · exact hg.2.1.2.2.1.1
  refine v_aload_n C dL_law_854 rfl 3 rfl ?_
  refine v_aload_n C dL_law_855 rfl 4 rfl ?_
  refine v_iload C dL_law_856 0 rfl ?_
  refine v_iconst C dL_law_858 ?_
  refine v_iadd C dL_law_859 ?_
  refine v_sld C Sc (i := i + 1) (a := a1) (by omega) (by omega) (by omega) ha1 dL_law_860 ?_
  refine v_aload_n C dL_law_861 rfl 4 rfl ?_
  refine v_iload C dL_law_862 0 rfl ?_
  refine v_iconst C dL_law_864 ?_
  refine v_iadd C dL_law_865 ?_
  refine v_sld C Sc (i := i + 2) (a := a2) (by omega) (by omega) (by omega) ha2 dL_law_866 ?_
  refine v_aload_n C dL_law_867 rfl 4 rfl ?_
  refine v_iload C dL_law_868 0 rfl ?_
  refine v_iconst C dL_law_870 ?_
  refine v_iadd C dL_law_871 ?_
  refine v_sld C Sc (i := i + 3) (a := a3) (by omega) (by omega) (by omega) ha3 dL_law_872 ?_
  refine v_i2l C dL_law_873 rfl ?_
  refine v_bipush C dL_law_874 (by decide +kernel) ?_
  refine v_lshl C dL_law_876 rfl ?_
  refine v_aload_n C dL_law_877 rfl 4 rfl ?_
  refine v_iload C dL_law_878 0 rfl ?_
  refine v_iconst C dL_law_880 ?_
  refine v_iadd C dL_law_881 ?_
  refine v_sld C Sc (i := i + 4) (a := a4) (by omega) (by omega) (by omega) ha4 dL_law_882 ?_
  refine v_i2l C dL_law_883 rfl ?_
  refine v_ldc2 C (List.mem_cons_of_mem _ mw_7) dL_law_884 ?_
  refine v_land C dL_law_887 ?_
  refine v_lor C dL_law_888 ?_
  refine v_aload_n C dL_law_889 rfl 1 rfl ?_
  have hM := C_X7_put (vG X) (vL X) A B lads f bu cf cp ff fp Q R LF LK z a1 a2 ((iI a3).toInt64 <<< ((iI 32).toInt64 &&& 63) ||| (iI a4).toInt64 &&& 4294967295) hst hs_a1 hs_a2 hQ hc hz6
  refine v_callSH (na := 5) (wy := (Cond.codeWith yL_put cL_put 7 (some .int) [(0, 12, 15, 22), (0, 12, 19, 13), (0, 12, 23, 45)] :: wsL_law)) (wc := (tlW (vG X) A B lads f bu cf cp ff fp Q R LF LK z) ++ (lwO (vG X) o g)) (wr := (mW (vG X) ad M)) C [.ref (A 0), vI a1, vI a2, .long ((iI a3).toInt64 <<< ((iI 32).toInt64 &&& 63) ||| (iI a4).toInt64 &&& 4294967295), .ref o] [] (c_L_put (vG X) (vL X) (A 0) o (a1) (a2) (((iI a3).toInt64 <<< ((iI 32).toInt64 &&& 63) ||| (iI a4).toInt64 &&& 4294967295)) (tlW (vG X) A B lads f bu cf cp ff fp Q R LF LK z) _ g _ _ rfl hM (by rintro r w ⟨l2, F1, K1, _, _, rfl, _⟩; exact ⟨_, rfl⟩) (by rintro E w ⟨_, ⟨rfl, _⟩ | ⟨rfl, _⟩ | ⟨rfl, _⟩⟩; exact Or.inl rfl; exact Or.inr (Or.inl rfl); exact Or.inr (Or.inr rfl))) rfl (gwS mw_745 mw_743 mw_744 mw_155) (by decide +kernel) (hR_k rfl rfl (by omega) (by omega)) rfl (Sb.bl [0, 2, 1] 3 fl3 (fl_app fl2 fl1) rfl rfl (by decide +kernel)) rfl rfl dL_law_890 (fun r w9 hp => ?_)
  obtain ⟨w1, g9, kk, rfl, hkk, rfl, hK⟩ := PH_out (ph_put (G := vG X) (A := A) (B := B) (ad := ad) (lads := lads) (cf := cf) (cp := cp) (ff := ff) (fp := fp) T a1 a2 ((iI a3).toInt64 <<< ((iI 32).toInt64 &&& 63) ||| (iI a4).toInt64 &&& 4294967295)) hp
  refine v_istore C M9 dL_law_893 (by decide) (L' := (5, vI kk) :: lwL A ad o b i) rfl ?_
  refine v_aload_n C dL_law_895 rfl 3 rfl ?_
  refine v_aload_n C dL_law_896 rfl 5 rfl ?_
  refine v_iload C dL_law_897 1 rfl ?_
  refine v_iconst C dL_law_899 ?_
  refine v_iadd C dL_law_900 ?_
  refine v_sld C Sc (i := i + 1) (a := a1) (by omega) (by omega) (by omega) ha1 dL_law_901 ?_
  refine v_aload_n C dL_law_902 rfl 5 rfl ?_
  refine v_iload C dL_law_903 1 rfl ?_
  refine v_iconst C dL_law_905 ?_
  refine v_iadd C dL_law_906 ?_
  refine v_sld C Sc (i := i + 2) (a := a2) (by omega) (by omega) (by omega) ha2 dL_law_907 ?_
  refine v_aload_n C dL_law_908 rfl 5 rfl ?_
  refine v_iload C dL_law_909 1 rfl ?_
  refine v_iconst C dL_law_911 ?_
  refine v_iadd C dL_law_912 ?_
  refine v_sld C Sc (i := i + 3) (a := a3) (by omega) (by omega) (by omega) ha3 dL_law_913 ?_
  refine v_i2l C dL_law_914 rfl ?_
  refine v_bipush C dL_law_915 (by decide +kernel) ?_
  refine v_lshl C dL_law_917 rfl ?_
  refine v_aload_n C dL_law_918 rfl 5 rfl ?_
  refine v_iload C dL_law_919 1 rfl ?_
  refine v_iconst C dL_law_921 ?_
  refine v_iadd C dL_law_922 ?_
  refine v_sld C Sc (i := i + 4) (a := a4) (by omega) (by omega) (by omega) ha4 dL_law_923 ?_
  refine v_i2l C dL_law_924 rfl ?_
  refine v_ldc2 C (List.mem_cons_of_mem _ mw_7) dL_law_925 ?_
  refine v_land C dL_law_928 ?_
  refine v_lor C dL_law_929 ?_
  refine v_callV (na := 3) (wy := (Cond.code yX8_put cX8_put 7 (some .int) :: wsL_law)) (wc := (mW (vG X) ad M)) (wr := w1 ++ (lwO (vG X) o g9)) C [vI a1, vI a2, .long ((iI a3).toInt64 <<< ((iI 32).toInt64 &&& 63) ||| (iI a4).toInt64 &&& 4294967295)] [] (c_X8_put (vG X) (vL X) ad M a1 a2 ((iI a3).toInt64 <<< ((iI 32).toInt64 &&& 63) ||| (iI a4).toInt64 &&& 4294967295) hs_a1 hs_a2 hB (by omega) (by omega) hM20) rfl (gwV mw_771 mw_768 mw_769 mw_770 mw_5) rfl (by decide +kernel) 0 rfl rfl (hR_k rfl rfl (by omega) (by omega)) rfl (Sb.bl [2, 0, 1] 3 (fl_app fl2 fl1) (fl_app fl1 fl2) rfl rfl (by decide +kernel)) rfl rfl dL_law_930 (fun r w2 hq => ?_)
  obtain ⟨v, rfl, hLI, hv⟩ := hK r w2 hq
  exact lw_tail (pc := 933) C M9 hkk hLI hv (by omega) (by omega) dL_law_933 dL_law_935 dL_law_936 dL_law_939 dL_law_941 dL_law_946 dL_law_948 dL_law_951 dL_law_952 dL_law_953 dL_law_954 dL_law_956 dL_law_957 dL_law_958 dL_law_963 (by decide) (V.wid (by omega) (by omega) (nx _ _ _ _ hLI))
set_option maxHeartbeats 2000000 in
set_option maxRecDepth 100000 in
theorem lc_15 {X : vCx} {c0 : Cond} (C : lwC X c0) (M9 : vM X 9) {A : Nat → Nat} {B : Nat → Nat → Nat} {ad : Nat → Nat} {o b L : Nat} {xs : Nat → Int} (Sc : vScr X b L xs) (hxs : ∀ j, sm (xs j)) (hst : (vL X).stackTraces = false) {k n : Nat} (hk : k + 3 ≤ 601024) (hn : n + 18 ≤ 7293034) {i : Int} (hi0 : 0 ≤ i) (hi : i + 6 ≤ (L : Int)) (hL : L ≤ 3072) {g : Int → Int64} {lads : Nat → Nat → Nat} {f bu cf cp ff fp : Int → Int} {Q : Nat → Int → Int → Int} {R : Nat → Int → Int → Int64} {LF : Nat → Int → Int → Int} {LK : Nat → Int → Int → Int64} {z : Int → Int} {M : Int → Int → Int} (T : TI f bu Q R LF LK z M)
    (nx : ∀ (k3 : Int) (w1 w2 : va_W) (g2 : Int → Int64), LIk (vG X) A B ad k3 w1 w2 → V X (k + 3) (n + 18) 1413 (lwL A ad o b i) [] (w1 ++ w2 ++ lwO (vG X) o g2)) : V X k n 966 (lwL A ad o b i) [] ((tlW (vG X) A B lads f bu cf cp ff fp Q R LF LK z) ++ (mW (vG X) ad M) ++ (lwO (vG X) o g)) := by
  obtain ⟨a1, ha1⟩ : ∃ a, a = xs (i + 1).toNat := ⟨_, rfl⟩
  have hs_a1 : sm a1 := by rw [ha1]; exact hxs _
  obtain ⟨a2, ha2⟩ : ∃ a, a = xs (i + 2).toNat := ⟨_, rfl⟩
  have hs_a2 : sm a2 := by rw [ha2]; exact hxs _
  have hg := T.1
  have hB : sB 1000000 (M 2) := J_B hg.2.1 (by have := hg.2.2.2.2.1; omega)
  have hQ : ∀ i, sB 1000000 (Q 0 i) := REL_B hg.1 hg.2.1 (by have := hg.2.2.2.2.1; omega)
  have hz6 := GOOD_6 hg
  have hc := T.2.2.1.1
  have h14 : M 0 14 = z 0 := T.2.2.1.2.1
  have hOK : OKL (Q 0) := REL_OKL hg.1 hg.2.1 (by have := hg.2.2.2.2.1; omega)
  have hOKs : OKs (M 2) := J_OKs hg.2.1 (by have := hg.2.2.2.2.1; omega)
  have h7 : 0 ≤ M 2 7 ∧ M 2 7 ≤ 40 := ⟨hg.2.1.1.2.2.2.2.2.1, hg.2.2.2.1⟩
  have h4 : 1 ≤ M 2 4 ∧ M 2 4 ≤ 7 := ⟨hg.2.2.1, hg.2.1.1.2.2.2.1.2⟩
  have h24 : M 0 24 = 0 := T.2.2.2.2.2.2.2.2.2.2
  have h9 : Q 0 0 9 = -1 := hg.2.2.2.2.2.2.1
  have h44 : Q 0 0 4 = M 2 4 := hg.1.1.1.2.2.1
  have hFO : ∀ rd : Int, (rd = 0 ∨ rd = 1) → FOK rd (R 0) (Q 0) 600 := fun rd hr => by
    have t := GOOD_FOK (lost := -1) (b := Q 0 0 4) hr hg (by omega) (by decide)
    rw [foF_id h9] at t
    exact t
  have hGO : ∀ rd lost b : Int, (rd = 0 ∨ rd = 1) → (-1 ≤ lost ∧ lost ≤ 10000) → (0 ≤ b ∧ b ≤ 7) → GOk rd lost b (M 2) := fun rd lost b hr hl hb => J_GOk hr hg.2.1 h7.2 hg.2.2.2.2.1 ⟨by omega, hl.2⟩ hb
  have hM20 : ∀ s, (s = 0 ∨ s = 1) → 0 ≤ M 2 (18 + 11 * s + 0) ∧ M 2 (18 + 11 * s + 0) ≤ 20 := fun s hs => by
    rcases hs with rfl | rfl
    · exact hg.2.1.2.1.1
    · exact hg.2.1.2.2.1.1
  refine v_aload_n C dL_law_966 rfl 3 rfl ?_
  refine v_aload_n C dL_law_967 rfl 4 rfl ?_
  refine v_iload C dL_law_968 0 rfl ?_
  refine v_iconst C dL_law_970 ?_
  refine v_iadd C dL_law_971 ?_
  refine v_sld C Sc (i := i + 1) (a := a1) (by omega) (by omega) (by omega) ha1 dL_law_972 ?_
  refine v_aload_n C dL_law_973 rfl 4 rfl ?_
  refine v_iload C dL_law_974 0 rfl ?_
  refine v_iconst C dL_law_976 ?_
  refine v_iadd C dL_law_977 ?_
  refine v_sld C Sc (i := i + 2) (a := a2) (by omega) (by omega) (by omega) ha2 dL_law_978 ?_
  refine v_aload_n C dL_law_979 rfl 1 rfl ?_
  have hM := C_X7_read (vG X) (vL X) A B lads f bu cf cp ff fp Q R LF LK z a1 a2 hst hs_a1 hs_a2 hQ hc hz6
  refine v_callSH (na := 4) (wy := (Cond.codeWith yL_read cL_read 5 (some .int) [(0, 10, 13, 22), (0, 10, 17, 13), (0, 10, 21, 45)] :: wsL_law)) (wc := (tlW (vG X) A B lads f bu cf cp ff fp Q R LF LK z) ++ (lwO (vG X) o g)) (wr := (mW (vG X) ad M)) C [.ref (A 0), vI a1, vI a2, .ref o] [] (c_L_read (vG X) (vL X) (A 0) o (a1) (a2) (tlW (vG X) A B lads f bu cf cp ff fp Q R LF LK z) _ g _ _ rfl hM (by rintro r w ⟨l2, F1, K1, _, _, rfl, _⟩; exact ⟨_, rfl⟩) (by rintro E w ⟨_, ⟨rfl, _⟩ | ⟨rfl, _⟩ | ⟨rfl, _⟩⟩; exact Or.inl rfl; exact Or.inr (Or.inl rfl); exact Or.inr (Or.inr rfl))) rfl (gwS mw_779 mw_777 mw_778 mw_155) (by decide +kernel) (hR_k rfl rfl (by omega) (by omega)) rfl (Sb.bl [0, 2, 1] 3 fl3 (fl_app fl2 fl1) rfl rfl (by decide +kernel)) rfl rfl dL_law_980 (fun r w9 hp => ?_)
  obtain ⟨w1, g9, kk, rfl, hkk, rfl, hK⟩ := PH_out (ph_read (G := vG X) (A := A) (B := B) (ad := ad) (lads := lads) (cf := cf) (cp := cp) (ff := ff) (fp := fp) T a1 a2) hp
  refine v_istore C M9 dL_law_983 (by decide) (L' := (5, vI kk) :: lwL A ad o b i) rfl ?_
  refine v_aload_n C dL_law_985 rfl 3 rfl ?_
  refine v_aload_n C dL_law_986 rfl 5 rfl ?_
  refine v_iload C dL_law_987 1 rfl ?_
  refine v_iconst C dL_law_989 ?_
  refine v_iadd C dL_law_990 ?_
  refine v_sld C Sc (i := i + 1) (a := a1) (by omega) (by omega) (by omega) ha1 dL_law_991 ?_
  refine v_aload_n C dL_law_992 rfl 5 rfl ?_
  refine v_iload C dL_law_993 1 rfl ?_
  refine v_iconst C dL_law_995 ?_
  refine v_iadd C dL_law_996 ?_
  refine v_sld C Sc (i := i + 2) (a := a2) (by omega) (by omega) (by omega) ha2 dL_law_997 ?_
  refine v_callV (na := 2) (wy := (Cond.code yX8_read cX8_read 3 (some .int) :: wsL_law)) (wc := (mW (vG X) ad M)) (wr := w1 ++ (lwO (vG X) o g9)) C [vI a1, vI a2] [] (c_X8_read (vG X) (vL X) ad M a1 a2 hs_a1 hs_a2 hB (by omega) (by omega)) rfl (gwV mw_794 mw_791 mw_792 mw_793 mw_5) rfl (by decide +kernel) 0 rfl rfl (hR_k rfl rfl (by omega) (by omega)) rfl (Sb.bl [2, 0, 1] 3 (fl_app fl2 fl1) (fl_app fl1 fl2) rfl rfl (by decide +kernel)) rfl rfl dL_law_998 (fun r w2 hq => ?_)
  obtain ⟨v, rfl, hLI, hv⟩ := hK r w2 hq
  exact lw_tail (pc := 1001) C M9 hkk hLI hv (by omega) (by omega) dL_law_1001 dL_law_1003 dL_law_1004 dL_law_1007 dL_law_1009 dL_law_1014 dL_law_1016 dL_law_1019 dL_law_1020 dL_law_1021 dL_law_1022 dL_law_1024 dL_law_1025 dL_law_1026 dL_law_1031 (by decide) (V.wid (by omega) (by omega) (nx _ _ _ _ hLI))
set_option maxHeartbeats 2000000 in
set_option maxRecDepth 100000 in
theorem lc_16 {X : vCx} {c0 : Cond} (C : lwC X c0) (M9 : vM X 9) {A : Nat → Nat} {B : Nat → Nat → Nat} {ad : Nat → Nat} {o b L : Nat} {xs : Nat → Int} (Sc : vScr X b L xs) (hxs : ∀ j, sm (xs j)) (hst : (vL X).stackTraces = false) {k n : Nat} (hk : k + 3 ≤ 601024) (hn : n + 18 ≤ 7293034) {i : Int} (hi0 : 0 ≤ i) (hi : i + 6 ≤ (L : Int)) (hL : L ≤ 3072) {g : Int → Int64} {lads : Nat → Nat → Nat} {f bu cf cp ff fp : Int → Int} {Q : Nat → Int → Int → Int} {R : Nat → Int → Int → Int64} {LF : Nat → Int → Int → Int} {LK : Nat → Int → Int → Int64} {z : Int → Int} {M : Int → Int → Int} (T : TI f bu Q R LF LK z M)
    (nx : ∀ (k3 : Int) (w1 w2 : va_W) (g2 : Int → Int64), LIk (vG X) A B ad k3 w1 w2 → V X (k + 3) (n + 18) 1413 (lwL A ad o b i) [] (w1 ++ w2 ++ lwO (vG X) o g2)) : V X k n 1034 (lwL A ad o b i) [] ((tlW (vG X) A B lads f bu cf cp ff fp Q R LF LK z) ++ (mW (vG X) ad M) ++ (lwO (vG X) o g)) := by
  obtain ⟨a1, ha1⟩ : ∃ a, a = xs (i + 1).toNat := ⟨_, rfl⟩
  have hs_a1 : sm a1 := by rw [ha1]; exact hxs _
  obtain ⟨a2, ha2⟩ : ∃ a, a = xs (i + 2).toNat := ⟨_, rfl⟩
  have hs_a2 : sm a2 := by rw [ha2]; exact hxs _
  have hg := T.1
  have hB : sB 1000000 (M 2) := J_B hg.2.1 (by have := hg.2.2.2.2.1; omega)
  have hQ : ∀ i, sB 1000000 (Q 0 i) := REL_B hg.1 hg.2.1 (by have := hg.2.2.2.2.1; omega)
  have hz6 := GOOD_6 hg
  have hc := T.2.2.1.1
  have h14 : M 0 14 = z 0 := T.2.2.1.2.1
  have hOK : OKL (Q 0) := REL_OKL hg.1 hg.2.1 (by have := hg.2.2.2.2.1; omega)
  have hOKs : OKs (M 2) := J_OKs hg.2.1 (by have := hg.2.2.2.2.1; omega)
  have h7 : 0 ≤ M 2 7 ∧ M 2 7 ≤ 40 := ⟨hg.2.1.1.2.2.2.2.2.1, hg.2.2.2.1⟩
  have h4 : 1 ≤ M 2 4 ∧ M 2 4 ≤ 7 := ⟨hg.2.2.1, hg.2.1.1.2.2.2.1.2⟩
  have h24 : M 0 24 = 0 := T.2.2.2.2.2.2.2.2.2.2
  have h9 : Q 0 0 9 = -1 := hg.2.2.2.2.2.2.1
  have h44 : Q 0 0 4 = M 2 4 := hg.1.1.1.2.2.1
  have hFO : ∀ rd : Int, (rd = 0 ∨ rd = 1) → FOK rd (R 0) (Q 0) 600 := fun rd hr => by
    have t := GOOD_FOK (lost := -1) (b := Q 0 0 4) hr hg (by omega) (by decide)
    rw [foF_id h9] at t
    exact t
  have hGO : ∀ rd lost b : Int, (rd = 0 ∨ rd = 1) → (-1 ≤ lost ∧ lost ≤ 10000) → (0 ≤ b ∧ b ≤ 7) → GOk rd lost b (M 2) := fun rd lost b hr hl hb => J_GOk hr hg.2.1 h7.2 hg.2.2.2.2.1 ⟨by omega, hl.2⟩ hb
  have hM20 : ∀ s, (s = 0 ∨ s = 1) → 0 ≤ M 2 (18 + 11 * s + 0) ∧ M 2 (18 + 11 * s + 0) ≤ 20 := fun s hs => by
    rcases hs with rfl | rfl
    · exact hg.2.1.2.1.1
    · exact hg.2.1.2.2.1.1
  refine v_aload_n C dL_law_1034 rfl 3 rfl ?_
  refine v_aload_n C dL_law_1035 rfl 4 rfl ?_
  refine v_iload C dL_law_1036 0 rfl ?_
  refine v_iconst C dL_law_1038 ?_
  refine v_iadd C dL_law_1039 ?_
  refine v_sld C Sc (i := i + 1) (a := a1) (by omega) (by omega) (by omega) ha1 dL_law_1040 ?_
  refine v_aload_n C dL_law_1041 rfl 4 rfl ?_
  refine v_iload C dL_law_1042 0 rfl ?_
  refine v_iconst C dL_law_1044 ?_
  refine v_iadd C dL_law_1045 ?_
  refine v_sld C Sc (i := i + 2) (a := a2) (by omega) (by omega) (by omega) ha2 dL_law_1046 ?_
  refine v_aload_n C dL_law_1047 rfl 1 rfl ?_
  have hM := C_X7_askBack (vG X) (vL X) A B lads f bu cf cp ff fp Q R LF LK z a1 a2 hst hs_a1 hs_a2 hQ hc hz6
  refine v_callSH (na := 4) (wy := (Cond.codeWith yL_askBack cL_askBack 5 (some .int) [(0, 10, 13, 22), (0, 10, 17, 13), (0, 10, 21, 45)] :: wsL_law)) (wc := (tlW (vG X) A B lads f bu cf cp ff fp Q R LF LK z) ++ (lwO (vG X) o g)) (wr := (mW (vG X) ad M)) C [.ref (A 0), vI a1, vI a2, .ref o] [] (c_L_askBack (vG X) (vL X) (A 0) o (a1) (a2) (tlW (vG X) A B lads f bu cf cp ff fp Q R LF LK z) _ g _ _ rfl hM (by rintro r w ⟨l2, F1, K1, _, _, rfl, _⟩; exact ⟨_, rfl⟩) (by rintro E w ⟨_, ⟨rfl, _⟩ | ⟨rfl, _⟩ | ⟨rfl, _⟩⟩; exact Or.inl rfl; exact Or.inr (Or.inl rfl); exact Or.inr (Or.inr rfl))) rfl (gwS mw_801 mw_799 mw_800 mw_155) (by decide +kernel) (hR_k rfl rfl (by omega) (by omega)) rfl (Sb.bl [0, 2, 1] 3 fl3 (fl_app fl2 fl1) rfl rfl (by decide +kernel)) rfl rfl dL_law_1048 (fun r w9 hp => ?_)
  obtain ⟨w1, g9, kk, rfl, hkk, rfl, hK⟩ := PH_out (ph_askBack (G := vG X) (A := A) (B := B) (ad := ad) (lads := lads) (cf := cf) (cp := cp) (ff := ff) (fp := fp) T a1 a2) hp
  refine v_istore C M9 dL_law_1051 (by decide) (L' := (5, vI kk) :: lwL A ad o b i) rfl ?_
  refine v_aload_n C dL_law_1053 rfl 3 rfl ?_
  refine v_aload_n C dL_law_1054 rfl 5 rfl ?_
  refine v_iload C dL_law_1055 1 rfl ?_
  refine v_iconst C dL_law_1057 ?_
  refine v_iadd C dL_law_1058 ?_
  refine v_sld C Sc (i := i + 1) (a := a1) (by omega) (by omega) (by omega) ha1 dL_law_1059 ?_
  refine v_aload_n C dL_law_1060 rfl 5 rfl ?_
  refine v_iload C dL_law_1061 1 rfl ?_
  refine v_iconst C dL_law_1063 ?_
  refine v_iadd C dL_law_1064 ?_
  refine v_sld C Sc (i := i + 2) (a := a2) (by omega) (by omega) (by omega) ha2 dL_law_1065 ?_
  refine v_callV (na := 2) (wy := (Cond.code yX8_askBack cX8_askBack 3 (some .int) :: wsL_law)) (wc := (mW (vG X) ad M)) (wr := w1 ++ (lwO (vG X) o g9)) C [vI a1, vI a2] [] (c_X8_askBack (vG X) (vL X) ad M a1 a2 hs_a1 hs_a2 hB (by omega) (by omega)) rfl (gwV mw_809 mw_806 mw_807 mw_808 mw_5) rfl (by decide +kernel) 0 rfl rfl (hR_k rfl rfl (by omega) (by omega)) rfl (Sb.bl [2, 0, 1] 3 (fl_app fl2 fl1) (fl_app fl1 fl2) rfl rfl (by decide +kernel)) rfl rfl dL_law_1066 (fun r w2 hq => ?_)
  obtain ⟨v, rfl, hLI, hv⟩ := hK r w2 hq
  exact lw_tail (pc := 1069) C M9 hkk hLI hv (by omega) (by omega) dL_law_1069 dL_law_1071 dL_law_1072 dL_law_1075 dL_law_1077 dL_law_1082 dL_law_1084 dL_law_1087 dL_law_1088 dL_law_1089 dL_law_1090 dL_law_1092 dL_law_1093 dL_law_1094 dL_law_1099 (by decide) (V.wid (by omega) (by omega) (nx _ _ _ _ hLI))
set_option maxHeartbeats 2000000 in
set_option maxRecDepth 100000 in
theorem lc_17 {X : vCx} {c0 : Cond} (C : lwC X c0) (M9 : vM X 9) {A : Nat → Nat} {B : Nat → Nat → Nat} {ad : Nat → Nat} {o b L : Nat} {xs : Nat → Int} (Sc : vScr X b L xs) (hxs : ∀ j, sm (xs j)) (hst : (vL X).stackTraces = false) {k n : Nat} (hk : k + 3 ≤ 601024) (hn : n + 18 ≤ 7293034) {i : Int} (hi0 : 0 ≤ i) (hi : i + 6 ≤ (L : Int)) (hL : L ≤ 3072) {g : Int → Int64} {lads : Nat → Nat → Nat} {f bu cf cp ff fp : Int → Int} {Q : Nat → Int → Int → Int} {R : Nat → Int → Int → Int64} {LF : Nat → Int → Int → Int} {LK : Nat → Int → Int → Int64} {z : Int → Int} {M : Int → Int → Int} (T : TI f bu Q R LF LK z M)
    (nx : ∀ (k3 : Int) (w1 w2 : va_W) (g2 : Int → Int64), LIk (vG X) A B ad k3 w1 w2 → V X (k + 3) (n + 18) 1413 (lwL A ad o b i) [] (w1 ++ w2 ++ lwO (vG X) o g2)) : V X k n 1102 (lwL A ad o b i) [] ((tlW (vG X) A B lads f bu cf cp ff fp Q R LF LK z) ++ (mW (vG X) ad M) ++ (lwO (vG X) o g)) := by
  obtain ⟨a1, ha1⟩ : ∃ a, a = xs (i + 1).toNat := ⟨_, rfl⟩
  have hs_a1 : sm a1 := by rw [ha1]; exact hxs _
  obtain ⟨a2, ha2⟩ : ∃ a, a = xs (i + 2).toNat := ⟨_, rfl⟩
  have hs_a2 : sm a2 := by rw [ha2]; exact hxs _
  have hg := T.1
  have hB : sB 1000000 (M 2) := J_B hg.2.1 (by have := hg.2.2.2.2.1; omega)
  have hQ : ∀ i, sB 1000000 (Q 0 i) := REL_B hg.1 hg.2.1 (by have := hg.2.2.2.2.1; omega)
  have hz6 := GOOD_6 hg
  have hc := T.2.2.1.1
  have h14 : M 0 14 = z 0 := T.2.2.1.2.1
  have hOK : OKL (Q 0) := REL_OKL hg.1 hg.2.1 (by have := hg.2.2.2.2.1; omega)
  have hOKs : OKs (M 2) := J_OKs hg.2.1 (by have := hg.2.2.2.2.1; omega)
  have h7 : 0 ≤ M 2 7 ∧ M 2 7 ≤ 40 := ⟨hg.2.1.1.2.2.2.2.2.1, hg.2.2.2.1⟩
  have h4 : 1 ≤ M 2 4 ∧ M 2 4 ≤ 7 := ⟨hg.2.2.1, hg.2.1.1.2.2.2.1.2⟩
  have h24 : M 0 24 = 0 := T.2.2.2.2.2.2.2.2.2.2
  have h9 : Q 0 0 9 = -1 := hg.2.2.2.2.2.2.1
  have h44 : Q 0 0 4 = M 2 4 := hg.1.1.1.2.2.1
  have hFO : ∀ rd : Int, (rd = 0 ∨ rd = 1) → FOK rd (R 0) (Q 0) 600 := fun rd hr => by
    have t := GOOD_FOK (lost := -1) (b := Q 0 0 4) hr hg (by omega) (by decide)
    rw [foF_id h9] at t
    exact t
  have hGO : ∀ rd lost b : Int, (rd = 0 ∨ rd = 1) → (-1 ≤ lost ∧ lost ≤ 10000) → (0 ≤ b ∧ b ≤ 7) → GOk rd lost b (M 2) := fun rd lost b hr hl hb => J_GOk hr hg.2.1 h7.2 hg.2.2.2.2.1 ⟨by omega, hl.2⟩ hb
  have hM20 : ∀ s, (s = 0 ∨ s = 1) → 0 ≤ M 2 (18 + 11 * s + 0) ∧ M 2 (18 + 11 * s + 0) ≤ 20 := fun s hs => by
    rcases hs with rfl | rfl
    · exact hg.2.1.2.1.1
    · exact hg.2.1.2.2.1.1
  refine v_aload_n C dL_law_1102 rfl 3 rfl ?_
  refine v_aload_n C dL_law_1103 rfl 4 rfl ?_
  refine v_iload C dL_law_1104 0 rfl ?_
  refine v_iconst C dL_law_1106 ?_
  refine v_iadd C dL_law_1107 ?_
  refine v_sld C Sc (i := i + 1) (a := a1) (by omega) (by omega) (by omega) ha1 dL_law_1108 ?_
  refine v_aload_n C dL_law_1109 rfl 4 rfl ?_
  refine v_iload C dL_law_1110 0 rfl ?_
  refine v_iconst C dL_law_1112 ?_
  refine v_iadd C dL_law_1113 ?_
  refine v_sld C Sc (i := i + 2) (a := a2) (by omega) (by omega) (by omega) ha2 dL_law_1114 ?_
  refine v_aload_n C dL_law_1115 rfl 1 rfl ?_
  have hM := C_X7_grow (vG X) (vL X) A B lads f bu cf cp ff fp Q R LF LK z a1 a2 hst hs_a1 hs_a2 hQ hc hz6
  refine v_callSH (na := 4) (wy := (Cond.codeWith yL_grow cL_grow 5 (some .int) [(0, 10, 13, 22), (0, 10, 17, 13), (0, 10, 21, 45)] :: wsL_law)) (wc := (tlW (vG X) A B lads f bu cf cp ff fp Q R LF LK z) ++ (lwO (vG X) o g)) (wr := (mW (vG X) ad M)) C [.ref (A 0), vI a1, vI a2, .ref o] [] (c_L_grow (vG X) (vL X) (A 0) o (a1) (a2) (tlW (vG X) A B lads f bu cf cp ff fp Q R LF LK z) _ g _ _ rfl hM (by rintro r w ⟨l2, F1, K1, _, _, rfl, _⟩; exact ⟨_, rfl⟩) (by rintro E w ⟨_, ⟨rfl, _⟩ | ⟨rfl, _⟩ | ⟨rfl, _⟩⟩; exact Or.inl rfl; exact Or.inr (Or.inl rfl); exact Or.inr (Or.inr rfl))) rfl (gwS mw_812 mw_810 mw_811 mw_155) (by decide +kernel) (hR_k rfl rfl (by omega) (by omega)) rfl (Sb.bl [0, 2, 1] 3 fl3 (fl_app fl2 fl1) rfl rfl (by decide +kernel)) rfl rfl dL_law_1116 (fun r w9 hp => ?_)
  obtain ⟨w1, g9, kk, rfl, hkk, rfl, hK⟩ := PH_out (ph_grow (G := vG X) (A := A) (B := B) (ad := ad) (lads := lads) (cf := cf) (cp := cp) (ff := ff) (fp := fp) T a1 a2) hp
  refine v_istore C M9 dL_law_1119 (by decide) (L' := (5, vI kk) :: lwL A ad o b i) rfl ?_
  refine v_aload_n C dL_law_1121 rfl 3 rfl ?_
  refine v_aload_n C dL_law_1122 rfl 5 rfl ?_
  refine v_iload C dL_law_1123 1 rfl ?_
  refine v_iconst C dL_law_1125 ?_
  refine v_iadd C dL_law_1126 ?_
  refine v_sld C Sc (i := i + 1) (a := a1) (by omega) (by omega) (by omega) ha1 dL_law_1127 ?_
  refine v_aload_n C dL_law_1128 rfl 5 rfl ?_
  refine v_iload C dL_law_1129 1 rfl ?_
  refine v_iconst C dL_law_1131 ?_
  refine v_iadd C dL_law_1132 ?_
  refine v_sld C Sc (i := i + 2) (a := a2) (by omega) (by omega) (by omega) ha2 dL_law_1133 ?_
  refine v_callV (na := 2) (wy := (Cond.code yX8_grow cX8_grow 3 (some .int) :: wsL_law)) (wc := (mW (vG X) ad M)) (wr := w1 ++ (lwO (vG X) o g9)) C [vI a1, vI a2] [] (c_X8_grow (vG X) (vL X) ad M a1 a2 hs_a1 hs_a2 hB (by omega) (by omega)) rfl (gwV mw_820 mw_817 mw_818 mw_819 mw_5) rfl (by decide +kernel) 0 rfl rfl (hR_k rfl rfl (by omega) (by omega)) rfl (Sb.bl [2, 0, 1] 3 (fl_app fl2 fl1) (fl_app fl1 fl2) rfl rfl (by decide +kernel)) rfl rfl dL_law_1134 (fun r w2 hq => ?_)
  obtain ⟨v, rfl, hLI, hv⟩ := hK r w2 hq
  exact lw_tail (pc := 1137) C M9 hkk hLI hv (by omega) (by omega) dL_law_1137 dL_law_1139 dL_law_1140 dL_law_1143 dL_law_1145 dL_law_1150 dL_law_1152 dL_law_1155 dL_law_1156 dL_law_1157 dL_law_1158 dL_law_1160 dL_law_1161 dL_law_1162 dL_law_1167 (by decide) (V.wid (by omega) (by omega) (nx _ _ _ _ hLI))
end Case2
