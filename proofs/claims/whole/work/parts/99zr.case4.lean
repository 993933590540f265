section Case4
set_option maxHeartbeats 2000000 in
set_option maxRecDepth 100000 in
theorem lc_0 {X : vCx} {c0 : Cond} (C : lwC X c0) (M9 : vM X 9) {A : Nat → Nat} {B : Nat → Nat → Nat} {ad : Nat → Nat} {o b L : Nat} {xs : Nat → Int} (Sc : vScr X b L xs) (hxs : ∀ j, sm (xs j)) (hst : (vL X).stackTraces = false) {k n : Nat} (hk : k + 3 ≤ 601024) (hn : n + 18 ≤ 7293034) {i : Int} (hi0 : 0 ≤ i) (hi : i + 6 ≤ (L : Int)) (hL : L ≤ 3072) {g : Int → Int64} {lads : Nat → Nat → Nat} {f bu cf cp ff fp : Int → Int} {Q : Nat → Int → Int → Int} {R : Nat → Int → Int → Int64} {LF : Nat → Int → Int → Int} {LK : Nat → Int → Int → Int64} {z : Int → Int} {M : Int → Int → Int} (T : TI f bu Q R LF LK z M)
    (nx : ∀ (k3 : Int) (w1 w2 : va_W) (g2 : Int → Int64), LIk (vG X) A B ad k3 w1 w2 → V X (k + 3) (n + 18) 1413 (lwL A ad o b i) [] (w1 ++ w2 ++ lwO (vG X) o g2)) : V X k n 152 (lwL A ad o b i) [] ((tlW (vG X) A B lads f bu cf cp ff fp Q R LF LK z) ++ (mW (vG X) ad M) ++ (lwO (vG X) o g)) := by
  obtain ⟨a1, ha1⟩ : ∃ a, a = xs (i + 1).toNat := ⟨_, rfl⟩
  have hs_a1 : sm a1 := by rw [ha1]; exact hxs _
  obtain ⟨a2, ha2⟩ : ∃ a, a = xs (i + 2).toNat := ⟨_, rfl⟩
  have hs_a2 : sm a2 := by rw [ha2]; exact hxs _
  obtain ⟨a3, ha3⟩ : ∃ a, a = xs (i + 3).toNat := ⟨_, rfl⟩
  have hs_a3 : sm a3 := by rw [ha3]; exact hxs _
  obtain ⟨a4, ha4⟩ : ∃ a, a = xs (i + 4).toNat := ⟨_, rfl⟩
  have hs_a4 : sm a4 := by rw [ha4]; exact hxs _
  obtain ⟨a5, ha5⟩ : ∃ a, a = xs (i + 5).toNat := ⟨_, rfl⟩
  have hs_a5 : sm a5 := by rw [ha5]; exact hxs _
  have hg := T.1
  have hB : sB 1000000 (M 2) := J_B hg.2.1 (by have := hg.2.2.2.2.1; omega)
  have hQ : ∀ i, sB 1000000 (Q 0 i) := REL_B hg.1 hg.2.1 (by have := hg.2.2.2.2.1; omega)
  have hz6 := GOOD_6 hg
  have hc := T.2.2.1.1
  have h14 : M 0 14 = z 0 := T.2.2.1.2.1
  have hOK : OKL (Q 0) := REL_OKL hg.1 hg.2.1 (by have := hg.2.2.2.2.1; omega)
  have hOKs : OKs (M 2) := J_OKs hg.2.1 (by have := hg.2.2.2.2.1; omega)
  have h7 : 0 ≤ M 2 7 ∧ M 2 7 ≤ 40 := ⟨hg.2.1.1.2.2.2.2.2.1, hg.2.2.2.1⟩
  have h4 : 1 ≤ M 2 4 ∧ M 2 4 ≤ 7 := ⟨hg.2.2.1, hg.2.1.1.2.2.2.1.2⟩
  have h24 : M 0 24 = 0 := T.2.2.2.2.2.2.2.2.2.2
  have h9 : Q 0 0 9 = -1 := hg.2.2.2.2.2.2.1
  have h44 : Q 0 0 4 = M 2 4 := hg.1.1.1.2.2.1
  have hFO : ∀ rd : Int, (rd = 0 ∨ rd = 1) → FOK rd (R 0) (Q 0) 600 := fun rd hr => by
    have t := GOOD_FOK (lost := -1) (b := Q 0 0 4) hr hg (by omega) (by decide)
    rw [foF_id h9] at t
    exact t
  have hGO : ∀ rd lost b : Int, (rd = 0 ∨ rd = 1) → (-1 ≤ lost ∧ lost ≤ 10000) → (0 ≤ b ∧ b ≤ 7) → GOk rd lost b (M 2) := fun rd lost b hr hl hb => J_GOk hr hg.2.1 h7.2 hg.2.2.2.2.1 ⟨by omega, hl.2⟩ hb
  have hM20 : ∀ s, (s = 0 ∨ s = 1) → 0 ≤ M 2 (18 + 11 * s + 0) ∧ M 2 (18 + 11 * s + 0) ≤ 20 := fun s hs => by
    rcases hs with rfl | rfl
    · exact hg.2.1.2.1.1
    · exact hg.2.1.2.2.1.1
  have hr5 := TI_RDR T
  obtain ⟨hRO, hRM, hl02, hbu9, hM19, heq⟩ := hr5
  have hl2 : 0 ≤ M 0 2 ∧ M 0 2 ≤ 700 := by rw [← hl02]; exact hRO.2.2.2.2.2.2.2
  refine v_aload_n C dL_law_152 rfl 3 rfl ?_
  refine v_aload_n C dL_law_153 rfl 4 rfl ?_
  refine v_iload C dL_law_154 0 rfl ?_
  refine v_iconst C dL_law_156 ?_
  refine v_iadd C dL_law_157 ?_
  refine v_sld C Sc (i := i + 1) (a := a1) (by omega) (by omega) (by omega) ha1 dL_law_158 ?_
  refine v_aload_n C dL_law_159 rfl 4 rfl ?_
  refine v_iload C dL_law_160 0 rfl ?_
  refine v_iconst C dL_law_162 ?_
  refine v_iadd C dL_law_163 ?_
  refine v_sld C Sc (i := i + 2) (a := a2) (by omega) (by omega) (by omega) ha2 dL_law_164 ?_
  refine v_aload_n C dL_law_165 rfl 4 rfl ?_
  refine v_iload C dL_law_166 0 rfl ?_
  refine v_iconst C dL_law_168 ?_
  refine v_iadd C dL_law_169 ?_
  refine v_sld C Sc (i := i + 3) (a := a3) (by omega) (by omega) (by omega) ha3 dL_law_170 ?_
  refine v_aload_n C dL_law_171 rfl 4 rfl ?_
  refine v_iload C dL_law_172 0 rfl ?_
  refine v_iconst C dL_law_174 ?_
  refine v_iadd C dL_law_175 ?_
  refine v_sld C Sc (i := i + 4) (a := a4) (by omega) (by omega) (by omega) ha4 dL_law_176 ?_
  refine v_aload_n C dL_law_177 rfl 4 rfl ?_
  refine v_iload C dL_law_178 0 rfl ?_
  refine v_iconst C dL_law_180 ?_
  refine v_iadd C dL_law_181 ?_
  refine v_sld C Sc (i := i + 5) (a := a5) (by omega) (by omega) (by omega) ha5 dL_law_182 ?_
  refine v_callV (na := 5) (wy := (Cond.code yX7_append cX7_append 6 (some .int) :: wsL_law)) (wc := (tlW (vG X) A B lads f bu cf cp ff fp Q R LF LK z)) (wr := (mW (vG X) ad M) ++ (lwO (vG X) o g)) C [vI a1, vI a2, vI a3, vI a4, vI a5] [] (C_X7_append (vG X) (vL X) A B lads f bu cf cp ff fp Q R LF LK z a1 a2 a3 a4 a5 u8 (fun _ _ => rfl) (RO_sb hRO) hRO.2.2.2.2.2.2.2.1) rfl (gwV mw_133 mw_130 mw_131 mw_132 mw_2) rfl (by decide +kernel) 0 rfl rfl (hR_k rfl rfl (by omega) (by omega)) rfl (Sb.bl [0, 1, 2] 3 fl3 (fl_app fl1 fl2) rfl rfl (by decide +kernel)) rfl rfl dL_law_183 (fun r1 w1 hp => ?_)
  have hP := pd_append (G := vG X) (A := A) (B := B) (ad := ad) (lads := lads) (cf := cf) (cp := cp) (ff := ff) (fp := fp) T a1 a2 a3 a4 a5
  have hr1 := hp
  obtain ⟨v1, hv1⟩ : ∃ v1 : Int, r1 = some (vI v1) := by
    obtain ⟨f1, b1, ⟨_, _, _, rfl⟩ | ⟨_, _, _, rfl⟩, _⟩ := hr1 <;> exact ⟨_, rfl⟩
  subst hv1
  refine v_aload_n C dL_law_186 rfl 2 rfl ?_
  refine v_aload_n C dL_law_187 rfl 4 rfl ?_
  refine v_iload C dL_law_188 0 rfl ?_
  refine v_iconst C dL_law_190 ?_
  refine v_iadd C dL_law_191 ?_
  refine v_sld C Sc (i := i + 1) (a := a1) (by omega) (by omega) (by omega) ha1 dL_law_192 ?_
  refine v_aload_n C dL_law_193 rfl 4 rfl ?_
  refine v_iload C dL_law_194 0 rfl ?_
  refine v_iconst C dL_law_196 ?_
  refine v_iadd C dL_law_197 ?_
  refine v_sld C Sc (i := i + 2) (a := a2) (by omega) (by omega) (by omega) ha2 dL_law_198 ?_
  refine v_aload_n C dL_law_199 rfl 4 rfl ?_
  refine v_iload C dL_law_200 0 rfl ?_
  refine v_iconst C dL_law_202 ?_
  refine v_iadd C dL_law_203 ?_
  refine v_sld C Sc (i := i + 3) (a := a3) (by omega) (by omega) (by omega) ha3 dL_law_204 ?_
  refine v_aload_n C dL_law_205 rfl 4 rfl ?_
  refine v_iload C dL_law_206 0 rfl ?_
  refine v_iconst C dL_law_208 ?_
  refine v_iadd C dL_law_209 ?_
  refine v_sld C Sc (i := i + 4) (a := a4) (by omega) (by omega) (by omega) ha4 dL_law_210 ?_
  refine v_aload_n C dL_law_211 rfl 4 rfl ?_
  refine v_iload C dL_law_212 0 rfl ?_
  refine v_iconst C dL_law_214 ?_
  refine v_iadd C dL_law_215 ?_
  refine v_sld C Sc (i := i + 5) (a := a5) (by omega) (by omega) (by omega) ha5 dL_law_216 ?_
  refine v_callV (na := 5) (wy := (Cond.code yX8_append cX8_append 6 (some .int) :: wsL_law)) (wc := (mW (vG X) ad M)) (wr := w1 ++ (lwO (vG X) o g)) C [vI a1, vI a2, vI a3, vI a4, vI a5] [vI v1] (c_X8_append (vG X) (vL X) ad M a1 a2 a3 a4 a5 b8 (fun _ _ => rfl) hl2.1 hl2.2) rfl (gwV mw_146 mw_143 mw_144 mw_145 mw_5) rfl (by decide +kernel) 0 rfl rfl (hR_k rfl rfl (by omega) (by omega)) rfl (Sb.bl [1, 0, 2] 3 (fl_app fl1 fl2) (fl_app fl1 fl2) rfl rfl (by decide +kernel)) rfl rfl dL_law_217 (fun r2 w2 hq => ?_)
  obtain ⟨v, hsv, h1, h2, k3, hLI⟩ := hP _ _ _ _ hp hq
  subst h2
  rw [Option.some.inj h1]
  refine v_icmp_eq (tgt := 1413) C dL_law_220 (by decide) hsv hsv (fun _ => ?_) (fun c => absurd rfl c)
  exact V.sb (Sb.bl [1, 0, 2] 3 (fl_app fl1 fl2) fl3 rfl rfl (by decide +kernel)) (V.wid (by omega) (by omega) (nx _ _ _ _ hLI))
set_option maxHeartbeats 2000000 in
set_option maxRecDepth 100000 in
theorem lc_5 {X : vCx} {c0 : Cond} (C : lwC X c0) (M9 : vM X 9) {A : Nat → Nat} {B : Nat → Nat → Nat} {ad : Nat → Nat} {o b L : Nat} {xs : Nat → Int} (Sc : vScr X b L xs) (hxs : ∀ j, sm (xs j)) (hst : (vL X).stackTraces = false) {k n : Nat} (hk : k + 3 ≤ 601024) (hn : n + 18 ≤ 7293034) {i : Int} (hi0 : 0 ≤ i) (hi : i + 6 ≤ (L : Int)) (hL : L ≤ 3072) {g : Int → Int64} {lads : Nat → Nat → Nat} {f bu cf cp ff fp : Int → Int} {Q : Nat → Int → Int → Int} {R : Nat → Int → Int → Int64} {LF : Nat → Int → Int → Int} {LK : Nat → Int → Int → Int64} {z : Int → Int} {M : Int → Int → Int} (T : TI f bu Q R LF LK z M)
    (nx : ∀ (k3 : Int) (w1 w2 : va_W) (g2 : Int → Int64), LIk (vG X) A B ad k3 w1 w2 → V X (k + 3) (n + 18) 1413 (lwL A ad o b i) [] (w1 ++ w2 ++ lwO (vG X) o g2)) : V X k n 485 (lwL A ad o b i) [] ((tlW (vG X) A B lads f bu cf cp ff fp Q R LF LK z) ++ (mW (vG X) ad M) ++ (lwO (vG X) o g)) := by
  obtain ⟨a1, ha1⟩ : ∃ a, a = xs (i + 1).toNat := ⟨_, rfl⟩
  have hs_a1 : sm a1 := by rw [ha1]; exact hxs _
  have hg := T.1
  have hB : sB 1000000 (M 2) := J_B hg.2.1 (by have := hg.2.2.2.2.1; omega)
  have hQ : ∀ i, sB 1000000 (Q 0 i) := REL_B hg.1 hg.2.1 (by have := hg.2.2.2.2.1; omega)
  have hz6 := GOOD_6 hg
  have hc := T.2.2.1.1
  have h14 : M 0 14 = z 0 := T.2.2.1.2.1
  have hOK : OKL (Q 0) := REL_OKL hg.1 hg.2.1 (by have := hg.2.2.2.2.1; omega)
  have hOKs : OKs (M 2) := J_OKs hg.2.1 (by have := hg.2.2.2.2.1; omega)
  have h7 : 0 ≤ M 2 7 ∧ M 2 7 ≤ 40 := ⟨hg.2.1.1.2.2.2.2.2.1, hg.2.2.2.1⟩
  have h4 : 1 ≤ M 2 4 ∧ M 2 4 ≤ 7 := ⟨hg.2.2.1, hg.2.1.1.2.2.2.1.2⟩
  have h24 : M 0 24 = 0 := T.2.2.2.2.2.2.2.2.2.2
  have h9 : Q 0 0 9 = -1 := hg.2.2.2.2.2.2.1
  have h44 : Q 0 0 4 = M 2 4 := hg.1.1.1.2.2.1
  have hFO : ∀ rd : Int, (rd = 0 ∨ rd = 1) → FOK rd (R 0) (Q 0) 600 := fun rd hr => by
    have t := GOOD_FOK (lost := -1) (b := Q 0 0 4) hr hg (by omega) (by decide)
    rw [foF_id h9] at t
    exact t
  have hGO : ∀ rd lost b : Int, (rd = 0 ∨ rd = 1) → (-1 ≤ lost ∧ lost ≤ 10000) → (0 ≤ b ∧ b ≤ 7) → GOk rd lost b (M 2) := fun rd lost b hr hl hb => J_GOk hr hg.2.1 h7.2 hg.2.2.2.2.1 ⟨by omega, hl.2⟩ hb
  have hM20 : ∀ s, (s = 0 ∨ s = 1) → 0 ≤ M 2 (18 + 11 * s + 0) ∧ M 2 (18 + 11 * s + 0) ≤ 20 := fun s hs => by
    rcases hs with rfl | rfl
    · exact hg.2.1.2.1.1
    · exact hg.2.1.2.2.1.1
  refine v_aload_n C dL_law_485 rfl 3 rfl ?_
  refine v_aload_n C dL_law_486 rfl 4 rfl ?_
  refine v_iload C dL_law_487 0 rfl ?_
  refine v_iconst C dL_law_489 ?_
  refine v_iadd C dL_law_490 ?_
  refine v_sld C Sc (i := i + 1) (a := a1) (by omega) (by omega) (by omega) ha1 dL_law_491 ?_
  refine v_callV (na := 1) (wy := (Cond.code yX7_isTold cX7_isTold 2 (some .boolean) :: wsL_law)) (wc := (tlW (vG X) A B lads f bu cf cp ff fp Q R LF LK z)) (wr := (mW (vG X) ad M) ++ (lwO (vG X) o g)) C [vI a1] [] (C_X7_isTold (vG X) (vL X) A B lads f bu cf cp ff fp Q R LF LK z a1 hs_a1) rfl (gwV mw_476 mw_473 mw_474 mw_475 mw_2) rfl (by decide +kernel) 0 rfl rfl (hR_k rfl rfl (by omega) (by omega)) rfl (Sb.bl [0, 1, 2] 3 fl3 (fl_app fl1 fl2) rfl rfl (by decide +kernel)) rfl rfl dL_law_492 (fun r1 w1 hp => ?_)
  have hP := pd_isTold (G := vG X) (A := A) (B := B) (ad := ad) (lads := lads) (cf := cf) (cp := cp) (ff := ff) (fp := fp) T a1
  have hr1 := hp
  obtain ⟨v1, hv1⟩ : ∃ v1 : Int, r1 = some (vI v1) := by
    obtain ⟨rfl, _⟩ := hr1; exact ⟨_, rfl⟩
  subst hv1
  refine v_aload_n C dL_law_495 rfl 2 rfl ?_
  refine v_aload_n C dL_law_496 rfl 4 rfl ?_
  refine v_iload C dL_law_497 0 rfl ?_
  refine v_iconst C dL_law_499 ?_
  refine v_iadd C dL_law_500 ?_
  refine v_sld C Sc (i := i + 1) (a := a1) (by omega) (by omega) (by omega) ha1 dL_law_501 ?_
  refine v_callV (na := 1) (wy := (Cond.code yX8_isTold cX8_isTold 2 (some .boolean) :: wsL_law)) (wc := (mW (vG X) ad M)) (wr := w1 ++ (lwO (vG X) o g)) C [vI a1] [vI v1] (c_X8_isTold (vG X) (vL X) ad M a1 hs_a1 hB h7.1 h7.2) rfl (gwV mw_481 mw_478 mw_479 mw_480 mw_5) rfl (by decide +kernel) 0 rfl rfl (hR_k rfl rfl (by omega) (by omega)) rfl (Sb.bl [1, 0, 2] 3 (fl_app fl1 fl2) (fl_app fl1 fl2) rfl rfl (by decide +kernel)) rfl rfl dL_law_502 (fun r2 w2 hq => ?_)
  obtain ⟨v, hsv, h1, h2, k3, hLI⟩ := hP _ _ _ _ hp hq
  subst h2
  rw [Option.some.inj h1]
  refine v_icmp_eq (tgt := 1413) C dL_law_505 (by decide) hsv hsv (fun _ => ?_) (fun c => absurd rfl c)
  exact V.sb (Sb.bl [1, 0, 2] 3 (fl_app fl1 fl2) fl3 rfl rfl (by decide +kernel)) (V.wid (by omega) (by omega) (nx _ _ _ _ hLI))
set_option maxHeartbeats 2000000 in
set_option maxRecDepth 100000 in
theorem lc_7 {X : vCx} {c0 : Cond} (C : lwC X c0) (M9 : vM X 9) {A : Nat → Nat} {B : Nat → Nat → Nat} {ad : Nat → Nat} {o b L : Nat} {xs : Nat → Int} (Sc : vScr X b L xs) (hxs : ∀ j, sm (xs j)) (hst : (vL X).stackTraces = false) {k n : Nat} (hk : k + 3 ≤ 601024) (hn : n + 18 ≤ 7293034) {i : Int} (hi0 : 0 ≤ i) (hi : i + 6 ≤ (L : Int)) (hL : L ≤ 3072) {g : Int → Int64} {lads : Nat → Nat → Nat} {f bu cf cp ff fp : Int → Int} {Q : Nat → Int → Int → Int} {R : Nat → Int → Int → Int64} {LF : Nat → Int → Int → Int} {LK : Nat → Int → Int → Int64} {z : Int → Int} {M : Int → Int → Int} (T : TI f bu Q R LF LK z M)
    (nx : ∀ (k3 : Int) (w1 w2 : va_W) (g2 : Int → Int64), LIk (vG X) A B ad k3 w1 w2 → V X (k + 3) (n + 18) 1413 (lwL A ad o b i) [] (w1 ++ w2 ++ lwO (vG X) o g2)) : V X k n 566 (lwL A ad o b i) [] ((tlW (vG X) A B lads f bu cf cp ff fp Q R LF LK z) ++ (mW (vG X) ad M) ++ (lwO (vG X) o g)) := by
  obtain ⟨a1, ha1⟩ : ∃ a, a = xs (i + 1).toNat := ⟨_, rfl⟩
  have hs_a1 : sm a1 := by rw [ha1]; exact hxs _
  have hg := T.1
  have hB : sB 1000000 (M 2) := J_B hg.2.1 (by have := hg.2.2.2.2.1; omega)
  have hQ : ∀ i, sB 1000000 (Q 0 i) := REL_B hg.1 hg.2.1 (by have := hg.2.2.2.2.1; omega)
  have hz6 := GOOD_6 hg
  have hc := T.2.2.1.1
  have h14 : M 0 14 = z 0 := T.2.2.1.2.1
  have hOK : OKL (Q 0) := REL_OKL hg.1 hg.2.1 (by have := hg.2.2.2.2.1; omega)
  have hOKs : OKs (M 2) := J_OKs hg.2.1 (by have := hg.2.2.2.2.1; omega)
  have h7 : 0 ≤ M 2 7 ∧ M 2 7 ≤ 40 := ⟨hg.2.1.1.2.2.2.2.2.1, hg.2.2.2.1⟩
  have h4 : 1 ≤ M 2 4 ∧ M 2 4 ≤ 7 := ⟨hg.2.2.1, hg.2.1.1.2.2.2.1.2⟩
  have h24 : M 0 24 = 0 := T.2.2.2.2.2.2.2.2.2.2
  have h9 : Q 0 0 9 = -1 := hg.2.2.2.2.2.2.1
  have h44 : Q 0 0 4 = M 2 4 := hg.1.1.1.2.2.1
  have hFO : ∀ rd : Int, (rd = 0 ∨ rd = 1) → FOK rd (R 0) (Q 0) 600 := fun rd hr => by
    have t := GOOD_FOK (lost := -1) (b := Q 0 0 4) hr hg (by omega) (by decide)
    rw [foF_id h9] at t
    exact t
  have hGO : ∀ rd lost b : Int, (rd = 0 ∨ rd = 1) → (-1 ≤ lost ∧ lost ≤ 10000) → (0 ≤ b ∧ b ≤ 7) → GOk rd lost b (M 2) := fun rd lost b hr hl hb => J_GOk hr hg.2.1 h7.2 hg.2.2.2.2.1 ⟨by omega, hl.2⟩ hb
  have hM20 : ∀ s, (s = 0 ∨ s = 1) → 0 ≤ M 2 (18 + 11 * s + 0) ∧ M 2 (18 + 11 * s + 0) ≤ 20 := fun s hs => by
    rcases hs with rfl | rfl
    · exact hg.2.1.2.1.1
    · exact hg.2.1.2.2.1.1
  refine v_aload_n C dL_law_566 rfl 3 rfl ?_
  refine v_aload_n C dL_law_567 rfl 4 rfl ?_
  refine v_iload C dL_law_568 0 rfl ?_
  refine v_iconst C dL_law_570 ?_
  refine v_iadd C dL_law_571 ?_
  refine v_sld C Sc (i := i + 1) (a := a1) (by omega) (by omega) (by omega) ha1 dL_law_572 ?_
  refine v_callV (na := 1) (wy := (Cond.code yX7_nextByte cX7_nextByte 2 (some .int) :: wsL_law)) (wc := (tlW (vG X) A B lads f bu cf cp ff fp Q R LF LK z)) (wr := (mW (vG X) ad M) ++ (lwO (vG X) o g)) C [vI a1] [] (C_X7_nextByte (vG X) (vL X) A B lads f bu cf cp ff fp Q R LF LK z a1 hs_a1 hQ hOK.2.1 hOK.2.2.1) rfl (gwV mw_562 mw_559 mw_560 mw_561 mw_2) rfl (by decide +kernel) 0 rfl rfl (hR_k rfl rfl (by omega) (by omega)) rfl (Sb.bl [0, 1, 2] 3 fl3 (fl_app fl1 fl2) rfl rfl (by decide +kernel)) rfl rfl dL_law_573 (fun r1 w1 hp => ?_)
  have hP := pd_nextByte (G := vG X) (A := A) (B := B) (ad := ad) (lads := lads) (cf := cf) (cp := cp) (ff := ff) (fp := fp) T a1
  have hr1 := hp
  obtain ⟨v1, hv1⟩ : ∃ v1 : Int, r1 = some (vI v1) := by
    obtain ⟨v0, f2, p2, rfl, _⟩ := hr1; exact ⟨_, rfl⟩
  subst hv1
  refine v_aload_n C dL_law_576 rfl 2 rfl ?_
  refine v_aload_n C dL_law_577 rfl 4 rfl ?_
  refine v_iload C dL_law_578 0 rfl ?_
  refine v_iconst C dL_law_580 ?_
  refine v_iadd C dL_law_581 ?_
  refine v_sld C Sc (i := i + 1) (a := a1) (by omega) (by omega) (by omega) ha1 dL_law_582 ?_
  refine v_callV (na := 1) (wy := (Cond.code yX8_nextByte cX8_nextByte 2 (some .int) :: wsL_law)) (wc := (mW (vG X) ad M)) (wr := w1 ++ (lwO (vG X) o g)) C [vI a1] [vI v1] (c_X8_nextByte (vG X) (vL X) ad M a1 hs_a1 hOKs.1 hB hOKs.2.2.2.1 hOKs.2.2.2.2) rfl (gwV mw_570 mw_567 mw_568 mw_569 mw_5) rfl (by decide +kernel) 0 rfl rfl (hR_k rfl rfl (by omega) (by omega)) rfl (Sb.bl [1, 0, 2] 3 (fl_app fl1 fl2) (fl_app fl1 fl2) rfl rfl (by decide +kernel)) rfl rfl dL_law_583 (fun r2 w2 hq => ?_)
  obtain ⟨v, hsv, h1, h2, k3, hLI⟩ := hP _ _ _ _ hp hq
  subst h2
  rw [Option.some.inj h1]
  refine v_icmp_eq (tgt := 1413) C dL_law_586 (by decide) hsv hsv (fun _ => ?_) (fun c => absurd rfl c)
  exact V.sb (Sb.bl [1, 0, 2] 3 (fl_app fl1 fl2) fl3 rfl rfl (by decide +kernel)) (V.wid (by omega) (by omega) (nx _ _ _ _ hLI))
set_option maxHeartbeats 2000000 in
set_option maxRecDepth 100000 in
theorem lc_10 {X : vCx} {c0 : Cond} (C : lwC X c0) (M9 : vM X 9) {A : Nat → Nat} {B : Nat → Nat → Nat} {ad : Nat → Nat} {o b L : Nat} {xs : Nat → Int} (Sc : vScr X b L xs) (hxs : ∀ j, sm (xs j)) (hst : (vL X).stackTraces = false) {k n : Nat} (hk : k + 3 ≤ 601024) (hn : n + 18 ≤ 7293034) {i : Int} (hi0 : 0 ≤ i) (hi : i + 6 ≤ (L : Int)) (hL : L ≤ 3072) {g : Int → Int64} {lads : Nat → Nat → Nat} {f bu cf cp ff fp : Int → Int} {Q : Nat → Int → Int → Int} {R : Nat → Int → Int → Int64} {LF : Nat → Int → Int → Int} {LK : Nat → Int → Int → Int64} {z : Int → Int} {M : Int → Int → Int} (T : TI f bu Q R LF LK z M)
    (nx : ∀ (k3 : Int) (w1 w2 : va_W) (g2 : Int → Int64), LIk (vG X) A B ad k3 w1 w2 → V X (k + 3) (n + 18) 1413 (lwL A ad o b i) [] (w1 ++ w2 ++ lwO (vG X) o g2)) : V X k n 731 (lwL A ad o b i) [] ((tlW (vG X) A B lads f bu cf cp ff fp Q R LF LK z) ++ (mW (vG X) ad M) ++ (lwO (vG X) o g)) := by
  have hg := T.1
  have hB : sB 1000000 (M 2) := J_B hg.2.1 (by have := hg.2.2.2.2.1; omega)
  have hQ : ∀ i, sB 1000000 (Q 0 i) := REL_B hg.1 hg.2.1 (by have := hg.2.2.2.2.1; omega)
  have hz6 := GOOD_6 hg
  have hc := T.2.2.1.1
  have h14 : M 0 14 = z 0 := T.2.2.1.2.1
  have hOK : OKL (Q 0) := REL_OKL hg.1 hg.2.1 (by have := hg.2.2.2.2.1; omega)
  have hOKs : OKs (M 2) := J_OKs hg.2.1 (by have := hg.2.2.2.2.1; omega)
  have h7 : 0 ≤ M 2 7 ∧ M 2 7 ≤ 40 := ⟨hg.2.1.1.2.2.2.2.2.1, hg.2.2.2.1⟩
  have h4 : 1 ≤ M 2 4 ∧ M 2 4 ≤ 7 := ⟨hg.2.2.1, hg.2.1.1.2.2.2.1.2⟩
  have h24 : M 0 24 = 0 := T.2.2.2.2.2.2.2.2.2.2
  have h9 : Q 0 0 9 = -1 := hg.2.2.2.2.2.2.1
  have h44 : Q 0 0 4 = M 2 4 := hg.1.1.1.2.2.1
  have hFO : ∀ rd : Int, (rd = 0 ∨ rd = 1) → FOK rd (R 0) (Q 0) 600 := fun rd hr => by
    have t := GOOD_FOK (lost := -1) (b := Q 0 0 4) hr hg (by omega) (by decide)
    rw [foF_id h9] at t
    exact t
  have hGO : ∀ rd lost b : Int, (rd = 0 ∨ rd = 1) → (-1 ≤ lost ∧ lost ≤ 10000) → (0 ≤ b ∧ b ≤ 7) → GOk rd lost b (M 2) := fun rd lost b hr hl hb => J_GOk hr hg.2.1 h7.2 hg.2.2.2.2.1 ⟨by omega, hl.2⟩ hb
  have hM20 : ∀ s, (s = 0 ∨ s = 1) → 0 ≤ M 2 (18 + 11 * s + 0) ∧ M 2 (18 + 11 * s + 0) ≤ 20 := fun s hs => by
    rcases hs with rfl | rfl
    · exact hg.2.1.2.1.1
    · exact hg.2.1.2.2.1.1
  have h30 : 0 ≤ M 2 3 ∧ M 2 3 ≤ 5000 := ⟨hg.2.1.2.2.2.2.2.2, by have := hg.2.2.2.2.1; omega⟩
  refine v_aload_n C dL_law_731 rfl 3 rfl ?_
  refine v_callV (na := 0) (wy := (Cond.code yX7_worstFrame cX7_worstFrame 1 (some .int) :: wsL_law)) (wc := (tlW (vG X) A B lads f bu cf cp ff fp Q R LF LK z)) (wr := (mW (vG X) ad M) ++ (lwO (vG X) o g)) C [] [] (C_X7_worstFrame (vG X) (vL X) A B lads f bu cf cp ff fp Q R LF LK z (hFO 1 (Or.inr rfl)) (GOOD_hwo hg)) rfl (gwV mw_696 mw_693 mw_694 mw_695 mw_2) rfl (by decide +kernel) 0 rfl rfl (hR_k rfl rfl (by omega) (by omega)) rfl (Sb.bl [0, 1, 2] 3 fl3 (fl_app fl1 fl2) rfl rfl (by decide +kernel)) rfl rfl dL_law_732 (fun r1 w1 hp => ?_)
  have hP := pd_worstFrame (G := vG X) (A := A) (B := B) (ad := ad) (lads := lads) (cf := cf) (cp := cp) (ff := ff) (fp := fp) T 
  have hr1 := hp
  obtain ⟨v1, hv1⟩ : ∃ v1 : Int, r1 = some (vI v1) := by
    obtain ⟨F1, F3, K1, K3, f2, p2, rfl, _⟩ := hr1; exact ⟨_, rfl⟩
  subst hv1
  refine v_aload_n C dL_law_735 rfl 2 rfl ?_
  refine v_callV (na := 0) (wy := (Cond.code yX8_worstFrame cX8_worstFrame 6 (some .int) :: wsL_law)) (wc := (mW (vG X) ad M)) (wr := w1 ++ (lwO (vG X) o g)) C [] [vI v1] (c_X8_worstFrame (vG X) (vL X) ad M hB h7.1 h7.2 h4 hGO h30) rfl (gwV mw_706 mw_703 mw_704 mw_705 mw_5) rfl (by decide +kernel) 0 rfl rfl (hR_k rfl rfl (by omega) (by omega)) rfl (Sb.bl [1, 0, 2] 3 (fl_app fl1 fl2) (fl_app fl1 fl2) rfl rfl (by decide +kernel)) rfl rfl dL_law_736 (fun r2 w2 hq => ?_)
  obtain ⟨v, hsv, h1, h2, k3, hLI⟩ := hP _ _ _ _ hp hq
  subst h2
  rw [Option.some.inj h1]
  refine v_icmp_eq (tgt := 1413) C dL_law_739 (by decide) hsv hsv (fun _ => ?_) (fun c => absurd rfl c)
  exact V.sb (Sb.bl [1, 0, 2] 3 (fl_app fl1 fl2) fl3 rfl rfl (by decide +kernel)) (V.wid (by omega) (by omega) (nx _ _ _ _ hLI))
set_option maxHeartbeats 2000000 in
set_option maxRecDepth 100000 in
theorem lc_11 {X : vCx} {c0 : Cond} (C : lwC X c0) (M9 : vM X 9) {A : Nat → Nat} {B : Nat → Nat → Nat} {ad : Nat → Nat} {o b L : Nat} {xs : Nat → Int} (Sc : vScr X b L xs) (hxs : ∀ j, sm (xs j)) (hst : (vL X).stackTraces = false) {k n : Nat} (hk : k + 3 ≤ 601024) (hn : n + 18 ≤ 7293034) {i : Int} (hi0 : 0 ≤ i) (hi : i + 6 ≤ (L : Int)) (hL : L ≤ 3072) {g : Int → Int64} {lads : Nat → Nat → Nat} {f bu cf cp ff fp : Int → Int} {Q : Nat → Int → Int → Int} {R : Nat → Int → Int → Int64} {LF : Nat → Int → Int → Int} {LK : Nat → Int → Int → Int64} {z : Int → Int} {M : Int → Int → Int} (T : TI f bu Q R LF LK z M)
    (nx : ∀ (k3 : Int) (w1 w2 : va_W) (g2 : Int → Int64), LIk (vG X) A B ad k3 w1 w2 → V X (k + 3) (n + 18) 1413 (lwL A ad o b i) [] (w1 ++ w2 ++ lwO (vG X) o g2)) : V X k n 744 (lwL A ad o b i) [] ((tlW (vG X) A B lads f bu cf cp ff fp Q R LF LK z) ++ (mW (vG X) ad M) ++ (lwO (vG X) o g)) := by
  have hg := T.1
  have hB : sB 1000000 (M 2) := J_B hg.2.1 (by have := hg.2.2.2.2.1; omega)
  have hQ : ∀ i, sB 1000000 (Q 0 i) := REL_B hg.1 hg.2.1 (by have := hg.2.2.2.2.1; omega)
  have hz6 := GOOD_6 hg
  have hc := T.2.2.1.1
  have h14 : M 0 14 = z 0 := T.2.2.1.2.1
  have hOK : OKL (Q 0) := REL_OKL hg.1 hg.2.1 (by have := hg.2.2.2.2.1; omega)
  have hOKs : OKs (M 2) := J_OKs hg.2.1 (by have := hg.2.2.2.2.1; omega)
  have h7 : 0 ≤ M 2 7 ∧ M 2 7 ≤ 40 := ⟨hg.2.1.1.2.2.2.2.2.1, hg.2.2.2.1⟩
  have h4 : 1 ≤ M 2 4 ∧ M 2 4 ≤ 7 := ⟨hg.2.2.1, hg.2.1.1.2.2.2.1.2⟩
  have h24 : M 0 24 = 0 := T.2.2.2.2.2.2.2.2.2.2
  have h9 : Q 0 0 9 = -1 := hg.2.2.2.2.2.2.1
  have h44 : Q 0 0 4 = M 2 4 := hg.1.1.1.2.2.1
  have hFO : ∀ rd : Int, (rd = 0 ∨ rd = 1) → FOK rd (R 0) (Q 0) 600 := fun rd hr => by
    have t := GOOD_FOK (lost := -1) (b := Q 0 0 4) hr hg (by omega) (by decide)
    rw [foF_id h9] at t
    exact t
  have hGO : ∀ rd lost b : Int, (rd = 0 ∨ rd = 1) → (-1 ≤ lost ∧ lost ≤ 10000) → (0 ≤ b ∧ b ≤ 7) → GOk rd lost b (M 2) := fun rd lost b hr hl hb => J_GOk hr hg.2.1 h7.2 hg.2.2.2.2.1 ⟨by omega, hl.2⟩ hb
  have hM20 : ∀ s, (s = 0 ∨ s = 1) → 0 ≤ M 2 (18 + 11 * s + 0) ∧ M 2 (18 + 11 * s + 0) ≤ 20 := fun s hs => by
    rcases hs with rfl | rfl
    · exact hg.2.1.2.1.1
    · exact hg.2.1.2.2.1.1
  have hbo : ∀ n : Int, 1 ≤ n → n ≤ 7 → FOK 1 (R 0) (up (Q 0) 0 (up (Q 0 0) 4 n)) 600 ∧ sm (tkL 1 (R 0) (up (Q 0) 0 (up (Q 0 0) 4 n))) := fun n h1 h2 => by
    have t := GOOD_FOK (lost := -1) (b := n) (Or.inr rfl) hg (by omega) (by decide)
    rw [foF_b h9] at t
    exact ⟨t, tkL_sm t⟩
  refine v_aload_n C dL_law_744 rfl 3 rfl ?_
  refine v_callV (na := 0) (wy := (Cond.code yX7_bestBurst cX7_bestBurst 1 (some .int) :: wsL_law)) (wc := (tlW (vG X) A B lads f bu cf cp ff fp Q R LF LK z)) (wr := (mW (vG X) ad M) ++ (lwO (vG X) o g)) C [] [] (C_X7_bestBurst (vG X) (vL X) A B lads f bu cf cp ff fp Q R LF LK z hz6 hbo) rfl (gwV mw_710 mw_707 mw_708 mw_709 mw_2) rfl (by decide +kernel) 0 rfl rfl (hR_k rfl rfl (by omega) (by omega)) rfl (Sb.bl [0, 1, 2] 3 fl3 (fl_app fl1 fl2) rfl rfl (by decide +kernel)) rfl rfl dL_law_745 (fun r1 w1 hp => ?_)
  have hP := pd_bestBurst (G := vG X) (A := A) (B := B) (ad := ad) (lads := lads) (cf := cf) (cp := cp) (ff := ff) (fp := fp) T 
  have hr1 := hp
  obtain ⟨v1, hv1⟩ : ∃ v1 : Int, r1 = some (vI v1) := by
    obtain ⟨F1, K1, f2, p2, rfl, _⟩ := hr1; exact ⟨_, rfl⟩
  subst hv1
  refine v_aload_n C dL_law_748 rfl 2 rfl ?_
  refine v_callV (na := 0) (wy := (Cond.code yX8_bestBurst cX8_bestBurst 4 (some .int) :: wsL_law)) (wc := (mW (vG X) ad M)) (wr := w1 ++ (lwO (vG X) o g)) C [] [vI v1] (c_X8_bestBurst (vG X) (vL X) ad M hB h7.1 h7.2 h4 hGO h24) rfl (gwV mw_718 mw_715 mw_716 mw_717 mw_5) rfl (by decide +kernel) 0 rfl rfl (hR_k rfl rfl (by omega) (by omega)) rfl (Sb.bl [1, 0, 2] 3 (fl_app fl1 fl2) (fl_app fl1 fl2) rfl rfl (by decide +kernel)) rfl rfl dL_law_749 (fun r2 w2 hq => ?_)
  obtain ⟨v, hsv, h1, h2, k3, hLI⟩ := hP _ _ _ _ hp hq
  subst h2
  rw [Option.some.inj h1]
  refine v_icmp_eq (tgt := 1413) C dL_law_752 (by decide) hsv hsv (fun _ => ?_) (fun c => absurd rfl c)
  exact V.sb (Sb.bl [1, 0, 2] 3 (fl_app fl1 fl2) fl3 rfl rfl (by decide +kernel)) (V.wid (by omega) (by omega) (nx _ _ _ _ hLI))
end Case4
