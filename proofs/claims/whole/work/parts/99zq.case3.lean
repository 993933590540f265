section Case3
set_option maxHeartbeats 2000000 in
set_option maxRecDepth 100000 in
theorem lc_1 {X : vCx} {c0 : Cond} (C : lwC X c0) (M9 : vM X 9) {A : Nat → Nat} {B : Nat → Nat → Nat} {ad : Nat → Nat} {o b L : Nat} {xs : Nat → Int} (Sc : vScr X b L xs) (hxs : ∀ j, sm (xs j)) (hst : (vL X).stackTraces = false) {k n : Nat} (hk : k + 3 ≤ 601024) (hn : n + 18 ≤ 7293034) {i : Int} (hi0 : 0 ≤ i) (hi : i + 6 ≤ (L : Int)) (hL : L ≤ 3072) {g : Int → Int64} {lads : Nat → Nat → Nat} {f bu cf cp ff fp : Int → Int} {Q : Nat → Int → Int → Int} {R : Nat → Int → Int → Int64} {LF : Nat → Int → Int → Int} {LK : Nat → Int → Int → Int64} {z : Int → Int} {M : Int → Int → Int} (T : TI f bu Q R LF LK z M)
    (nx : ∀ (k3 : Int) (w1 w2 : va_W) (g2 : Int → Int64), LIk (vG X) A B ad k3 w1 w2 → V X (k + 3) (n + 18) 1413 (lwL A ad o b i) [] (w1 ++ w2 ++ lwO (vG X) o g2)) : V X k n 225 (lwL A ad o b i) [] ((tlW (vG X) A B lads f bu cf cp ff fp Q R LF LK z) ++ (mW (vG X) ad M) ++ (lwO (vG X) o g)) := by
  obtain ⟨a1, ha1⟩ : ∃ a, a = xs (i + 1).toNat := ⟨_, rfl⟩
  have hs_a1 : sm a1 := by rw [ha1]; exact hxs _
  have hg := T.1
  have hB : sB 1000000 (M 2) := J_B hg.2.1 (by have := hg.2.2.2.2.1; omega)
  have hQ : ∀ i, sB 1000000 (Q 0 i) := REL_B hg.1 hg.2.1 (by have := hg.2.2.2.2.1; omega)
  have hz6 := GOOD_6 hg
  have hc := T.2.2.1.1
  have h14 : M 0 14 = z 0 := T.2.2.1.2.1
  have hOK : OKL (Q 0) := REL_OKL hg.1 hg.2.1 (by have := hg.2.2.2.2.1; omega)
  have hOKs : OKs (M 2) := J_OKs hg.2.1 (by have := hg.2.2.2.2.1; omega)
  have h7 : 0 ≤ M 2 7 ∧ M 2 7 ≤ 40 := ⟨hg.2.1.1.2.2.2.2.2.1, hg.2.2.2.1⟩
  have h4 : 1 ≤ M 2 4 ∧ M 2 4 ≤ 7 := ⟨hg.2.2.1, hg.2.1.1.2.2.2.1.2⟩
  have h24 : M 0 24 = 0 := T.2.2.2.2.2.2.2.2.2.2
  have h9 : Q 0 0 9 = -1 := hg.2.2.2.2.2.2.1
  have h44 : Q 0 0 4 = M 2 4 := hg.1.1.1.2.2.1
  have hFO : ∀ rd : Int, (rd = 0 ∨ rd = 1) → FOK rd (R 0) (Q 0) 600 := fun rd hr => by
    have t := GOOD_FOK (lost := -1) (b := Q 0 0 4) hr hg (by omega) (by decide)
    rw [foF_id h9] at t
    exact t
  have hGO : ∀ rd lost b : Int, (rd = 0 ∨ rd = 1) → (-1 ≤ lost ∧ lost ≤ 10000) → (0 ≤ b ∧ b ≤ 7) → GOk rd lost b (M 2) := fun rd lost b hr hl hb => J_GOk hr hg.2.1 h7.2 hg.2.2.2.2.1 ⟨by omega, hl.2⟩ hb
  have hM20 : ∀ s, (s = 0 ∨ s = 1) → 0 ≤ M 2 (18 + 11 * s + 0) ∧ M 2 (18 + 11 * s + 0) ≤ 20 := fun s hs => by
    rcases hs with rfl | rfl
    · exact hg.2.1.2.1.1
    · exact hg.2.1.2.2.1.1
  have hr5 := TI_RDR T
  obtain ⟨hRO, hRM, hl02, hbu9, hM19, heq⟩ := hr5
  have hl2 : 0 ≤ M 0 2 ∧ M 0 2 ≤ 700 := by rw [← hl02]; exact hRO.2.2.2.2.2.2.2
  have hF1 : ∀ i, sB 2000 (Q 1 i) := by rw [T.2.1.1]; exact liI_B
  have hz1 : Q 1 0 6 = 0 ∨ Q 1 0 6 = 1 := by rw [T.2.1.1]; exact Or.inl rfl
  have hT1 := TI_hT (q := a1) T
  refine v_aload_n C dL_law_225 rfl 3 rfl ?_
  refine v_aload_n C dL_law_226 rfl 4 rfl ?_
  refine v_iload C dL_law_227 0 rfl ?_
  refine v_iconst C dL_law_229 ?_
  refine v_iadd C dL_law_230 ?_
  refine v_sld C Sc (i := i + 1) (a := a1) (by omega) (by omega) (by omega) ha1 dL_law_231 ?_
  refine v_aload_n C dL_law_232 rfl 1 rfl ?_
  have hM := C_X7_parse (vG X) (vL X) A B lads f bu cf cp ff fp Q R LF LK z a1 hst hs_a1 hRO (sB_mono (by decide) hbu9) hF1 hz1 hT1
  refine v_callSH (na := 3) (wy := (Cond.codeWith yL_parse cL_parse 4 (some .int) [(0, 9, 12, 13)] :: wsL_law)) (wc := (tlW (vG X) A B lads f bu cf cp ff fp Q R LF LK z) ++ (lwO (vG X) o g)) (wr := (mW (vG X) ad M)) C [.ref (A 0), vI a1, .ref o] [] (c_L_parse (vG X) (vL X) (A 0) o (a1) (tlW (vG X) A B lads f bu cf cp ff fp Q R LF LK z) _ g _ _ rfl hM (by rintro r w ⟨_, tx, F1, F2, K1, K2, f1, c0, c1, c2, _, _, ⟨_, _, _, _, _, _, rfl⟩ | ⟨_, _, _, _, _, _, rfl⟩, _⟩; exact ⟨_, rfl⟩; exact ⟨_, rfl⟩) (by rintro E w ⟨_, rfl, _⟩; exact rfl)) rfl (gwS mw_156 mw_153 mw_154 mw_155) (by decide +kernel) (hR_k rfl rfl (by omega) (by omega)) rfl (Sb.bl [0, 2, 1] 3 fl3 (fl_app fl2 fl1) rfl rfl (by decide +kernel)) rfl rfl dL_law_233 (fun r w9 hp => ?_)
  obtain ⟨w1, g9, kk, rfl, hkk, rfl, hK⟩ := PH_out (ph_parse (G := vG X) (A := A) (B := B) (ad := ad) (lads := lads) (cf := cf) (cp := cp) (ff := ff) (fp := fp) T a1) hp
  refine v_istore C M9 dL_law_236 (by decide) (L' := (5, vI kk) :: lwL A ad o b i) rfl ?_
  refine v_aload_n C dL_law_238 rfl 3 rfl ?_
  refine v_aload_n C dL_law_239 rfl 5 rfl ?_
  refine v_iload C dL_law_240 1 rfl ?_
  refine v_iconst C dL_law_242 ?_
  refine v_iadd C dL_law_243 ?_
  refine v_sld C Sc (i := i + 1) (a := a1) (by omega) (by omega) (by omega) ha1 dL_law_244 ?_
  refine v_callV (na := 1) (wy := (Cond.code yX8_parse cX8_parse 2 (some .int) :: wsL_law)) (wc := (mW (vG X) ad M)) (wr := w1 ++ (lwO (vG X) o g9)) C [vI a1] [] (c_X8_parse (vG X) (vL X) ad M a1 hRM (sB_mono (by decide) hM19) hs_a1 ⟨hl2.1, hl2.2⟩ hB) rfl (gwV mw_333 mw_330 mw_331 mw_332 mw_5) rfl (by decide +kernel) 0 rfl rfl (hR_k rfl rfl (by omega) (by omega)) rfl (Sb.bl [2, 0, 1] 3 (fl_app fl2 fl1) (fl_app fl1 fl2) rfl rfl (by decide +kernel)) rfl rfl dL_law_245 (fun r w2 hq => ?_)
  obtain ⟨v, rfl, hLI, hv⟩ := hK r w2 hq
  exact lw_tail (pc := 248) C M9 hkk hLI hv (by omega) (by omega) dL_law_248 dL_law_250 dL_law_251 dL_law_254 dL_law_256 dL_law_261 dL_law_263 dL_law_266 dL_law_267 dL_law_268 dL_law_269 dL_law_271 dL_law_272 dL_law_273 dL_law_278 (by decide) (V.wid (by omega) (by omega) (nx _ _ _ _ hLI))
set_option maxHeartbeats 2000000 in
set_option maxRecDepth 100000 in
theorem lc_18 {X : vCx} {c0 : Cond} (C : lwC X c0) (M9 : vM X 9) {A : Nat → Nat} {B : Nat → Nat → Nat} {ad : Nat → Nat} {o b L : Nat} {xs : Nat → Int} (Sc : vScr X b L xs) (hxs : ∀ j, sm (xs j)) (hst : (vL X).stackTraces = false) {k n : Nat} (hk : k + 3 ≤ 601024) (hn : n + 18 ≤ 7293034) {i : Int} (hi0 : 0 ≤ i) (hi : i + 6 ≤ (L : Int)) (hL : L ≤ 3072) {g : Int → Int64} {lads : Nat → Nat → Nat} {f bu cf cp ff fp : Int → Int} {Q : Nat → Int → Int → Int} {R : Nat → Int → Int → Int64} {LF : Nat → Int → Int → Int} {LK : Nat → Int → Int → Int64} {z : Int → Int} {M : Int → Int → Int} (T : TI f bu Q R LF LK z M)
    (nx : ∀ (k3 : Int) (w1 w2 : va_W) (g2 : Int → Int64), LIk (vG X) A B ad k3 w1 w2 → V X (k + 3) (n + 18) 1413 (lwL A ad o b i) [] (w1 ++ w2 ++ lwO (vG X) o g2)) : V X k n 1170 (lwL A ad o b i) [] ((tlW (vG X) A B lads f bu cf cp ff fp Q R LF LK z) ++ (mW (vG X) ad M) ++ (lwO (vG X) o g)) := by
  obtain ⟨a1, ha1⟩ : ∃ a, a = xs (i + 1).toNat := ⟨_, rfl⟩
  have hs_a1 : sm a1 := by rw [ha1]; exact hxs _
  have hg := T.1
  have hB : sB 1000000 (M 2) := J_B hg.2.1 (by have := hg.2.2.2.2.1; omega)
  have hQ : ∀ i, sB 1000000 (Q 0 i) := REL_B hg.1 hg.2.1 (by have := hg.2.2.2.2.1; omega)
  have hz6 := GOOD_6 hg
  have hc := T.2.2.1.1
  have h14 : M 0 14 = z 0 := T.2.2.1.2.1
  have hOK : OKL (Q 0) := REL_OKL hg.1 hg.2.1 (by have := hg.2.2.2.2.1; omega)
  have hOKs : OKs (M 2) := J_OKs hg.2.1 (by have := hg.2.2.2.2.1; omega)
  have h7 : 0 ≤ M 2 7 ∧ M 2 7 ≤ 40 := ⟨hg.2.1.1.2.2.2.2.2.1, hg.2.2.2.1⟩
  have h4 : 1 ≤ M 2 4 ∧ M 2 4 ≤ 7 := ⟨hg.2.2.1, hg.2.1.1.2.2.2.1.2⟩
  have h24 : M 0 24 = 0 := T.2.2.2.2.2.2.2.2.2.2
  have h9 : Q 0 0 9 = -1 := hg.2.2.2.2.2.2.1
  have h44 : Q 0 0 4 = M 2 4 := hg.1.1.1.2.2.1
  have hFO : ∀ rd : Int, (rd = 0 ∨ rd = 1) → FOK rd (R 0) (Q 0) 600 := fun rd hr => by
    have t := GOOD_FOK (lost := -1) (b := Q 0 0 4) hr hg (by omega) (by decide)
    rw [foF_id h9] at t
    exact t
  have hGO : ∀ rd lost b : Int, (rd = 0 ∨ rd = 1) → (-1 ≤ lost ∧ lost ≤ 10000) → (0 ≤ b ∧ b ≤ 7) → GOk rd lost b (M 2) := fun rd lost b hr hl hb => J_GOk hr hg.2.1 h7.2 hg.2.2.2.2.1 ⟨by omega, hl.2⟩ hb
  have hM20 : ∀ s, (s = 0 ∨ s = 1) → 0 ≤ M 2 (18 + 11 * s + 0) ∧ M 2 (18 + 11 * s + 0) ≤ 20 := fun s hs => by
    rcases hs with rfl | rfl
    · exact hg.2.1.2.1.1
    · exact hg.2.1.2.2.1.1
  refine v_aload_n C dL_law_1170 rfl 3 rfl ?_
  refine v_aload_n C dL_law_1171 rfl 4 rfl ?_
  refine v_iload C dL_law_1172 0 rfl ?_
  refine v_iconst C dL_law_1174 ?_
  refine v_iadd C dL_law_1175 ?_
  refine v_sld C Sc (i := i + 1) (a := a1) (by omega) (by omega) (by omega) ha1 dL_law_1176 ?_
  refine v_aload_n C dL_law_1177 rfl 1 rfl ?_
  have hM := C_X7_lose (vG X) (vL X) A B lads f bu cf cp ff fp Q R LF LK z a1 hst hs_a1 hQ hc hz6
  refine v_callSH (na := 3) (wy := (Cond.codeWith yL_lose cL_lose 4 (some .int) [(0, 9, 12, 13), (0, 9, 15, 45)] :: wsL_law)) (wc := (tlW (vG X) A B lads f bu cf cp ff fp Q R LF LK z) ++ (lwO (vG X) o g)) (wr := (mW (vG X) ad M)) C [.ref (A 0), vI a1, .ref o] [] (c_L_lose (vG X) (vL X) (A 0) o (a1) (tlW (vG X) A B lads f bu cf cp ff fp Q R LF LK z) _ g _ _ rfl hM (by rintro r w ⟨l2, F1, K1, _, _, rfl, _⟩; exact ⟨_, rfl⟩) (by rintro E w ⟨_, ⟨rfl, _⟩ | ⟨rfl, _⟩⟩; exact Or.inl rfl; exact Or.inr rfl)) rfl (gwS mw_823 mw_821 mw_822 mw_155) (by decide +kernel) (hR_k rfl rfl (by omega) (by omega)) rfl (Sb.bl [0, 2, 1] 3 fl3 (fl_app fl2 fl1) rfl rfl (by decide +kernel)) rfl rfl dL_law_1178 (fun r w9 hp => ?_)
  obtain ⟨w1, g9, kk, rfl, hkk, rfl, hK⟩ := PH_out (ph_lose (G := vG X) (A := A) (B := B) (ad := ad) (lads := lads) (cf := cf) (cp := cp) (ff := ff) (fp := fp) T a1) hp
  refine v_istore C M9 dL_law_1181 (by decide) (L' := (5, vI kk) :: lwL A ad o b i) rfl ?_
  refine v_aload_n C dL_law_1183 rfl 3 rfl ?_
  refine v_aload_n C dL_law_1184 rfl 5 rfl ?_
  refine v_iload C dL_law_1185 1 rfl ?_
  refine v_iconst C dL_law_1187 ?_
  refine v_iadd C dL_law_1188 ?_
  refine v_sld C Sc (i := i + 1) (a := a1) (by omega) (by omega) (by omega) ha1 dL_law_1189 ?_
  refine v_callV (na := 1) (wy := (Cond.code yX8_lose cX8_lose 2 (some .int) :: wsL_law)) (wc := (mW (vG X) ad M)) (wr := w1 ++ (lwO (vG X) o g9)) C [vI a1] [] (c_X8_lose (vG X) (vL X) ad M a1 hs_a1 hB h7.1 h7.2 (by omega) (by omega)) rfl (gwV mw_832 mw_829 mw_830 mw_831 mw_5) rfl (by decide +kernel) 0 rfl rfl (hR_k rfl rfl (by omega) (by omega)) rfl (Sb.bl [2, 0, 1] 3 (fl_app fl2 fl1) (fl_app fl1 fl2) rfl rfl (by decide +kernel)) rfl rfl dL_law_1190 (fun r w2 hq => ?_)
  obtain ⟨v, rfl, hLI, hv⟩ := hK r w2 hq
  exact lw_tail (pc := 1193) C M9 hkk hLI hv (by omega) (by omega) dL_law_1193 dL_law_1195 dL_law_1196 dL_law_1199 dL_law_1201 dL_law_1206 dL_law_1208 dL_law_1211 dL_law_1212 dL_law_1213 dL_law_1214 dL_law_1216 dL_law_1217 dL_law_1218 dL_law_1223 (by decide) (V.wid (by omega) (by omega) (nx _ _ _ _ hLI))
set_option maxHeartbeats 2000000 in
set_option maxRecDepth 100000 in
theorem lc_19 {X : vCx} {c0 : Cond} (C : lwC X c0) (M9 : vM X 9) {A : Nat → Nat} {B : Nat → Nat → Nat} {ad : Nat → Nat} {o b L : Nat} {xs : Nat → Int} (Sc : vScr X b L xs) (hxs : ∀ j, sm (xs j)) (hst : (vL X).stackTraces = false) {k n : Nat} (hk : k + 3 ≤ 601024) (hn : n + 18 ≤ 7293034) {i : Int} (hi0 : 0 ≤ i) (hi : i + 6 ≤ (L : Int)) (hL : L ≤ 3072) {g : Int → Int64} {lads : Nat → Nat → Nat} {f bu cf cp ff fp : Int → Int} {Q : Nat → Int → Int → Int} {R : Nat → Int → Int → Int64} {LF : Nat → Int → Int → Int} {LK : Nat → Int → Int → Int64} {z : Int → Int} {M : Int → Int → Int} (T : TI f bu Q R LF LK z M)
    (nx : ∀ (k3 : Int) (w1 w2 : va_W) (g2 : Int → Int64), LIk (vG X) A B ad k3 w1 w2 → V X (k + 3) (n + 18) 1413 (lwL A ad o b i) [] (w1 ++ w2 ++ lwO (vG X) o g2)) : V X k n 1226 (lwL A ad o b i) [] ((tlW (vG X) A B lads f bu cf cp ff fp Q R LF LK z) ++ (mW (vG X) ad M) ++ (lwO (vG X) o g)) := by
  obtain ⟨a1, ha1⟩ : ∃ a, a = xs (i + 1).toNat := ⟨_, rfl⟩
  have hs_a1 : sm a1 := by rw [ha1]; exact hxs _
  obtain ⟨a2, ha2⟩ : ∃ a, a = xs (i + 2).toNat := ⟨_, rfl⟩
  have hs_a2 : sm a2 := by rw [ha2]; exact hxs _
  have hg := T.1
  have hB : sB 1000000 (M 2) := J_B hg.2.1 (by have := hg.2.2.2.2.1; omega)
  have hQ : ∀ i, sB 1000000 (Q 0 i) := REL_B hg.1 hg.2.1 (by have := hg.2.2.2.2.1; omega)
  have hz6 := GOOD_6 hg
  have hc := T.2.2.1.1
  have h14 : M 0 14 = z 0 := T.2.2.1.2.1
  have hOK : OKL (Q 0) := REL_OKL hg.1 hg.2.1 (by have := hg.2.2.2.2.1; omega)
  have hOKs : OKs (M 2) := J_OKs hg.2.1 (by have := hg.2.2.2.2.1; omega)
  have h7 : 0 ≤ M 2 7 ∧ M 2 7 ≤ 40 := ⟨hg.2.1.1.2.2.2.2.2.1, hg.2.2.2.1⟩
  have h4 : 1 ≤ M 2 4 ∧ M 2 4 ≤ 7 := ⟨hg.2.2.1, hg.2.1.1.2.2.2.1.2⟩
  have h24 : M 0 24 = 0 := T.2.2.2.2.2.2.2.2.2.2
  have h9 : Q 0 0 9 = -1 := hg.2.2.2.2.2.2.1
  have h44 : Q 0 0 4 = M 2 4 := hg.1.1.1.2.2.1
  have hFO : ∀ rd : Int, (rd = 0 ∨ rd = 1) → FOK rd (R 0) (Q 0) 600 := fun rd hr => by
    have t := GOOD_FOK (lost := -1) (b := Q 0 0 4) hr hg (by omega) (by decide)
    rw [foF_id h9] at t
    exact t
  have hGO : ∀ rd lost b : Int, (rd = 0 ∨ rd = 1) → (-1 ≤ lost ∧ lost ≤ 10000) → (0 ≤ b ∧ b ≤ 7) → GOk rd lost b (M 2) := fun rd lost b hr hl hb => J_GOk hr hg.2.1 h7.2 hg.2.2.2.2.1 ⟨by omega, hl.2⟩ hb
  have hM20 : ∀ s, (s = 0 ∨ s = 1) → 0 ≤ M 2 (18 + 11 * s + 0) ∧ M 2 (18 + 11 * s + 0) ≤ 20 := fun s hs => by
    rcases hs with rfl | rfl
    · exact hg.2.1.2.1.1
    · exact hg.2.1.2.2.1.1
  refine v_aload_n C dL_law_1226 rfl 3 rfl ?_
  refine v_aload_n C dL_law_1227 rfl 4 rfl ?_
  refine v_iload C dL_law_1228 0 rfl ?_
  refine v_iconst C dL_law_1230 ?_
  refine v_iadd C dL_law_1231 ?_
  refine v_sld C Sc (i := i + 1) (a := a1) (by omega) (by omega) (by omega) ha1 dL_law_1232 ?_
  refine v_aload_n C dL_law_1233 rfl 4 rfl ?_
  refine v_iload C dL_law_1234 0 rfl ?_
  refine v_iconst C dL_law_1236 ?_
  refine v_iadd C dL_law_1237 ?_
  refine v_sld C Sc (i := i + 2) (a := a2) (by omega) (by omega) (by omega) ha2 dL_law_1238 ?_
  refine v_aload_n C dL_law_1239 rfl 1 rfl ?_
  have hM := C_X7_set (vG X) (vL X) A B lads f bu cf cp ff fp Q R LF LK z a1 a2 hst hs_a1 hs_a2 hQ hc hz6
  refine v_callSH (na := 4) (wy := (Cond.codeWith yL_set cL_set 5 (some .int) [(0, 10, 13, 13)] :: wsL_law)) (wc := (tlW (vG X) A B lads f bu cf cp ff fp Q R LF LK z) ++ (lwO (vG X) o g)) (wr := (mW (vG X) ad M)) C [.ref (A 0), vI a1, vI a2, .ref o] [] (c_L_set (vG X) (vL X) (A 0) o (a1) (a2) (tlW (vG X) A B lads f bu cf cp ff fp Q R LF LK z) _ g _ _ rfl hM (by rintro r w ⟨l2, F1, K1, _, _, rfl, _⟩; exact ⟨_, rfl⟩) (by rintro E w ⟨_, rfl, _⟩; exact rfl)) rfl (gwS mw_835 mw_833 mw_834 mw_155) (by decide +kernel) (hR_k rfl rfl (by omega) (by omega)) rfl (Sb.bl [0, 2, 1] 3 fl3 (fl_app fl2 fl1) rfl rfl (by decide +kernel)) rfl rfl dL_law_1240 (fun r w9 hp => ?_)
  obtain ⟨w1, g9, kk, rfl, hkk, rfl, hK⟩ := PH_out (ph_set (G := vG X) (A := A) (B := B) (ad := ad) (lads := lads) (cf := cf) (cp := cp) (ff := ff) (fp := fp) T a1 a2) hp
  refine v_istore C M9 dL_law_1243 (by decide) (L' := (5, vI kk) :: lwL A ad o b i) rfl ?_
  refine v_aload_n C dL_law_1245 rfl 3 rfl ?_
  refine v_aload_n C dL_law_1246 rfl 5 rfl ?_
  refine v_iload C dL_law_1247 1 rfl ?_
  refine v_iconst C dL_law_1249 ?_
  refine v_iadd C dL_law_1250 ?_
  refine v_sld C Sc (i := i + 1) (a := a1) (by omega) (by omega) (by omega) ha1 dL_law_1251 ?_
  refine v_aload_n C dL_law_1252 rfl 5 rfl ?_
  refine v_iload C dL_law_1253 1 rfl ?_
  refine v_iconst C dL_law_1255 ?_
  refine v_iadd C dL_law_1256 ?_
  refine v_sld C Sc (i := i + 2) (a := a2) (by omega) (by omega) (by omega) ha2 dL_law_1257 ?_
  refine v_callV (na := 2) (wy := (Cond.code yX8_set cX8_set 4 (some .int) :: wsL_law)) (wc := (mW (vG X) ad M)) (wr := w1 ++ (lwO (vG X) o g9)) C [vI a1, vI a2] [] (c_X8_set (vG X) (vL X) ad M a1 a2 hs_a1 hs_a2 (by omega) (by omega)) rfl (gwV mw_843 mw_840 mw_841 mw_842 mw_5) rfl (by decide +kernel) 0 rfl rfl (hR_k rfl rfl (by omega) (by omega)) rfl (Sb.bl [2, 0, 1] 3 (fl_app fl2 fl1) (fl_app fl1 fl2) rfl rfl (by decide +kernel)) rfl rfl dL_law_1258 (fun r w2 hq => ?_)
  obtain ⟨v, rfl, hLI, hv⟩ := hK r w2 hq
  exact lw_tail (pc := 1261) C M9 hkk hLI hv (by omega) (by omega) dL_law_1261 dL_law_1263 dL_law_1264 dL_law_1267 dL_law_1269 dL_law_1274 dL_law_1276 dL_law_1279 dL_law_1280 dL_law_1281 dL_law_1282 dL_law_1284 dL_law_1285 dL_law_1286 dL_law_1291 (by decide) (V.wid (by omega) (by omega) (nx _ _ _ _ hLI))
set_option maxHeartbeats 2000000 in
set_option maxRecDepth 100000 in
theorem lc_20 {X : vCx} {c0 : Cond} (C : lwC X c0) (M9 : vM X 9) {A : Nat → Nat} {B : Nat → Nat → Nat} {ad : Nat → Nat} {o b L : Nat} {xs : Nat → Int} (Sc : vScr X b L xs) (hxs : ∀ j, sm (xs j)) (hst : (vL X).stackTraces = false) {k n : Nat} (hk : k + 3 ≤ 601024) (hn : n + 18 ≤ 7293034) {i : Int} (hi0 : 0 ≤ i) (hi : i + 6 ≤ (L : Int)) (hL : L ≤ 3072) {g : Int → Int64} {lads : Nat → Nat → Nat} {f bu cf cp ff fp : Int → Int} {Q : Nat → Int → Int → Int} {R : Nat → Int → Int → Int64} {LF : Nat → Int → Int → Int} {LK : Nat → Int → Int → Int64} {z : Int → Int} {M : Int → Int → Int} (T : TI f bu Q R LF LK z M)
    (nx : ∀ (k3 : Int) (w1 w2 : va_W) (g2 : Int → Int64), LIk (vG X) A B ad k3 w1 w2 → V X (k + 3) (n + 18) 1413 (lwL A ad o b i) [] (w1 ++ w2 ++ lwO (vG X) o g2)) : V X k n 1294 (lwL A ad o b i) [] ((tlW (vG X) A B lads f bu cf cp ff fp Q R LF LK z) ++ (mW (vG X) ad M) ++ (lwO (vG X) o g)) := by
  obtain ⟨a1, ha1⟩ : ∃ a, a = xs (i + 1).toNat := ⟨_, rfl⟩
  have hs_a1 : sm a1 := by rw [ha1]; exact hxs _
  have hg := T.1
  have hB : sB 1000000 (M 2) := J_B hg.2.1 (by have := hg.2.2.2.2.1; omega)
  have hQ : ∀ i, sB 1000000 (Q 0 i) := REL_B hg.1 hg.2.1 (by have := hg.2.2.2.2.1; omega)
  have hz6 := GOOD_6 hg
  have hc := T.2.2.1.1
  have h14 : M 0 14 = z 0 := T.2.2.1.2.1
  have hOK : OKL (Q 0) := REL_OKL hg.1 hg.2.1 (by have := hg.2.2.2.2.1; omega)
  have hOKs : OKs (M 2) := J_OKs hg.2.1 (by have := hg.2.2.2.2.1; omega)
  have h7 : 0 ≤ M 2 7 ∧ M 2 7 ≤ 40 := ⟨hg.2.1.1.2.2.2.2.2.1, hg.2.2.2.1⟩
  have h4 : 1 ≤ M 2 4 ∧ M 2 4 ≤ 7 := ⟨hg.2.2.1, hg.2.1.1.2.2.2.1.2⟩
  have h24 : M 0 24 = 0 := T.2.2.2.2.2.2.2.2.2.2
  have h9 : Q 0 0 9 = -1 := hg.2.2.2.2.2.2.1
  have h44 : Q 0 0 4 = M 2 4 := hg.1.1.1.2.2.1
  have hFO : ∀ rd : Int, (rd = 0 ∨ rd = 1) → FOK rd (R 0) (Q 0) 600 := fun rd hr => by
    have t := GOOD_FOK (lost := -1) (b := Q 0 0 4) hr hg (by omega) (by decide)
    rw [foF_id h9] at t
    exact t
  have hGO : ∀ rd lost b : Int, (rd = 0 ∨ rd = 1) → (-1 ≤ lost ∧ lost ≤ 10000) → (0 ≤ b ∧ b ≤ 7) → GOk rd lost b (M 2) := fun rd lost b hr hl hb => J_GOk hr hg.2.1 h7.2 hg.2.2.2.2.1 ⟨by omega, hl.2⟩ hb
  have hM20 : ∀ s, (s = 0 ∨ s = 1) → 0 ≤ M 2 (18 + 11 * s + 0) ∧ M 2 (18 + 11 * s + 0) ≤ 20 := fun s hs => by
    rcases hs with rfl | rfl
    · exact hg.2.1.2.1.1
    · exact hg.2.1.2.2.1.1
  have e50 : Q 0 5 0 = M 2 3 := by
    have t := acc_eq hg (q := 0) (by decide)
    rw [t]
    exact hg.2.1.2.2.2.2.1.1
  have hok : (1 ≤ a1 ∧ a1 ≤ 100) → Q 0 5 0 + a1 ≤ 2000 → ∀ j : Nat, (j : Int) < a1 → OKL (itL 0 (R 0) (Q 0) j) := fun h1 h2 j hj => by
    have t := GOOD_run hg j (by omega)
    exact REL_OKL t.1 t.2.1 (by have := t.2.2.2.2.1; omega)
  have hokM : (1 ≤ a1 ∧ a1 ≤ 100) → M 2 3 + a1 ≤ 2000 → ∀ j : Nat, (j : Int) < a1 → OKs (itF (M 0 24) (M 2) j) := fun h1 h2 j hj => by
    rw [h24]
    have t := GOOD_run hg j (by omega)
    exact J_OKs t.2.1 (by have := t.2.2.2.2.1; omega)
  refine v_aload_n C dL_law_1294 rfl 3 rfl ?_
  refine v_aload_n C dL_law_1295 rfl 4 rfl ?_
  refine v_iload C dL_law_1296 0 rfl ?_
  refine v_iconst C dL_law_1298 ?_
  refine v_iadd C dL_law_1299 ?_
  refine v_sld C Sc (i := i + 1) (a := a1) (by omega) (by omega) (by omega) ha1 dL_law_1300 ?_
  refine v_aload_n C dL_law_1301 rfl 1 rfl ?_
  have hM := C_X7_run2 (vG X) (vL X) A B lads f bu cf cp ff fp Q R LF LK z a1 hst hs_a1 hok hQ hc hz6
  refine v_callSH (na := 3) (wy := (Cond.codeWith yL_run cL_run 4 (some .int) [(0, 9, 12, 13), (0, 9, 15, 45)] :: wsL_law)) (wc := (tlW (vG X) A B lads f bu cf cp ff fp Q R LF LK z) ++ (lwO (vG X) o g)) (wr := (mW (vG X) ad M)) C [.ref (A 0), vI a1, .ref o] [] (c_L_run (vG X) (vL X) (A 0) o (a1) (tlW (vG X) A B lads f bu cf cp ff fp Q R LF LK z) _ g _ _ rfl hM (by rintro r w ⟨l2, F1, K1, f2, p2, _, _, rfl, _⟩; exact ⟨_, rfl⟩) (by rintro E w ⟨_, ⟨rfl, _⟩ | ⟨rfl, _⟩⟩; exact Or.inl rfl; exact Or.inr rfl)) rfl (gwS mw_846 mw_844 mw_845 mw_155) (by decide +kernel) (hR_k rfl rfl (by omega) (by omega)) rfl (Sb.bl [0, 2, 1] 3 fl3 (fl_app fl2 fl1) rfl rfl (by decide +kernel)) rfl rfl dL_law_1302 (fun r w9 hp => ?_)
  obtain ⟨w1, g9, kk, rfl, hkk, rfl, hK⟩ := PH_out (ph_run (G := vG X) (A := A) (B := B) (ad := ad) (lads := lads) (cf := cf) (cp := cp) (ff := ff) (fp := fp) T a1) hp
  refine v_istore C M9 dL_law_1305 (by decide) (L' := (5, vI kk) :: lwL A ad o b i) rfl ?_
  refine v_aload_n C dL_law_1307 rfl 3 rfl ?_
  refine v_aload_n C dL_law_1308 rfl 5 rfl ?_
  refine v_iload C dL_law_1309 1 rfl ?_
  refine v_iconst C dL_law_1311 ?_
  refine v_iadd C dL_law_1312 ?_
  refine v_sld C Sc (i := i + 1) (a := a1) (by omega) (by omega) (by omega) ha1 dL_law_1313 ?_
  refine v_callV (na := 1) (wy := (Cond.code yX8_run cX8_run 3 (some .int) :: wsL_law)) (wc := (mW (vG X) ad M)) (wr := w1 ++ (lwO (vG X) o g9)) C [vI a1] [] (c_X8_run (vG X) (vL X) ad M a1 hs_a1 hB (by omega) (by omega) h24 hokM) rfl (gwV mw_855 mw_852 mw_853 mw_854 mw_5) rfl (by decide +kernel) 0 rfl rfl (hR_k rfl rfl (by omega) (by omega)) rfl (Sb.bl [2, 0, 1] 3 (fl_app fl2 fl1) (fl_app fl1 fl2) rfl rfl (by decide +kernel)) rfl rfl dL_law_1314 (fun r w2 hq => ?_)
  obtain ⟨v, rfl, hLI, hv⟩ := hK r w2 hq
  exact lw_tail (pc := 1317) C M9 hkk hLI hv (by omega) (by omega) dL_law_1317 dL_law_1319 dL_law_1320 dL_law_1323 dL_law_1325 dL_law_1330 dL_law_1332 dL_law_1335 dL_law_1336 dL_law_1337 dL_law_1338 dL_law_1340 dL_law_1341 dL_law_1342 dL_law_1347 (by decide) (V.wid (by omega) (by omega) (nx _ _ _ _ hLI))
end Case3
