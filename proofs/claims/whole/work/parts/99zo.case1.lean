section Case1
set_option maxHeartbeats 2000000 in
set_option maxRecDepth 100000 in
theorem lc_2 {X : vCx} {c0 : Cond} (C : lwC X c0) (M9 : vM X 9) {A : Nat → Nat} {B : Nat → Nat → Nat} {ad : Nat → Nat} {o b L : Nat} {xs : Nat → Int} (Sc : vScr X b L xs) (hxs : ∀ j, sm (xs j)) (hst : (vL X).stackTraces = false) {k n : Nat} (hk : k + 3 ≤ 601024) (hn : n + 18 ≤ 7293034) {i : Int} (hi0 : 0 ≤ i) (hi : i + 6 ≤ (L : Int)) (hL : L ≤ 3072) {g : Int → Int64} {lads : Nat → Nat → Nat} {f bu cf cp ff fp : Int → Int} {Q : Nat → Int → Int → Int} {R : Nat → Int → Int → Int64} {LF : Nat → Int → Int → Int} {LK : Nat → Int → Int → Int64} {z : Int → Int} {M : Int → Int → Int} (T : TI f bu Q R LF LK z M)
    (nx : ∀ (k3 : Int) (w1 w2 : va_W) (g2 : Int → Int64), LIk (vG X) A B ad k3 w1 w2 → V X (k + 3) (n + 18) 1413 (lwL A ad o b i) [] (w1 ++ w2 ++ lwO (vG X) o g2)) : V X k n 281 (lwL A ad o b i) [] ((tlW (vG X) A B lads f bu cf cp ff fp Q R LF LK z) ++ (mW (vG X) ad M) ++ (lwO (vG X) o g)) := by
  obtain ⟨a1, ha1⟩ : ∃ a, a = xs (i + 1).toNat := ⟨_, rfl⟩
  have hs_a1 : sm a1 := by rw [ha1]; exact hxs _
  have hg := T.1
  have hB : sB 1000000 (M 2) := J_B hg.2.1 (by have := hg.2.2.2.2.1; omega)
  have hQ : ∀ i, sB 1000000 (Q 0 i) := REL_B hg.1 hg.2.1 (by have := hg.2.2.2.2.1; omega)
  have hz6 := GOOD_6 hg
  have hc := T.2.2.1.1
  have h14 : M 0 14 = z 0 := T.2.2.1.2.1
  have hOK : OKL (Q 0) := REL_OKL hg.1 hg.2.1 (by have := hg.2.2.2.2.1; omega)
  have hOKs : OKs (M 2) := J_OKs hg.2.1 (by have := hg.2.2.2.2.1; omega)
  have h7 : 0 ≤ M 2 7 ∧ M 2 7 ≤ 40 := ⟨hg.2.1.1.2.2.2.2.2.1, hg.2.2.2.1⟩
  have h4 : 1 ≤ M 2 4 ∧ M 2 4 ≤ 7 := ⟨hg.2.2.1, hg.2.1.1.2.2.2.1.2⟩
  have h24 : M 0 24 = 0 := T.2.2.2.2.2.2.2.2.2.2
  have h9 : Q 0 0 9 = -1 := hg.2.2.2.2.2.2.1
  have h44 : Q 0 0 4 = M 2 4 := hg.1.1.1.2.2.1
  have hFO : ∀ rd : Int, (rd = 0 ∨ rd = 1) → FOK rd (R 0) (Q 0) 600 := fun rd hr => by
    have t := GOOD_FOK (lost := -1) (b := Q 0 0 4) hr hg (by omega) (by decide)
    rw [foF_id h9] at t
    exact t
  have hGO : ∀ rd lost b : Int, (rd = 0 ∨ rd = 1) → (-1 ≤ lost ∧ lost ≤ 10000) → (0 ≤ b ∧ b ≤ 7) → GOk rd lost b (M 2) := fun rd lost b hr hl hb => J_GOk hr hg.2.1 h7.2 hg.2.2.2.2.1 ⟨by omega, hl.2⟩ hb
  have hM20 : ∀ s, (s = 0 ∨ s = 1) → 0 ≤ M 2 (18 + 11 * s + 0) ∧ M 2 (18 + 11 * s + 0) ≤ 20 := fun s hs => by
    rcases hs with rfl | rfl
    · exact hg.2.1.2.1.1
    · exact hg.2.1.2.2.1.1
  refine v_aload_n C dL_law_281 rfl 3 rfl ?_
  refine v_aload_n C dL_law_282 rfl 4 rfl ?_
  refine v_iload C dL_law_283 0 rfl ?_
  refine v_iconst C dL_law_285 ?_
  refine v_iadd C dL_law_286 ?_
  refine v_sld C Sc (i := i + 1) (a := a1) (by omega) (by omega) (by omega) ha1 dL_law_287 ?_
  refine v_aload_n C dL_law_288 rfl 1 rfl ?_
  have hM := C_X7_size (vG X) (vL X) A B lads f bu cf cp ff fp Q R LF LK z a1 hst hs_a1
  refine v_callSH (na := 3) (wy := (Cond.codeWith yL_size cL_size 4 (some .int) [(0, 9, 12, 13)] :: wsL_law)) (wc := (tlW (vG X) A B lads f bu cf cp ff fp Q R LF LK z) ++ (lwO (vG X) o g)) (wr := (mW (vG X) ad M)) C [.ref (A 0), vI a1, .ref o] [] (c_L_size (vG X) (vL X) (A 0) o (a1) (tlW (vG X) A B lads f bu cf cp ff fp Q R LF LK z) _ g _ _ rfl hM (by rintro r w ⟨rfl, _⟩; exact ⟨_, rfl⟩) (by rintro E w ⟨rfl, _⟩; exact rfl)) rfl (gwS mw_415 mw_413 mw_414 mw_155) (by decide +kernel) (hR_k rfl rfl (by omega) (by omega)) rfl (Sb.bl [0, 2, 1] 3 fl3 (fl_app fl2 fl1) rfl rfl (by decide +kernel)) rfl rfl dL_law_289 (fun r w9 hp => ?_)
  obtain ⟨w1, g9, kk, rfl, hkk, rfl, hK⟩ := PH_out (ph_size (G := vG X) (A := A) (B := B) (ad := ad) (lads := lads) (cf := cf) (cp := cp) (ff := ff) (fp := fp) T a1) hp
  refine v_istore C M9 dL_law_292 (by decide) (L' := (5, vI kk) :: lwL A ad o b i) rfl ?_
  refine v_aload_n C dL_law_294 rfl 3 rfl ?_
  refine v_aload_n C dL_law_295 rfl 5 rfl ?_
  refine v_iload C dL_law_296 1 rfl ?_
  refine v_iconst C dL_law_298 ?_
  refine v_iadd C dL_law_299 ?_
  refine v_sld C Sc (i := i + 1) (a := a1) (by omega) (by omega) (by omega) ha1 dL_law_300 ?_
  refine v_callV (na := 1) (wy := (Cond.code yX8_size cX8_size 2 (some .int) :: wsL_law)) (wc := (mW (vG X) ad M)) (wr := w1 ++ (lwO (vG X) o g9)) C [vI a1] [] (c_X8_size (vG X) (vL X) ad M a1 hs_a1) rfl (gwV mw_427 mw_424 mw_425 mw_426 mw_5) rfl (by decide +kernel) 0 rfl rfl (hR_k rfl rfl (by omega) (by omega)) rfl (Sb.bl [2, 0, 1] 3 (fl_app fl2 fl1) (fl_app fl1 fl2) rfl rfl (by decide +kernel)) rfl rfl dL_law_301 (fun r w2 hq => ?_)
  obtain ⟨v, rfl, hLI, hv⟩ := hK r w2 hq
  exact lw_tail (pc := 304) C M9 hkk hLI hv (by omega) (by omega) dL_law_304 dL_law_306 dL_law_307 dL_law_310 dL_law_312 dL_law_317 dL_law_319 dL_law_322 dL_law_323 dL_law_324 dL_law_325 dL_law_327 dL_law_328 dL_law_329 dL_law_334 (by decide) (V.wid (by omega) (by omega) (nx _ _ _ _ hLI))
set_option maxHeartbeats 2000000 in
set_option maxRecDepth 100000 in
theorem lc_3 {X : vCx} {c0 : Cond} (C : lwC X c0) (M9 : vM X 9) {A : Nat → Nat} {B : Nat → Nat → Nat} {ad : Nat → Nat} {o b L : Nat} {xs : Nat → Int} (Sc : vScr X b L xs) (hxs : ∀ j, sm (xs j)) (hst : (vL X).stackTraces = false) {k n : Nat} (hk : k + 3 ≤ 601024) (hn : n + 18 ≤ 7293034) {i : Int} (hi0 : 0 ≤ i) (hi : i + 6 ≤ (L : Int)) (hL : L ≤ 3072) {g : Int → Int64} {lads : Nat → Nat → Nat} {f bu cf cp ff fp : Int → Int} {Q : Nat → Int → Int → Int} {R : Nat → Int → Int → Int64} {LF : Nat → Int → Int → Int} {LK : Nat → Int → Int → Int64} {z : Int → Int} {M : Int → Int → Int} (T : TI f bu Q R LF LK z M)
    (nx : ∀ (k3 : Int) (w1 w2 : va_W) (g2 : Int → Int64), LIk (vG X) A B ad k3 w1 w2 → V X (k + 3) (n + 18) 1413 (lwL A ad o b i) [] (w1 ++ w2 ++ lwO (vG X) o g2)) : V X k n 337 (lwL A ad o b i) [] ((tlW (vG X) A B lads f bu cf cp ff fp Q R LF LK z) ++ (mW (vG X) ad M) ++ (lwO (vG X) o g)) := by
  obtain ⟨a1, ha1⟩ : ∃ a, a = xs (i + 1).toNat := ⟨_, rfl⟩
  have hs_a1 : sm a1 := by rw [ha1]; exact hxs _
  obtain ⟨a2, ha2⟩ : ∃ a, a = xs (i + 2).toNat := ⟨_, rfl⟩
  have hs_a2 : sm a2 := by rw [ha2]; exact hxs _
  have hg := T.1
  have hB : sB 1000000 (M 2) := J_B hg.2.1 (by have := hg.2.2.2.2.1; omega)
  have hQ : ∀ i, sB 1000000 (Q 0 i) := REL_B hg.1 hg.2.1 (by have := hg.2.2.2.2.1; omega)
  have hz6 := GOOD_6 hg
  have hc := T.2.2.1.1
  have h14 : M 0 14 = z 0 := T.2.2.1.2.1
  have hOK : OKL (Q 0) := REL_OKL hg.1 hg.2.1 (by have := hg.2.2.2.2.1; omega)
  have hOKs : OKs (M 2) := J_OKs hg.2.1 (by have := hg.2.2.2.2.1; omega)
  have h7 : 0 ≤ M 2 7 ∧ M 2 7 ≤ 40 := ⟨hg.2.1.1.2.2.2.2.2.1, hg.2.2.2.1⟩
  have h4 : 1 ≤ M 2 4 ∧ M 2 4 ≤ 7 := ⟨hg.2.2.1, hg.2.1.1.2.2.2.1.2⟩
  have h24 : M 0 24 = 0 := T.2.2.2.2.2.2.2.2.2.2
  have h9 : Q 0 0 9 = -1 := hg.2.2.2.2.2.2.1
  have h44 : Q 0 0 4 = M 2 4 := hg.1.1.1.2.2.1
  have hFO : ∀ rd : Int, (rd = 0 ∨ rd = 1) → FOK rd (R 0) (Q 0) 600 := fun rd hr => by
    have t := GOOD_FOK (lost := -1) (b := Q 0 0 4) hr hg (by omega) (by decide)
    rw [foF_id h9] at t
    exact t
  have hGO : ∀ rd lost b : Int, (rd = 0 ∨ rd = 1) → (-1 ≤ lost ∧ lost ≤ 10000) → (0 ≤ b ∧ b ≤ 7) → GOk rd lost b (M 2) := fun rd lost b hr hl hb => J_GOk hr hg.2.1 h7.2 hg.2.2.2.2.1 ⟨by omega, hl.2⟩ hb
  have hM20 : ∀ s, (s = 0 ∨ s = 1) → 0 ≤ M 2 (18 + 11 * s + 0) ∧ M 2 (18 + 11 * s + 0) ≤ 20 := fun s hs => by
    rcases hs with rfl | rfl
    · exact hg.2.1.2.1.1
    · exact hg.2.1.2.2.1.1
  refine v_aload_n C dL_law_337 rfl 3 rfl ?_
  refine v_aload_n C dL_law_338 rfl 4 rfl ?_
  refine v_iload C dL_law_339 0 rfl ?_
  refine v_iconst C dL_law_341 ?_
  refine v_iadd C dL_law_342 ?_
  refine v_sld C Sc (i := i + 1) (a := a1) (by omega) (by omega) (by omega) ha1 dL_law_343 ?_
  refine v_aload_n C dL_law_344 rfl 4 rfl ?_
  refine v_iload C dL_law_345 0 rfl ?_
  refine v_iconst C dL_law_347 ?_
  refine v_iadd C dL_law_348 ?_
  refine v_sld C Sc (i := i + 2) (a := a2) (by omega) (by omega) (by omega) ha2 dL_law_349 ?_
  refine v_aload_n C dL_law_350 rfl 1 rfl ?_
  have hM := C_X7_station (vG X) (vL X) A B lads f bu cf cp ff fp Q R LF LK z a1 a2 hst hs_a1 hs_a2
  refine v_callSH (na := 4) (wy := (Cond.codeWith yL_station cL_station 5 (some .int) [(0, 10, 13, 22), (0, 10, 17, 13)] :: wsL_law)) (wc := (tlW (vG X) A B lads f bu cf cp ff fp Q R LF LK z) ++ (lwO (vG X) o g)) (wr := (mW (vG X) ad M)) C [.ref (A 0), vI a1, vI a2, .ref o] [] (c_L_station (vG X) (vL X) (A 0) o (a1) (a2) (tlW (vG X) A B lads f bu cf cp ff fp Q R LF LK z) _ g _ _ rfl hM (by rintro r w ⟨rfl, _⟩; exact ⟨_, rfl⟩) (by rintro E w ⟨_, ⟨rfl, _⟩ | ⟨rfl, _⟩⟩; exact Or.inl rfl; exact Or.inr rfl)) rfl (gwS mw_430 mw_428 mw_429 mw_155) (by decide +kernel) (hR_k rfl rfl (by omega) (by omega)) rfl (Sb.bl [0, 2, 1] 3 fl3 (fl_app fl2 fl1) rfl rfl (by decide +kernel)) rfl rfl dL_law_351 (fun r w9 hp => ?_)
  obtain ⟨w1, g9, kk, rfl, hkk, rfl, hK⟩ := PH_out (ph_station (G := vG X) (A := A) (B := B) (ad := ad) (lads := lads) (cf := cf) (cp := cp) (ff := ff) (fp := fp) T a1 a2) hp
  refine v_istore C M9 dL_law_354 (by decide) (L' := (5, vI kk) :: lwL A ad o b i) rfl ?_
  refine v_aload_n C dL_law_356 rfl 3 rfl ?_
  refine v_aload_n C dL_law_357 rfl 5 rfl ?_
  refine v_iload C dL_law_358 1 rfl ?_
  refine v_iconst C dL_law_360 ?_
  refine v_iadd C dL_law_361 ?_
  refine v_sld C Sc (i := i + 1) (a := a1) (by omega) (by omega) (by omega) ha1 dL_law_362 ?_
  refine v_aload_n C dL_law_363 rfl 5 rfl ?_
  refine v_iload C dL_law_364 1 rfl ?_
  refine v_iconst C dL_law_366 ?_
  refine v_iadd C dL_law_367 ?_
  refine v_sld C Sc (i := i + 2) (a := a2) (by omega) (by omega) (by omega) ha2 dL_law_368 ?_
  refine v_callV (na := 2) (wy := (Cond.code yX8_station cX8_station 3 (some .int) :: wsL_law)) (wc := (mW (vG X) ad M)) (wr := w1 ++ (lwO (vG X) o g9)) C [vI a1, vI a2] [] (c_X8_station (vG X) (vL X) ad M a1 a2 hs_a1 hs_a2) rfl (gwV mw_449 mw_446 mw_447 mw_448 mw_5) rfl (by decide +kernel) 0 rfl rfl (hR_k rfl rfl (by omega) (by omega)) rfl (Sb.bl [2, 0, 1] 3 (fl_app fl2 fl1) (fl_app fl1 fl2) rfl rfl (by decide +kernel)) rfl rfl dL_law_369 (fun r w2 hq => ?_)
  obtain ⟨v, rfl, hLI, hv⟩ := hK r w2 hq
  exact lw_tail (pc := 372) C M9 hkk hLI hv (by omega) (by omega) dL_law_372 dL_law_374 dL_law_375 dL_law_378 dL_law_380 dL_law_385 dL_law_387 dL_law_390 dL_law_391 dL_law_392 dL_law_393 dL_law_395 dL_law_396 dL_law_397 dL_law_402 (by decide) (V.wid (by omega) (by omega) (nx _ _ _ _ hLI))
set_option maxHeartbeats 2000000 in
set_option maxRecDepth 100000 in
theorem lc_4 {X : vCx} {c0 : Cond} (C : lwC X c0) (M9 : vM X 9) {A : Nat → Nat} {B : Nat → Nat → Nat} {ad : Nat → Nat} {o b L : Nat} {xs : Nat → Int} (Sc : vScr X b L xs) (hxs : ∀ j, sm (xs j)) (hst : (vL X).stackTraces = false) {k n : Nat} (hk : k + 3 ≤ 601024) (hn : n + 18 ≤ 7293034) {i : Int} (hi0 : 0 ≤ i) (hi : i + 6 ≤ (L : Int)) (hL : L ≤ 3072) {g : Int → Int64} {lads : Nat → Nat → Nat} {f bu cf cp ff fp : Int → Int} {Q : Nat → Int → Int → Int} {R : Nat → Int → Int → Int64} {LF : Nat → Int → Int → Int} {LK : Nat → Int → Int → Int64} {z : Int → Int} {M : Int → Int → Int} (T : TI f bu Q R LF LK z M)
    (nx : ∀ (k3 : Int) (w1 w2 : va_W) (g2 : Int → Int64), LIk (vG X) A B ad k3 w1 w2 → V X (k + 3) (n + 18) 1413 (lwL A ad o b i) [] (w1 ++ w2 ++ lwO (vG X) o g2)) : V X k n 405 (lwL A ad o b i) [] ((tlW (vG X) A B lads f bu cf cp ff fp Q R LF LK z) ++ (mW (vG X) ad M) ++ (lwO (vG X) o g)) := by
  obtain ⟨a1, ha1⟩ : ∃ a, a = xs (i + 1).toNat := ⟨_, rfl⟩
  have hs_a1 : sm a1 := by rw [ha1]; exact hxs _
  obtain ⟨a2, ha2⟩ : ∃ a, a = xs (i + 2).toNat := ⟨_, rfl⟩
  have hs_a2 : sm a2 := by rw [ha2]; exact hxs _
  obtain ⟨a3, ha3⟩ : ∃ a, a = xs (i + 3).toNat := ⟨_, rfl⟩
  have hs_a3 : sm a3 := by rw [ha3]; exact hxs _
  have hg := T.1
  have hB : sB 1000000 (M 2) := J_B hg.2.1 (by have := hg.2.2.2.2.1; omega)
  have hQ : ∀ i, sB 1000000 (Q 0 i) := REL_B hg.1 hg.2.1 (by have := hg.2.2.2.2.1; omega)
  have hz6 := GOOD_6 hg
  have hc := T.2.2.1.1
  have h14 : M 0 14 = z 0 := T.2.2.1.2.1
  have hOK : OKL (Q 0) := REL_OKL hg.1 hg.2.1 (by have := hg.2.2.2.2.1; omega)
  have hOKs : OKs (M 2) := J_OKs hg.2.1 (by have := hg.2.2.2.2.1; omega)
  have h7 : 0 ≤ M 2 7 ∧ M 2 7 ≤ 40 := ⟨hg.2.1.1.2.2.2.2.2.1, hg.2.2.2.1⟩
  have h4 : 1 ≤ M 2 4 ∧ M 2 4 ≤ 7 := ⟨hg.2.2.1, hg.2.1.1.2.2.2.1.2⟩
  have h24 : M 0 24 = 0 := T.2.2.2.2.2.2.2.2.2.2
  have h9 : Q 0 0 9 = -1 := hg.2.2.2.2.2.2.1
  have h44 : Q 0 0 4 = M 2 4 := hg.1.1.1.2.2.1
  have hFO : ∀ rd : Int, (rd = 0 ∨ rd = 1) → FOK rd (R 0) (Q 0) 600 := fun rd hr => by
    have t := GOOD_FOK (lost := -1) (b := Q 0 0 4) hr hg (by omega) (by decide)
    rw [foF_id h9] at t
    exact t
  have hGO : ∀ rd lost b : Int, (rd = 0 ∨ rd = 1) → (-1 ≤ lost ∧ lost ≤ 10000) → (0 ≤ b ∧ b ≤ 7) → GOk rd lost b (M 2) := fun rd lost b hr hl hb => J_GOk hr hg.2.1 h7.2 hg.2.2.2.2.1 ⟨by omega, hl.2⟩ hb
  have hM20 : ∀ s, (s = 0 ∨ s = 1) → 0 ≤ M 2 (18 + 11 * s + 0) ∧ M 2 (18 + 11 * s + 0) ≤ 20 := fun s hs => by
    rcases hs with rfl | rfl
    · exact hg.2.1.2.1.1
    · exact hg.2.1.2.2.1.1
  refine v_aload_n C dL_law_405 rfl 3 rfl ?_
  refine v_aload_n C dL_law_406 rfl 4 rfl ?_
  refine v_iload C dL_law_407 0 rfl ?_
  refine v_iconst C dL_law_409 ?_
  refine v_iadd C dL_law_410 ?_
  refine v_sld C Sc (i := i + 1) (a := a1) (by omega) (by omega) (by omega) ha1 dL_law_411 ?_
  refine v_aload_n C dL_law_412 rfl 4 rfl ?_
  refine v_iload C dL_law_413 0 rfl ?_
  refine v_iconst C dL_law_415 ?_
  refine v_iadd C dL_law_416 ?_
  refine v_sld C Sc (i := i + 2) (a := a2) (by omega) (by omega) (by omega) ha2 dL_law_417 ?_
  refine v_aload_n C dL_law_418 rfl 4 rfl ?_
  refine v_iload C dL_law_419 0 rfl ?_
  refine v_iconst C dL_law_421 ?_
  refine v_iadd C dL_law_422 ?_
  refine v_sld C Sc (i := i + 3) (a := a3) (by omega) (by omega) (by omega) ha3 dL_law_423 ?_
  refine v_aload_n C dL_law_424 rfl 1 rfl ?_
  have hM := C_X7_messageByte (vG X) (vL X) A B lads f bu cf cp ff fp Q R LF LK z a1 a2 a3 hst hs_a1 hs_a2 hs_a3 hQ
  refine v_callSH (na := 5) (wy := (Cond.codeWith yL_messageByte cL_messageByte 6 (some .int) [(0, 12, 15, 22)] :: wsL_law)) (wc := (tlW (vG X) A B lads f bu cf cp ff fp Q R LF LK z) ++ (lwO (vG X) o g)) (wr := (mW (vG X) ad M)) C [.ref (A 0), vI a1, vI a2, vI a3, .ref o] [] (c_L_messageByte (vG X) (vL X) (A 0) o (a1) (a2) (a3) (tlW (vG X) A B lads f bu cf cp ff fp Q R LF LK z) _ g _ _ rfl hM (by rintro r w ⟨rfl, _⟩; exact ⟨_, rfl⟩) (by rintro E w ⟨_, rfl, _⟩; exact rfl)) rfl (gwS mw_455 mw_453 mw_454 mw_155) (by decide +kernel) (hR_k rfl rfl (by omega) (by omega)) rfl (Sb.bl [0, 2, 1] 3 fl3 (fl_app fl2 fl1) rfl rfl (by decide +kernel)) rfl rfl dL_law_425 (fun r w9 hp => ?_)
  obtain ⟨w1, g9, kk, rfl, hkk, rfl, hK⟩ := PH_out (ph_messageByte (G := vG X) (A := A) (B := B) (ad := ad) (lads := lads) (cf := cf) (cp := cp) (ff := ff) (fp := fp) T a1 a2 a3) hp
  refine v_istore C M9 dL_law_428 (by decide) (L' := (5, vI kk) :: lwL A ad o b i) rfl ?_
  refine v_aload_n C dL_law_430 rfl 3 rfl ?_
  refine v_aload_n C dL_law_431 rfl 5 rfl ?_
  refine v_iload C dL_law_432 1 rfl ?_
  refine v_iconst C dL_law_434 ?_
  refine v_iadd C dL_law_435 ?_
  refine v_sld C Sc (i := i + 1) (a := a1) (by omega) (by omega) (by omega) ha1 dL_law_436 ?_
  refine v_aload_n C dL_law_437 rfl 5 rfl ?_
  refine v_iload C dL_law_438 1 rfl ?_
  refine v_iconst C dL_law_440 ?_
  refine v_iadd C dL_law_441 ?_
  refine v_sld C Sc (i := i + 2) (a := a2) (by omega) (by omega) (by omega) ha2 dL_law_442 ?_
  refine v_aload_n C dL_law_443 rfl 5 rfl ?_
  refine v_iload C dL_law_444 1 rfl ?_
  refine v_iconst C dL_law_446 ?_
  refine v_iadd C dL_law_447 ?_
  refine v_sld C Sc (i := i + 3) (a := a3) (by omega) (by omega) (by omega) ha3 dL_law_448 ?_
  refine v_callV (na := 3) (wy := (Cond.code yX8_messageByte cX8_messageByte 4 (some .int) :: wsL_law)) (wc := (mW (vG X) ad M)) (wr := w1 ++ (lwO (vG X) o g9)) C [vI a1, vI a2, vI a3] [] (c_X8_messageByte (vG X) (vL X) ad M a1 a2 a3 hs_a1 hs_a2 hs_a3 hB (fun s hs => (hM20 s hs).2) hg.2.1.2.2.2.2.2.1.1) rfl (gwV mw_472 mw_469 mw_470 mw_471 mw_5) rfl (by decide +kernel) 0 rfl rfl (hR_k rfl rfl (by omega) (by omega)) rfl (Sb.bl [2, 0, 1] 3 (fl_app fl2 fl1) (fl_app fl1 fl2) rfl rfl (by decide +kernel)) rfl rfl dL_law_449 (fun r w2 hq => ?_)
  obtain ⟨v, rfl, hLI, hv⟩ := hK r w2 hq
  exact lw_tail (pc := 452) C M9 hkk hLI hv (by omega) (by omega) dL_law_452 dL_law_454 dL_law_455 dL_law_458 dL_law_460 dL_law_465 dL_law_467 dL_law_470 dL_law_471 dL_law_472 dL_law_473 dL_law_475 dL_law_476 dL_law_477 dL_law_482 (by decide) (V.wid (by omega) (by omega) (nx _ _ _ _ hLI))
set_option maxHeartbeats 2000000 in
set_option maxRecDepth 100000 in
theorem lc_6 {X : vCx} {c0 : Cond} (C : lwC X c0) (M9 : vM X 9) {A : Nat → Nat} {B : Nat → Nat → Nat} {ad : Nat → Nat} {o b L : Nat} {xs : Nat → Int} (Sc : vScr X b L xs) (hxs : ∀ j, sm (xs j)) (hst : (vL X).stackTraces = false) {k n : Nat} (hk : k + 3 ≤ 601024) (hn : n + 18 ≤ 7293034) {i : Int} (hi0 : 0 ≤ i) (hi : i + 6 ≤ (L : Int)) (hL : L ≤ 3072) {g : Int → Int64} {lads : Nat → Nat → Nat} {f bu cf cp ff fp : Int → Int} {Q : Nat → Int → Int → Int} {R : Nat → Int → Int → Int64} {LF : Nat → Int → Int → Int} {LK : Nat → Int → Int → Int64} {z : Int → Int} {M : Int → Int → Int} (T : TI f bu Q R LF LK z M)
    (nx : ∀ (k3 : Int) (w1 w2 : va_W) (g2 : Int → Int64), LIk (vG X) A B ad k3 w1 w2 → V X (k + 3) (n + 18) 1413 (lwL A ad o b i) [] (w1 ++ w2 ++ lwO (vG X) o g2)) : V X k n 510 (lwL A ad o b i) [] ((tlW (vG X) A B lads f bu cf cp ff fp Q R LF LK z) ++ (mW (vG X) ad M) ++ (lwO (vG X) o g)) := by
  obtain ⟨a1, ha1⟩ : ∃ a, a = xs (i + 1).toNat := ⟨_, rfl⟩
  have hs_a1 : sm a1 := by rw [ha1]; exact hxs _
  have hg := T.1
  have hB : sB 1000000 (M 2) := J_B hg.2.1 (by have := hg.2.2.2.2.1; omega)
  have hQ : ∀ i, sB 1000000 (Q 0 i) := REL_B hg.1 hg.2.1 (by have := hg.2.2.2.2.1; omega)
  have hz6 := GOOD_6 hg
  have hc := T.2.2.1.1
  have h14 : M 0 14 = z 0 := T.2.2.1.2.1
  have hOK : OKL (Q 0) := REL_OKL hg.1 hg.2.1 (by have := hg.2.2.2.2.1; omega)
  have hOKs : OKs (M 2) := J_OKs hg.2.1 (by have := hg.2.2.2.2.1; omega)
  have h7 : 0 ≤ M 2 7 ∧ M 2 7 ≤ 40 := ⟨hg.2.1.1.2.2.2.2.2.1, hg.2.2.2.1⟩
  have h4 : 1 ≤ M 2 4 ∧ M 2 4 ≤ 7 := ⟨hg.2.2.1, hg.2.1.1.2.2.2.1.2⟩
  have h24 : M 0 24 = 0 := T.2.2.2.2.2.2.2.2.2.2
  have h9 : Q 0 0 9 = -1 := hg.2.2.2.2.2.2.1
  have h44 : Q 0 0 4 = M 2 4 := hg.1.1.1.2.2.1
  have hFO : ∀ rd : Int, (rd = 0 ∨ rd = 1) → FOK rd (R 0) (Q 0) 600 := fun rd hr => by
    have t := GOOD_FOK (lost := -1) (b := Q 0 0 4) hr hg (by omega) (by decide)
    rw [foF_id h9] at t
    exact t
  have hGO : ∀ rd lost b : Int, (rd = 0 ∨ rd = 1) → (-1 ≤ lost ∧ lost ≤ 10000) → (0 ≤ b ∧ b ≤ 7) → GOk rd lost b (M 2) := fun rd lost b hr hl hb => J_GOk hr hg.2.1 h7.2 hg.2.2.2.2.1 ⟨by omega, hl.2⟩ hb
  have hM20 : ∀ s, (s = 0 ∨ s = 1) → 0 ≤ M 2 (18 + 11 * s + 0) ∧ M 2 (18 + 11 * s + 0) ≤ 20 := fun s hs => by
    rcases hs with rfl | rfl
    · exact hg.2.1.2.1.1
    · exact hg.2.1.2.2.1.1
  refine v_aload_n C dL_law_510 rfl 3 rfl ?_
  refine v_aload_n C dL_law_511 rfl 4 rfl ?_
  refine v_iload C dL_law_512 0 rfl ?_
  refine v_iconst C dL_law_514 ?_
  refine v_iadd C dL_law_515 ?_
  refine v_sld C Sc (i := i + 1) (a := a1) (by omega) (by omega) (by omega) ha1 dL_law_516 ?_
  refine v_aload_n C dL_law_517 rfl 1 rfl ?_
  have hM := C_X7_next (vG X) (vL X) A B lads f bu cf cp ff fp Q R LF LK z a1 hst hs_a1 hQ hOK.2.1 hOK.2.2.1
  refine v_callSH (na := 3) (wy := (Cond.codeWith yL_next cL_next 4 (some .int) [(0, 9, 12, 13)] :: wsL_law)) (wc := (tlW (vG X) A B lads f bu cf cp ff fp Q R LF LK z) ++ (lwO (vG X) o g)) (wr := (mW (vG X) ad M)) C [.ref (A 0), vI a1, .ref o] [] (c_L_next (vG X) (vL X) (A 0) o (a1) (tlW (vG X) A B lads f bu cf cp ff fp Q R LF LK z) _ g _ _ rfl hM (by rintro r w ⟨f2, p2, rfl, _⟩; exact ⟨_, rfl⟩) (by rintro E w ⟨f2, p2, _, rfl, _⟩; exact rfl)) rfl (gwS mw_484 mw_482 mw_483 mw_155) (by decide +kernel) (hR_k rfl rfl (by omega) (by omega)) rfl (Sb.bl [0, 2, 1] 3 fl3 (fl_app fl2 fl1) rfl rfl (by decide +kernel)) rfl rfl dL_law_518 (fun r w9 hp => ?_)
  obtain ⟨w1, g9, kk, rfl, hkk, rfl, hK⟩ := PH_out (ph_next (G := vG X) (A := A) (B := B) (ad := ad) (lads := lads) (cf := cf) (cp := cp) (ff := ff) (fp := fp) T a1) hp
  refine v_istore C M9 dL_law_521 (by decide) (L' := (5, vI kk) :: lwL A ad o b i) rfl ?_
  refine v_aload_n C dL_law_523 rfl 3 rfl ?_
  refine v_aload_n C dL_law_524 rfl 5 rfl ?_
  refine v_iload C dL_law_525 1 rfl ?_
  refine v_iconst C dL_law_527 ?_
  refine v_iadd C dL_law_528 ?_
  refine v_sld C Sc (i := i + 1) (a := a1) (by omega) (by omega) (by omega) ha1 dL_law_529 ?_
  refine v_callV (na := 1) (wy := (Cond.code yX8_next cX8_next 2 (some .int) :: wsL_law)) (wc := (mW (vG X) ad M)) (wr := w1 ++ (lwO (vG X) o g9)) C [vI a1] [] (c_X8_next (vG X) (vL X) ad M a1 hs_a1 hOKs.1 hB h7.1 h7.2 hOKs.2.2.2.1 hOKs.2.2.2.2) rfl (gwV mw_531 mw_528 mw_529 mw_530 mw_5) rfl (by decide +kernel) 0 rfl rfl (hR_k rfl rfl (by omega) (by omega)) rfl (Sb.bl [2, 0, 1] 3 (fl_app fl2 fl1) (fl_app fl1 fl2) rfl rfl (by decide +kernel)) rfl rfl dL_law_530 (fun r w2 hq => ?_)
  obtain ⟨v, rfl, hLI, hv⟩ := hK r w2 hq
  exact lw_tail (pc := 533) C M9 hkk hLI hv (by omega) (by omega) dL_law_533 dL_law_535 dL_law_536 dL_law_539 dL_law_541 dL_law_546 dL_law_548 dL_law_551 dL_law_552 dL_law_553 dL_law_554 dL_law_556 dL_law_557 dL_law_558 dL_law_563 (by decide) (V.wid (by omega) (by omega) (nx _ _ _ _ hLI))
set_option maxHeartbeats 2000000 in
set_option maxRecDepth 100000 in
theorem lc_12 {X : vCx} {c0 : Cond} (C : lwC X c0) (M9 : vM X 9) {A : Nat → Nat} {B : Nat → Nat → Nat} {ad : Nat → Nat} {o b L : Nat} {xs : Nat → Int} (Sc : vScr X b L xs) (hxs : ∀ j, sm (xs j)) (hst : (vL X).stackTraces = false) {k n : Nat} (hk : k + 3 ≤ 601024) (hn : n + 18 ≤ 7293034) {i : Int} (hi0 : 0 ≤ i) (hi : i + 6 ≤ (L : Int)) (hL : L ≤ 3072) {g : Int → Int64} {lads : Nat → Nat → Nat} {f bu cf cp ff fp : Int → Int} {Q : Nat → Int → Int → Int} {R : Nat → Int → Int → Int64} {LF : Nat → Int → Int → Int} {LK : Nat → Int → Int → Int64} {z : Int → Int} {M : Int → Int → Int} (T : TI f bu Q R LF LK z M)
    (nx : ∀ (k3 : Int) (w1 w2 : va_W) (g2 : Int → Int64), LIk (vG X) A B ad k3 w1 w2 → V X (k + 3) (n + 18) 1413 (lwL A ad o b i) [] (w1 ++ w2 ++ lwO (vG X) o g2)) : V X k n 757 (lwL A ad o b i) [] ((tlW (vG X) A B lads f bu cf cp ff fp Q R LF LK z) ++ (mW (vG X) ad M) ++ (lwO (vG X) o g)) := by
  obtain ⟨a1, ha1⟩ : ∃ a, a = xs (i + 1).toNat := ⟨_, rfl⟩
  have hs_a1 : sm a1 := by rw [ha1]; exact hxs _
  have hg := T.1
  have hB : sB 1000000 (M 2) := J_B hg.2.1 (by have := hg.2.2.2.2.1; omega)
  have hQ : ∀ i, sB 1000000 (Q 0 i) := REL_B hg.1 hg.2.1 (by have := hg.2.2.2.2.1; omega)
  have hz6 := GOOD_6 hg
  have hc := T.2.2.1.1
  have h14 : M 0 14 = z 0 := T.2.2.1.2.1
  have hOK : OKL (Q 0) := REL_OKL hg.1 hg.2.1 (by have := hg.2.2.2.2.1; omega)
  have hOKs : OKs (M 2) := J_OKs hg.2.1 (by have := hg.2.2.2.2.1; omega)
  have h7 : 0 ≤ M 2 7 ∧ M 2 7 ≤ 40 := ⟨hg.2.1.1.2.2.2.2.2.1, hg.2.2.2.1⟩
  have h4 : 1 ≤ M 2 4 ∧ M 2 4 ≤ 7 := ⟨hg.2.2.1, hg.2.1.1.2.2.2.1.2⟩
  have h24 : M 0 24 = 0 := T.2.2.2.2.2.2.2.2.2.2
  have h9 : Q 0 0 9 = -1 := hg.2.2.2.2.2.2.1
  have h44 : Q 0 0 4 = M 2 4 := hg.1.1.1.2.2.1
  have hFO : ∀ rd : Int, (rd = 0 ∨ rd = 1) → FOK rd (R 0) (Q 0) 600 := fun rd hr => by
    have t := GOOD_FOK (lost := -1) (b := Q 0 0 4) hr hg (by omega) (by decide)
    rw [foF_id h9] at t
    exact t
  have hGO : ∀ rd lost b : Int, (rd = 0 ∨ rd = 1) → (-1 ≤ lost ∧ lost ≤ 10000) → (0 ≤ b ∧ b ≤ 7) → GOk rd lost b (M 2) := fun rd lost b hr hl hb => J_GOk hr hg.2.1 h7.2 hg.2.2.2.2.1 ⟨by omega, hl.2⟩ hb
  have hM20 : ∀ s, (s = 0 ∨ s = 1) → 0 ≤ M 2 (18 + 11 * s + 0) ∧ M 2 (18 + 11 * s + 0) ≤ 20 := fun s hs => by
    rcases hs with rfl | rfl
    · exact hg.2.1.2.1.1
    · exact hg.2.1.2.2.1.1
  refine v_aload_n C dL_law_757 rfl 3 rfl ?_
  refine v_aload_n C dL_law_758 rfl 4 rfl ?_
  refine v_iload C dL_law_759 0 rfl ?_
  refine v_iconst C dL_law_761 ?_
  refine v_iadd C dL_law_762 ?_
  refine v_sld C Sc (i := i + 1) (a := a1) (by omega) (by omega) (by omega) ha1 dL_law_763 ?_
  refine v_aload_n C dL_law_764 rfl 1 rfl ?_
  have hM := C_X7_account (vG X) (vL X) A B lads f bu cf cp ff fp Q R LF LK z a1 hst hs_a1
  refine v_callSH (na := 3) (wy := (Cond.codeWith yL_account cL_account 4 (some .int) [(0, 9, 12, 13)] :: wsL_law)) (wc := (tlW (vG X) A B lads f bu cf cp ff fp Q R LF LK z) ++ (lwO (vG X) o g)) (wr := (mW (vG X) ad M)) C [.ref (A 0), vI a1, .ref o] [] (c_L_account (vG X) (vL X) (A 0) o (a1) (tlW (vG X) A B lads f bu cf cp ff fp Q R LF LK z) _ g _ _ rfl hM (by rintro r w ⟨rfl, _⟩; exact ⟨_, rfl⟩) (by rintro E w ⟨rfl, _⟩; exact rfl)) rfl (gwS mw_721 mw_719 mw_720 mw_155) (by decide +kernel) (hR_k rfl rfl (by omega) (by omega)) rfl (Sb.bl [0, 2, 1] 3 fl3 (fl_app fl2 fl1) rfl rfl (by decide +kernel)) rfl rfl dL_law_765 (fun r w9 hp => ?_)
  obtain ⟨w1, g9, kk, rfl, hkk, rfl, hK⟩ := PH_out (ph_account (G := vG X) (A := A) (B := B) (ad := ad) (lads := lads) (cf := cf) (cp := cp) (ff := ff) (fp := fp) T a1) hp
  refine v_istore C M9 dL_law_768 (by decide) (L' := (5, vI kk) :: lwL A ad o b i) rfl ?_
  refine v_aload_n C dL_law_770 rfl 3 rfl ?_
  refine v_aload_n C dL_law_771 rfl 5 rfl ?_
  refine v_iload C dL_law_772 1 rfl ?_
  refine v_iconst C dL_law_774 ?_
  refine v_iadd C dL_law_775 ?_
  refine v_sld C Sc (i := i + 1) (a := a1) (by omega) (by omega) (by omega) ha1 dL_law_776 ?_
  refine v_callV (na := 1) (wy := (Cond.code yX8_account cX8_account 2 (some .int) :: wsL_law)) (wc := (mW (vG X) ad M)) (wr := w1 ++ (lwO (vG X) o g9)) C [vI a1] [] (c_X8_account (vG X) (vL X) ad M a1 hs_a1) rfl (gwV mw_729 mw_726 mw_727 mw_728 mw_5) rfl (by decide +kernel) 0 rfl rfl (hR_k rfl rfl (by omega) (by omega)) rfl (Sb.bl [2, 0, 1] 3 (fl_app fl2 fl1) (fl_app fl1 fl2) rfl rfl (by decide +kernel)) rfl rfl dL_law_777 (fun r w2 hq => ?_)
  obtain ⟨v, rfl, hLI, hv⟩ := hK r w2 hq
  exact lw_tail (pc := 780) C M9 hkk hLI hv (by omega) (by omega) dL_law_780 dL_law_782 dL_law_783 dL_law_786 dL_law_788 dL_law_793 dL_law_795 dL_law_798 dL_law_799 dL_law_800 dL_law_801 dL_law_803 dL_law_804 dL_law_805 dL_law_810 (by decide) (V.wid (by omega) (by omega) (nx _ _ _ _ hLI))
end Case1
