section LoopL
set_option maxHeartbeats 4000000 in
set_option maxRecDepth 100000 in
/-- the law's loop: t turns are left at most -/
theorem law_loop {X : vCx} {c0 : Cond} (C : lwC X c0) (M9 : vM X 9) {A : Nat → Nat} {B : Nat → Nat → Nat} {ad : Nat → Nat} {o b L : Nat} {xs : Nat → Int} (Sc : vScr X b L xs) (hxs : ∀ j, sm (xs j)) (hst : (vL X).stackTraces = false) (hL : L ≤ 3072)
    (fin : ∀ (k n : Nat) (L' : List (Nat × Value)) (ws : va_W), k ≤ 601024 → n ≤ 7293034 → V X k n 1420 L' [vI 1] ws) :
    ∀ (t k n : Nat) (i k3 : Int) (w1 w2 : va_W) (g : Int → Int64), 0 ≤ i → i ≤ (L : Int) → (L : Int) < i + 6 + 6 * t → k + 3 * t ≤ 601024 → n + 18 * t ≤ 7293034 → LIk (vG X) A B ad k3 w1 w2 → V X k n 23 (lwL A ad o b i) [] (w1 ++ w2 ++ lwO (vG X) o g) := by
  intro t
  induction t with
  | zero =>
    intro k n i k3 w1 w2 g h0 hiL hlt hk hn hLI
    refine v_iload C dL_law_23 0 rfl ?_
    refine v_aload_n C dL_law_25 rfl 4 rfl ?_
    refine v_slen C Sc dL_law_26 ?_
    refine v_bipush C dL_law_27 (by decide +kernel) ?_
    refine v_isub C dL_law_29 ?_
    refine v_icmp_gt (tgt := 1419) C dL_law_30 (by decide) ⟨by omega, by omega⟩ ⟨by omega, by omega⟩ (fun _ => ?_) (fun c => absurd (by omega) c)
    refine v_iconst C dL_law_1419 ?_
    exact fin k n _ _ (by omega) (by omega)
  | succ t ih =>
    intro k n i k3 w1 w2 g h0 hiL hlt hk hn hLI
    refine v_iload C dL_law_23 0 rfl ?_
    refine v_aload_n C dL_law_25 rfl 4 rfl ?_
    refine v_slen C Sc dL_law_26 ?_
    refine v_bipush C dL_law_27 (by decide +kernel) ?_
    refine v_isub C dL_law_29 ?_
    refine v_icmp_gt (tgt := 1419) C dL_law_30 (by decide) ⟨by omega, by omega⟩ ⟨by omega, by omega⟩ (fun _ => ?_) (fun c => ?_)
    · refine v_iconst C dL_law_1419 ?_
      exact fin k n _ _ (by omega) (by omega)
    have hi : i + 6 ≤ (L : Int) := by omega
    have nx : ∀ (k3 : Int) (w1 w2 : va_W) (g2 : Int → Int64), LIk (vG X) A B ad k3 w1 w2 → V X (k + 3) (n + 18) 1413 (lwL A ad o b i) [] (w1 ++ w2 ++ lwO (vG X) o g2) := by
      intro k3 w1 w2 g2 hLI
      refine v_iinc C M9 dL_law_1413 0 rfl (by decide) (z' := i + 6) rfl (L' := lwL A ad o b (i + 6)) rfl ?_
      refine v_goto (tgt := 23) C dL_law_1416 (by decide) ?_
      exact ih (k + 3) (n + 18) (i + 6) k3 w1 w2 g2 (by omega) (by omega) (by omega) (by omega) (by omega) hLI
    refine v_aload_n C dL_law_33 rfl 4 rfl ?_
    refine v_iload C dL_law_34 0 rfl ?_
    obtain ⟨a0, ha0⟩ : ∃ a, a = xs i.toNat := ⟨_, rfl⟩
    refine v_sld C Sc (i := i) (a := a0) h0 (by omega) (by omega) ha0 dL_law_36 ?_
    refine v_bipush C dL_law_37 (by decide +kernel) ?_
    refine v_iand C dL_law_39 (iI_and31 a0) ?_
    obtain ⟨q, hq⟩ : ∃ q, q = a0 % 32 := ⟨_, rfl⟩
    rw [← hq]
    have hq0 : 0 ≤ q ∧ q < 32 := by omega
    clear hq
    obtain ⟨lads, f, bu, cf, cp, ff, fp, Q, R, LF, LK, z, M, T, hM0, h1, h2⟩ := hLI
    subst h1 h2
    rcases (show q = 0 ∨ q = 1 ∨ q = 2 ∨ q = 3 ∨ q = 4 ∨ q = 5 ∨ q = 6 ∨ q = 7 ∨ q = 8 ∨ q = 9 ∨ q = 10 ∨ q = 11 ∨ q = 12 ∨ q = 13 ∨ q = 14 ∨ q = 15 ∨ q = 16 ∨ q = 17 ∨ q = 18 ∨ q = 19 ∨ q = 20 ∨ q = 21 ∨ q = 22 ∨ q = 23 ∨ 24 ≤ q by omega) with rfl | rfl | rfl | rfl | rfl | rfl | rfl | rfl | rfl | rfl | rfl | rfl | rfl | rfl | rfl | rfl | rfl | rfl | rfl | rfl | rfl | rfl | rfl | rfl | hq9
    · refine v_tabI (off := 112) (tgt := 152) C dL_law_40 (by decide) (by decide) (by decide) rfl (by decide) ?_
      exact lc_0 C M9 Sc hxs hst (by omega) (by omega) h0 hi hL T nx
    · refine v_tabI (off := 185) (tgt := 225) C dL_law_40 (by decide) (by decide) (by decide) rfl (by decide) ?_
      exact lc_1 C M9 Sc hxs hst (by omega) (by omega) h0 hi hL T nx
    · refine v_tabI (off := 241) (tgt := 281) C dL_law_40 (by decide) (by decide) (by decide) rfl (by decide) ?_
      exact lc_2 C M9 Sc hxs hst (by omega) (by omega) h0 hi hL T nx
    · refine v_tabI (off := 297) (tgt := 337) C dL_law_40 (by decide) (by decide) (by decide) rfl (by decide) ?_
      exact lc_3 C M9 Sc hxs hst (by omega) (by omega) h0 hi hL T nx
    · refine v_tabI (off := 365) (tgt := 405) C dL_law_40 (by decide) (by decide) (by decide) rfl (by decide) ?_
      exact lc_4 C M9 Sc hxs hst (by omega) (by omega) h0 hi hL T nx
    · refine v_tabI (off := 445) (tgt := 485) C dL_law_40 (by decide) (by decide) (by decide) rfl (by decide) ?_
      exact lc_5 C M9 Sc hxs hst (by omega) (by omega) h0 hi hL T nx
    · refine v_tabI (off := 470) (tgt := 510) C dL_law_40 (by decide) (by decide) (by decide) rfl (by decide) ?_
      exact lc_6 C M9 Sc hxs hst (by omega) (by omega) h0 hi hL T nx
    · refine v_tabI (off := 526) (tgt := 566) C dL_law_40 (by decide) (by decide) (by decide) rfl (by decide) ?_
      exact lc_7 C M9 Sc hxs hst (by omega) (by omega) h0 hi hL T nx
    · refine v_tabI (off := 551) (tgt := 591) C dL_law_40 (by decide) (by decide) (by decide) rfl (by decide) ?_
      exact lc_8 C M9 Sc hxs hst (by omega) (by omega) h0 hi hL T nx
    · refine v_tabI (off := 635) (tgt := 675) C dL_law_40 (by decide) (by decide) (by decide) rfl (by decide) ?_
      exact lc_9 C M9 Sc hxs hst (by omega) (by omega) h0 hi hL T nx
    · refine v_tabI (off := 691) (tgt := 731) C dL_law_40 (by decide) (by decide) (by decide) rfl (by decide) ?_
      exact lc_10 C M9 Sc hxs hst (by omega) (by omega) h0 hi hL T nx
    · refine v_tabI (off := 704) (tgt := 744) C dL_law_40 (by decide) (by decide) (by decide) rfl (by decide) ?_
      exact lc_11 C M9 Sc hxs hst (by omega) (by omega) h0 hi hL T nx
    · refine v_tabI (off := 717) (tgt := 757) C dL_law_40 (by decide) (by decide) (by decide) rfl (by decide) ?_
      exact lc_12 C M9 Sc hxs hst (by omega) (by omega) h0 hi hL T nx
    · refine v_tabI (off := 773) (tgt := 813) C dL_law_40 (by decide) (by decide) (by decide) rfl (by decide) ?_
      exact lc_13 C M9 Sc hxs hst (by omega) (by omega) h0 hi hL T nx
    · refine v_tabI (off := 814) (tgt := 854) C dL_law_40 (by decide) (by decide) (by decide) rfl (by decide) ?_
      exact lc_14 C M9 Sc hxs hst (by omega) (by omega) h0 hi hL T nx
    · refine v_tabI (off := 926) (tgt := 966) C dL_law_40 (by decide) (by decide) (by decide) rfl (by decide) ?_
      exact lc_15 C M9 Sc hxs hst (by omega) (by omega) h0 hi hL T nx
    · refine v_tabI (off := 994) (tgt := 1034) C dL_law_40 (by decide) (by decide) (by decide) rfl (by decide) ?_
      exact lc_16 C M9 Sc hxs hst (by omega) (by omega) h0 hi hL T nx
    · refine v_tabI (off := 1062) (tgt := 1102) C dL_law_40 (by decide) (by decide) (by decide) rfl (by decide) ?_
      exact lc_17 C M9 Sc hxs hst (by omega) (by omega) h0 hi hL T nx
    · refine v_tabI (off := 1130) (tgt := 1170) C dL_law_40 (by decide) (by decide) (by decide) rfl (by decide) ?_
      exact lc_18 C M9 Sc hxs hst (by omega) (by omega) h0 hi hL T nx
    · refine v_tabI (off := 1186) (tgt := 1226) C dL_law_40 (by decide) (by decide) (by decide) rfl (by decide) ?_
      exact lc_19 C M9 Sc hxs hst (by omega) (by omega) h0 hi hL T nx
    · refine v_tabI (off := 1254) (tgt := 1294) C dL_law_40 (by decide) (by decide) (by decide) rfl (by decide) ?_
      exact lc_20 C M9 Sc hxs hst (by omega) (by omega) h0 hi hL T nx
    · refine v_tabI (off := 1310) (tgt := 1350) C dL_law_40 (by decide) (by decide) (by decide) rfl (by decide) ?_
      exact lc_21 C M9 Sc hxs hst (by omega) (by omega) h0 hi hL T nx
    · refine v_tabI (off := 1323) (tgt := 1363) C dL_law_40 (by decide) (by decide) (by decide) rfl (by decide) ?_
      exact lc_22 C M9 Sc hxs hst (by omega) (by omega) h0 hi hL T nx
    · refine v_tabI (off := 1348) (tgt := 1388) C dL_law_40 (by decide) (by decide) (by decide) rfl (by decide) ?_
      exact lc_23 C M9 Sc hxs hst (by omega) (by omega) h0 hi hL T nx
    · refine v_tabO (tgt := 1413) C dL_law_40 ⟨by omega, by omega⟩ (Or.inr (by omega)) (by decide) ?_
      exact V.wid (by omega) (by omega) (nx _ _ _ _ ⟨lads, f, bu, cf, cp, ff, fp, Q, R, LF, LK, z, M, T, hM0, rfl, rfl⟩)
end LoopL
