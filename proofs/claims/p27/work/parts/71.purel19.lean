section PureL19
def sK0 : List Int32 := [108, 105, 110, 101]
def sK1 : List Int32 := [119, 105, 110, 100, 111, 119]
def sK2 : List Int32 := [109, 101, 115, 115, 97, 103, 101]
def sK3 : List Int32 := [108, 111, 115, 101]
def rs3 (f : Int → Int) (F : Int → Int → Int) : Int → Int := if F 0 7 < 20 then f else flR f (f 4) 4
theorem rs3_ok {f : Int → Int} {F : Int → Int → Int} (h : RO f) : RO (rs3 f F) := by
  unfold rs3
  split
  · exact h
  · exact flR_ok h h.at4 (by decide)
def rsR (f bu : Int → Int) (F : Int → Int → Int) (K : Int → Int → Int64) : Int → Int := if isWd f bu sK1 then rwR (avR f bu) bu else if isWd f bu sK2 then rmR (avR f bu) bu F else if isWd f bu sK3 then rlR (avR (rs3 f F) bu) bu K else flR f (f 4) 1
def rsF (f bu : Int → Int) (F : Int → Int → Int) (K : Int → Int → Int64) : Int → Int → Int := if isWd f bu sK1 then rwF (avR f bu) bu F else if isWd f bu sK2 then rmF (avR f bu) bu F else if isWd f bu sK3 then rlF (avR (rs3 f F) bu) bu F K else F
def rsK (f bu : Int → Int) (F : Int → Int → Int) (K : Int → Int → Int64) : Int → Int → Int64 := if isWd f bu sK1 then K else if isWd f bu sK2 then rmK (avR f bu) bu F K else if isWd f bu sK3 then rlK (avR (rs3 f F) bu) bu K else K
theorem rsR_ok {f bu : Int → Int} {F : Int → Int → Int} {K : Int → Int → Int64} (h : RO f) (hbu : sB 1000 bu) : RO (rsR f bu F K) := by
  have g := avR_ok h.one hbu
  unfold rsR
  by_cases c1 : isWd f bu sK1
  · rw [if_pos c1]; exact rwR_ok g hbu
  · rw [if_neg c1]
    by_cases c2 : isWd f bu sK2
    · rw [if_pos c2]; exact rmR_ok g hbu
    · rw [if_neg c2]
      by_cases c3 : isWd f bu sK3
      · rw [if_pos c3]; exact rlR_ok (avR_ok (rs3_ok h).one hbu) hbu
      · rw [if_neg c3]; exact flR_ok h h.at4 (by decide)
abbrev TX : Type := (Int → Int) × (Int → Int → Int) × (Int → Int → Int64)
/-- a statement and its semicolon -/
def rsT (bu : Int → Int) (x : TX) : TX := (tsR (rsR x.1 bu x.2.1 x.2.2) bu, rsF x.1 bu x.2.1 x.2.2, rsK x.1 bu x.2.1 x.2.2)
def itT (bu : Int → Int) (x : TX) : Nat → TX
  | 0 => x
  | n + 1 => rsT bu (itT bu x n)
def itN (bu : Int → Int) (x : TX) : Nat := skN (fun n : Nat => ¬ (n < 700 ∧ (itT bu x n).1 7 = 0 ∧ ¬ (itT bu x n).1 3 = 0)) 700
def hdR (f : Int → Int) (ln : Int) : Int → Int := up (up (up (up (up f 1 ln) 2 0) 7 0) 8 0) 9 0
def hdW (f bu : Int → Int) (ln : Int) : Int → Int := twR (avR (hdR f ln) bu) bu sK0
/-- the head of a text: line, burst, silence -/
def hdT (f bu : Int → Int) (ln : Int) (F : Int → Int → Int) (K : Int → Int → Int64) : TX := (tsR (tnR (tnR (hdW f bu ln) bu 1 7) bu 1 99) bu, up F 0 (up (up (F 0) 4 (tnV (hdW f bu ln) 1 7)) 5 (tnV (tnR (hdW f bu ln) bu 1 7) 1 99)), K)
theorem hdR_ok {f : Int → Int} {ln : Int} (h : RO f) (hln : 0 ≤ ln ∧ ln ≤ 700) : RO1 (hdR f ln) := by
  obtain ⟨⟨a1, a2, a3, a4⟩, a5, a6, a7, a8, a9, a10, a11⟩ := h
  exact ⟨(show 0 ≤ f 4 ∧ f 4 ≤ 700 ∧ (0 : Int) ≤ 0 ∧ 0 ≤ ln ∧ ln ≤ 700 from ⟨a1, by omega, by decide, hln.1, hln.2⟩), a5, a6, a7, (show (0 : Int) ≤ 0 ∧ (0 : Int) ≤ 10000 by decide), Or.inl rfl, Or.inl rfl, a11⟩
theorem hdW_ok {f bu : Int → Int} {ln : Int} (h : RO f) (hbu : sB 1000 bu) (hln : 0 ≤ ln ∧ ln ≤ 700) : RO (hdW f bu ln) := twR_ok (avR_ok (hdR_ok h hln) hbu) hbu
theorem hdT_B {f bu : Int → Int} {ln : Int} {F : Int → Int → Int} {K : Int → Int → Int64} (h : RO f) (hbu : sB 1000 bu) (hln : 0 ≤ ln ∧ ln ≤ 700) (hF : ∀ i, sB 2000 (F i)) : ∀ i, sB 2000 ((hdT f bu ln F K).2.1 i) := by
  have g := hdW_ok h hbu hln
  have g1 := tnV_in (p := 1) (q := 7) g (by decide)
  have g2 := tnV_in (p := 1) (q := 99) (tnR_ok (p := 1) (q := 7) g hbu (by decide)) (by decide)
  exact sBF_up hF (sB_up (sB_up (hF 0) ⟨by omega, by omega⟩) ⟨by omega, by omega⟩)
theorem rwF_B {f bu : Int → Int} {F : Int → Int → Int} {N : Int} (h : RO f) (hbu : sB 1000 bu) (hN : 100 ≤ N) (hF : ∀ i, sB N (F i)) : ∀ i, sB N (rwF f bu F i) := by
  have g := tnV_in (p := 1) (q := 9) (rw3_ok h hbu) (by decide)
  unfold rwF
  split
  · exact sBF_up hF (sB_up (hF 1) ⟨by omega, by omega⟩)
  · exact sBF_up hF (sB_up (hF 2) ⟨by omega, by omega⟩)
theorem sBF_mono {N M : Int} {F : Int → Int → Int} (h : N ≤ M) (hF : ∀ i, sB N (F i)) : ∀ i, sB M (F i) := fun i => sB_mono h (hF i)
theorem adF_B {f : Int → Int} {N : Int} (hf : sB N f) : sB (N + 1) (adF f) := by
  have g := hf 0
  unfold adF
  split
  · exact sB_up (sB_mono (by omega) hf) ⟨by omega, by omega⟩
  · exact sB_mono (by omega) hf
theorem adL_B {f le : Int → Int} {N q : Int} (hf : sB N le) (hq : -N < q ∧ q < N) : sB (N + 1) (adL f le q) := by
  unfold adL
  split
  · exact sB_mono (by omega) (sB_up hf hq)
  · exact sB_mono (by omega) hf
theorem rmF_B {f bu : Int → Int} {F : Int → Int → Int} {N : Int} (hN : 100 ≤ N) (hF : ∀ i, sB N (F i)) : ∀ i, sB (N + 1) (rmF f bu F i) := by
  have hn : rmN (rm3 f bu F) bu ≤ 7 := skN_le _
  unfold rmF
  split
  · exact sBF_mono (by omega) hF
  · split
    · exact sBF_up (sBF_up (sBF_mono (by omega) hF) (adF_B (hF 1))) (adL_B (hF 3) ⟨by omega, by omega⟩)
    · exact sBF_up (sBF_up (sBF_mono (by omega) hF) (adF_B (hF 2))) (adL_B (hF 4) ⟨by omega, by omega⟩)
theorem rlF_B {f bu : Int → Int} {F : Int → Int → Int} {K : Int → Int → Int64} {N : Int} (hF : ∀ i, sB N (F i)) : ∀ i, sB (N + 1) (rlF f bu F K i) := by
  have g := hF 0 7
  unfold rlF tLF
  split
  · exact sBF_up (sBF_mono (by omega) hF) (sB_up (sB_mono (by omega) (hF 0)) ⟨by omega, by omega⟩)
  · exact sBF_mono (by omega) hF
theorem rsF_B {f bu : Int → Int} {F : Int → Int → Int} {K : Int → Int → Int64} {N : Int} (h : RO f) (hbu : sB 1000 bu) (hN : 100 ≤ N) (hF : ∀ i, sB N (F i)) : ∀ i, sB (N + 1) (rsF f bu F K i) := by
  have g := avR_ok h.one hbu
  unfold rsF
  by_cases c1 : isWd f bu sK1
  · rw [if_pos c1]; exact sBF_mono (by omega) (rwF_B g hbu hN hF)
  · rw [if_neg c1]
    by_cases c2 : isWd f bu sK2
    · rw [if_pos c2]; exact rmF_B hN hF
    · rw [if_neg c2]
      by_cases c3 : isWd f bu sK3
      · rw [if_pos c3]; exact rlF_B hF
      · rw [if_neg c3]; exact sBF_mono (by omega) hF
theorem itT_ok {bu : Int → Int} {x : TX} (hbu : sB 1000 bu) (h : RO x.1) (hF : ∀ i, sB 2000 (x.2.1 i)) : ∀ n : Nat, RO (itT bu x n).1 ∧ ∀ i, sB (2000 + (n : Int)) ((itT bu x n).2.1 i) := by
  intro n
  induction n with
  | zero => exact ⟨h, sBF_mono (by omega) hF⟩
  | succ n ih =>
    refine ⟨tsR_ok (rsR_ok ih.1 hbu) hbu, ?_⟩
    exact sBF_mono (by omega) (rsF_B ih.1 hbu (by omega) ih.2)

end PureL19
