section FrameF
theorem LSp_ex {f : Int → Int} : ∀ n : Nat, ∃ li : Int → Int, LSp li f (n : Int) := by
  intro n
  induction n with
  | zero => exact ⟨fun _ => 126, rfl, fun j h0 h1 => absurd h1 (by omega)⟩
  | succ n ih =>
    obtain ⟨li, h⟩ := ih
    by_cases hm : isMk (f (n : Int))
    · refine ⟨up (up li (1 + (n : Int) + escI f n) 125) (1 + (n : Int) + escI f n + 1) (xr (f n)), ?_⟩
      rw [show ((n + 1 : Nat) : Int) = (n : Int) + 1 by omega]
      refine LSp_s (LSp_up (by omega) (LSp_up (by omega) h (by omega)) (by omega)) (fun _ => ⟨?_, ?_⟩) (fun x => absurd hm x)
      · rw [up_n (by omega), up_s]
      · rw [up_s]
    · refine ⟨up li (1 + (n : Int) + escI f n) (f n), ?_⟩
      rw [show ((n + 1 : Nat) : Int) = (n : Int) + 1 by omega]
      exact LSp_s (LSp_up (by omega) h (by omega)) (fun x => absurd x hm) (fun _ => up_s)
theorem LSp_all {f : Int → Int} {N : Int} (h0 : 0 ≤ N) : ∃ li : Int → Int, LSp li f N ∧ li (1 + N + escI f N) = 126 := by
  obtain ⟨li, h⟩ := LSp_ex (f := f) N.toNat
  rw [Int.toNat_of_nonneg h0] at h
  exact ⟨up li (1 + N + escI f N) 126, LSp_up h0 h (by omega), up_s⟩
theorem xr_b {z : Int} (h : isMk z) : iI (xr z) ^^^ iI 32 = iI z := by
  rcases h with rfl | rfl <;> decide +kernel
theorem cB0_m {b : Int64} {k : Int} : (cB0 b k % 256) % 256 = cB0 b k % 256 := by omega
theorem stL_t {F : Int → Int → Int} (hT : F 0 1 = 0 ∨ F 0 1 = 1) : stL F = F (1 + F 0 1) := by
  unfold stL
  rcases hT with h | h
  · rw [if_pos h, h]; rfl
  · rw [if_neg (by omega), h]; rfl
theorem leL_t {F : Int → Int → Int} (hT : F 0 1 = 0 ∨ F 0 1 = 1) : leL F = F (3 + F 0 1) := by
  unfold leL
  rcases hT with h | h
  · rw [if_pos h, h]; rfl
  · rw [if_neg (by omega), h]; rfl
theorem coL_t {F : Int → Int → Int} {K : Int → Int → Int64} (hT : F 0 1 = 0 ∨ F 0 1 = 1) : coL F K = K (F 0 1) := by
  unfold coL
  rcases hT with h | h
  · rw [if_pos h, h]
  · rw [if_neg (by omega), h]
/-- what a frame's plain bytes are -/
def FRF (F : Int → Int → Int) (K : Int → Int → Int64) (p : Int → Int) (N : Int) : Prop :=
  (7 ≤ N ∧ N ≤ 15) ∧ (∀ k, 0 ≤ p k ∧ p k < 256) ∧ p 0 = nxC K F 0 + 2 * F 0 1 ∧ p 1 = nxC K F 2 % 256 ∧ p 2 = F (1 + F 0 1) 1 ∧ p 3 = F (1 + F 0 1) 2 + F (1 + F 0 1) 3 ∧ p 4 = F (1 + F 0 1) 4 ∧ p 5 = F (1 + F 0 1) 5 % 256 ∧ p (N - 1) = sumI p (N - 1) % 256 ∧
  (¬ isDL F → N = 7) ∧ (isDL F → N - 7 = F (3 + F 0 1) (nxC K F 2) ∧ (0 ≤ nxC K F 2 ∧ nxC K F 2 < F (1 + F 0 1) 0) ∧ nxC K F 2 < 20) ∧ (isDL F → ∀ k, 6 ≤ k → k < N - 1 → p k = cB0 (K (F 0 1) (nxC K F 2)) (k - 6) % 256)
theorem fr_facts {F : Int → Int → Int} {K : Int → Int → Int64} {n : Int} (hI : IN F n) : FRF F K (pbL F K) (7 + dlL F) := by
  have hd := dlL_in hI
  obtain ⟨⟨hT, _, _, _, _, _⟩, ⟨s1, s2⟩, _, _, _⟩ := hI
  have hst : 0 ≤ stL F 1 ∧ stL F 1 ≤ 20 ∧ 0 ≤ stL F 2 ∧ stL F 2 ≤ 20 ∧ 1 ≤ stL F 3 ∧ stL F 3 ≤ 9 ∧ stL F 4 = 0 := by
    unfold ST at s1 s2
    unfold stL
    split <;> omega
  have hlo : ∀ k : Int, k < 6 + dlL F → pbL F K k = pbL0 F K k := by
    intro k hk
    unfold pbL
    rw [if_neg (by omega)]
  unfold FRF
  rw [← stL_t hT, ← leL_t hT, ← coL_t (K := K) hT]
  have n2 : nxC K F 2 = nuL F := rfl
  have n0 : nxC K F 0 = if isDL F then 0 else 1 := rfl
  refine ⟨⟨by omega, by omega⟩, fun k => pbL_in F K k, ?_, ?_, ?_, ?_, ?_, ?_, ?_, ?_, ?_, ?_⟩
  · rw [hlo 0 (by omega), n0]
    show ((if isDL F then 0 else 1) + 2 * F 0 1) % 256 = _
    split <;> omega
  · rw [hlo 1 (by omega), n2]
    rfl
  · rw [hlo 2 (by omega)]
    show stL F 1 % 256 = _
    omega
  · rw [hlo 3 (by omega)]
    show (stL F 2 + stL F 3) % 256 = _
    omega
  · rw [hlo 4 (by omega)]
    show stL F 4 % 256 = _
    omega
  · rw [hlo 5 (by omega)]
    rfl
  · have e : sumI (pbL F K) (7 + dlL F - 1) = sumI (pbL0 F K) (6 + dlL F) := by
      rw [show 7 + dlL F - 1 = 6 + dlL F by omega]
      exact sumI_c (fun j _ h1 => hlo j h1)
    rw [e]
    show (if 7 + dlL F - 1 = 6 + dlL F then _ else _) = _
    rw [if_pos (by omega)]
  · intro hn
    unfold dlL
    rw [if_neg hn]
    rfl
  · intro hy
    obtain ⟨_, _, _, d4, d5, d6⟩ := id hy
    have em : nuL F = nmL F := by unfold nuL; rw [if_pos hy]
    rw [n2, em]
    refine ⟨?_, ⟨d4, d5⟩, d6⟩
    unfold dlL
    rw [if_pos hy]
    omega
  · intro hy k h6 h7
    have em : nuL F = nmL F := by unfold nuL; rw [if_pos hy]
    rw [hlo k (by omega), n2, em]
    unfold pbL0
    rw [if_neg (by omega), if_neg (by omega), if_neg (by omega), if_neg (by omega), if_neg (by omega), if_neg (by omega)]
    omega
theorem sumI_B {f : Int → Int} (h : ∀ k, 0 ≤ f k ∧ f k < 256) : ∀ n : Nat, 0 ≤ sumI f (n : Int) ∧ sumI f (n : Int) ≤ 255 * (n : Int) := by
  intro n
  induction n with
  | zero => exact ⟨by rw [show ((0 : Nat) : Int) = 0 from rfl, sumI_0]; decide, by rw [show ((0 : Nat) : Int) = 0 from rfl, sumI_0]; decide⟩
  | succ n ih =>
    rw [show ((n + 1 : Nat) : Int) = (n : Int) + 1 by omega, sumI_s (by omega)]
    have := h (n : Int)
    omega
theorem hR_k {a b : Bool} {x y z w : Nat} (ha : a = true) (hb : b = true) (h1 : x ≤ y) (h2 : z ≤ w) : (a && b && Nat.ble x y && Nat.ble z w) = true := by
  rw [ha, hb, Nat.ble_eq_true_of_le h1, Nat.ble_eq_true_of_le h2]
  rfl
theorem Sb.dropl {a b : va_W} : Sb (a ++ b) b := by
  refine ⟨fun D cl H hP => (vP_app.mp hP).2, fun A hD => ?_⟩
  have h := vD_iff.mp hD
  rw [List.map_append, List.nodup_append] at h
  exact vD_iff.mpr ⟨h.1.2.1, fun q hq => h.2 q (List.mem_append_right _ hq)⟩
end FrameF
