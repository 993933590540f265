section Pure15
def paH (s : Int → Int) (n : Int) : Int → Int := up (up (up (up (up (up (up s 0 0) 3 n) 2 0) 5 0) 8 0) 17 0) 18 0
def pa2 (s B : Int → Int) (n : Int) : Int → Int := muM (ntM (paH s n) B) (bI (wdM (ntM (paH s n) B) B sK0)) 1
def pa3 (s B : Int → Int) (n : Int) : Int → Int := goM (pa2 s B n) B
def pa4 (s B : Int → Int) (n : Int) : Int → Int := tkM (pa3 s B n) B 1 7
def pa5 (s B : Int → Int) (n : Int) : Int → Int := tkM (pa4 s B n) B 1 99
abbrev PX : Type := (Int → Int) × (Int → Int)
def paX (s B σ : Int → Int) (n : Int) : PX := (if pa5 s B n 8 = 0 ∧ ¬ bI (pa5 s B n 6 = 3) = 0 then ntM (muM (pa5 s B n) (bI (pa5 s B n 6 = 3)) 1) B else muM (pa5 s B n) (bI (pa5 s B n 6 = 3)) 1, up (up (emF σ) 4 (lkV (pa3 s B n) 1 7)) 5 (lkV (pa4 s B n) 1 99))
def paI (B : Int → Int) (x : PX) : Nat → PX
  | 0 => x
  | k + 1 => (sfS (paI B x k).1 B (paI B x k).2, stN (paI B x k).1 B (paI B x k).2)
def paK (B : Int → Int) (x : PX) : Nat := skN (fun k : Nat => ¬ ((paI B x k).1 8 = 0 ∧ ¬ (paI B x k).1 6 = 0)) 700
def paE (s B σ : Int → Int) (n : Int) : PX := paI B (paX s B σ n) (paK B (paX s B σ n))
theorem paH_ok {s : Int → Int} {n : Int} (h : RM s) (hn : 0 ≤ n ∧ n ≤ 700) : RM1 (paH s n) := by
  exact ⟨(show (0 : Int) ≤ 0 ∧ 0 ≤ n ∧ n ≤ 700 from ⟨by decide, hn.1, hn.2⟩), h.2.1, h.2.2.1, (show (0 : Int) ≤ 0 ∧ (0 : Int) ≤ 4 by decide), h.2.2.2.2.1, Or.inl rfl, Or.inl rfl⟩
theorem nt_pg {s B : Int → Int} (h : RM1 s) : Pg (s 5) (ntM s B) := by
  have r : s 5 ≤ stM s B ∧ stM s B ≤ s 3 := runE_in h.1.2.1
  unfold ntM
  by_cases c1 : bM s B (stM s B) = -1
  · rw [if_pos c1]
    exact (show s 5 ≤ stM s B ∧ ((0 : Int) = 3 → _) from ⟨by omega, fun h => absurd h (by decide)⟩)
  · rw [if_neg c1]
    by_cases c2 : ltP (bM s B (stM s B))
    · rw [if_pos c2]
      have q : stM s B ≤ runE ltP (uM B) (s 3) (stM s B) ∧ _ := runE_in r.2
      exact (show s 5 ≤ runE ltP (uM B) (s 3) (stM s B) ∧ ((if runE ltP (uM B) (s 3) (stM s B) - stM s B ≤ 8 then 1 else 4) = (3 : Int) → _) from ⟨by omega, fun h => by split at h <;> exact absurd h (by decide)⟩)
    · rw [if_neg c2]
      by_cases c3 : dgP (bM s B (stM s B))
      · rw [if_pos c3]
        have q : stM s B ≤ runE dgP (uM B) (s 3) (stM s B) ∧ _ := runE_in r.2
        exact (show s 5 ≤ runE dgP (uM B) (s 3) (stM s B) ∧ ((if runE dgP (uM B) (s 3) (stM s B) - stM s B ≤ 3 then 2 else 4) = (3 : Int) → _) from ⟨by omega, fun h => by split at h <;> exact absurd h (by decide)⟩)
      · rw [if_neg c3]
        exact (show s 5 ≤ stM s B + 1 ∧ (_ → s 5 + 1 ≤ stM s B + 1) from ⟨by omega, fun _ => by omega⟩)
theorem pa5_ok {s B : Int → Int} {n : Int} (h : RM s) (hB : sB 1000 B) (hn : 0 ≤ n ∧ n ≤ 700) : RM (pa5 s B n) ∧ Pg 0 (pa5 s B n) := by
  have h1 : RM (ntM (paH s n) B) := ntM_ok (paH_ok h hn) hB
  have p1 : Pg 0 (ntM (paH s n) B) := nt_pg (s := paH s n) (B := B) (paH_ok h hn)
  have h2 : RM (pa2 s B n) := muM_ok h1 (by decide)
  have h3 : RM (pa3 s B n) := goM_ok h2 hB
  have h4 : RM (pa4 s B n) := tkM_ok h3 hB
  exact ⟨tkM_ok h4 hB, Pg_go (lkM_ok h4) (Pg_lk (Pg_go (lkM_ok h3) (Pg_lk (Pg_go h2 (Pg_mu p1)))))⟩
theorem zrF_B {σ : Int → Int} {k N : Int} (h : sB N σ) (hN : 0 < N) : sB N (zrF σ k) := fun j => by
  unfold zrF
  split
  · exact ⟨by omega, hN⟩
  · exact h j
theorem paX_ok {s B σ : Int → Int} {n : Int} (h : RM s) (hB : sB 1000 B) (hn : 0 ≤ n ∧ n ≤ s 2) (hl : 0 ≤ s 2 ∧ s 2 ≤ 700) (hs : sB 1000000 σ) : RM (paX s B σ n).1 ∧ NI (paX s B σ n).2 ∧ ((paX s B σ n).1 8 = 0 → (((0 : Nat) : Int)) + 1 ≤ (paX s B σ n).1 5) := by
  obtain ⟨g5, p5⟩ := pa5_ok (n := n) h hB ⟨hn.1, by omega⟩
  refine ⟨?_, ?_, ?_⟩
  · unfold paX
    show RM (if _ then _ else _)
    split
    · exact ntM_ok (muM_ok g5 (by decide)).one hB
    · exact muM_ok g5 (by decide)
  · have a := lkV_in (s := pa3 s B n) (p := 1) (q := 7) (by decide)
    have b := lkV_in (s := pa4 s B n) (p := 1) (q := 99) (by decide)
    exact ⟨sB_up (sB_up (sB_up (sB_up (zrF_B hs (by decide)) (by decide)) (by decide)) ⟨by omega, by omega⟩) ⟨by omega, by omega⟩, (show (0 : Int) ≤ 0 ∧ (0 : Int) ≤ 20 by decide), (show (0 : Int) ≤ 0 ∧ (0 : Int) ≤ 20 by decide), (show (0 : Int) ≤ 0 ∧ (0 : Int) ≤ 20 by decide)⟩
  · intro h8
    by_cases c : pa5 s B n 8 = 0 ∧ ¬ bI (pa5 s B n 6 = 3) = 0
    · have e : (paX s B σ n).1 = ntM (pa5 s B n) B := by
        show (if _ then _ else _) = _
        rw [if_pos c, show muM (pa5 s B n) (bI (pa5 s B n 6 = 3)) 1 = pa5 s B n from if_neg c.2]
      rw [e]
      exact Int.le_trans (p5.2 (bI_n0.mp c.2)) (nt_mono g5)
    · have e : (paX s B σ n).1 = muM (pa5 s B n) (bI (pa5 s B n 6 = 3)) 1 := by
        show (if _ then _ else _) = _
        rw [if_neg c]
      rw [e] at h8
      exfalso
      unfold muM at h8
      by_cases d : bI (pa5 s B n 6 = 3) = 0
      · rw [if_pos d] at h8; exact fM_8 (by decide) h8
      · rw [if_neg d] at h8; exact c ⟨h8, d⟩
theorem wlst_in {s B : Int → Int} : 0 ≤ wlst s B ∧ wlst s B ≤ 1 := lkV_in (by decide)
theorem NI_up {σ : Int → Int} {i v : Int} (h : NI σ) (h7 : i ≠ 7) (h18 : i ≠ 18) (h29 : i ≠ 29) (hv : -1000000 < v ∧ v < 1000000) : NI (up σ i v) := by
  refine ⟨sB_up h.1 hv, ?_, ?_, ?_⟩
  · rw [up_n (Ne.symm h7)]; exact h.2.1
  · rw [up_n (Ne.symm h18)]; exact h.2.2.1
  · rw [up_n (Ne.symm h29)]; exact h.2.2.2
theorem NI_wl {s B σ : Int → Int} (h : NI σ) : NI (wlN s B σ) := by
  have a := wlst_in (s := s) (B := B)
  have b := lkV_in (s := goM (wl4 (wlst s B) (wl3 s B)) B) (p := 1) (q := 9) (by decide)
  unfold wlN
  split
  · exact NI_up h (by omega) (by omega) (by omega) ⟨by omega, by omega⟩
  · exact h
theorem NI_ll {s B σ : Int → Int} (h : NI σ) : NI (llN s B σ) := by
  have a : 0 ≤ llf s B σ ∧ llf s B σ ≤ 499 := lkV_in (by decide)
  have h7 := h.2.1
  unfold llN
  by_cases c : s 8 = 0 ∧ ¬ bI (σ 7 < 20) = 0
  · rw [if_pos c]
    have c7 := bI_n0.mp c.2
    split
    · have g : NI (up σ (400 + σ 7) (llf s B σ)) := NI_up h (by omega) (by omega) (by omega) ⟨by omega, by omega⟩
      exact ⟨sB_up g.1 ⟨by omega, by omega⟩, (show 0 ≤ σ 7 + 1 ∧ σ 7 + 1 ≤ 20 by omega), g.2.2.1, g.2.2.2⟩
    · exact h
  · rw [if_neg c]; exact h
theorem ml_ok {g B σ : Int → Int} {st m : Int} (hst : 0 ≤ st ∧ st ≤ 1) (hm : 0 ≤ m ∧ m < 20) (h : NI σ) : ∀ k : Nat, NI (mlN g B st m σ k) ∧ ∀ j : Int, j < 80 → mlN g B st m σ k j = σ j := by
  intro k
  induction k with
  | zero => exact ⟨h, fun _ _ => rfl⟩
  | succ k ih =>
    by_cases c : lkM (mlS g B k) 0 255 8 = 0 ∧ ¬ bI ((k : Int) < 8) = 0
    · have a := lkV_in (s := mlS g B k) (p := 0) (q := 255) (by decide)
      have c8 := bI_n0.mp c.2
      rw [show mlN g B st m σ (k + 1) = _ from if_pos c]
      refine ⟨NI_up ih.1 (by omega) (by omega) (by omega) ⟨by omega, by omega⟩, fun j hj => ?_⟩
      rw [up_n (by omega)]
      exact ih.2 j hj
    · rw [show mlN g B st m σ (k + 1) = _ from if_neg c]
      exact ih
theorem NI_ms {s B σ : Int → Int} (h : NI σ) : NI (msN s B σ) := by
  have a := wlst_in (s := s) (B := B)
  have hm := NI_4 h (wlst s B) (by omega)
  have hK : mlK (me5 s B σ) B ≤ 9 := skN_le _
  unfold msN
  by_cases c : wl2 s B 8 = 0 ∧ ¬ bI (σ (18 + 11 * wlst s B + 0) < 20) = 0
  · rw [if_pos c]
    have c20 := bI_n0.mp c.2
    obtain ⟨g1, g2⟩ := ml_ok (g := me5 s B σ) (B := B) a ⟨hm.1, c20⟩ h (mlK (me5 s B σ) B)
    split
    · have q : NI (up (mlN (me5 s B σ) B (wlst s B) (σ (18 + 11 * wlst s B + 0)) σ (mlK (me5 s B σ) B)) (40 + 20 * wlst s B + σ (18 + 11 * wlst s B + 0)) (mlK (me5 s B σ) B : Int)) := NI_up g1 (by omega) (by omega) (by omega) ⟨by omega, by omega⟩
      have e := g2 (18 + 11 * wlst s B + 0) (by omega)
      rw [e]
      refine ⟨sB_up q.1 ⟨by omega, by omega⟩, ?_, ?_, ?_⟩
      · rw [up_n (by omega)]; exact q.2.1
      · by_cases d : (18 : Int) = 18 + 11 * wlst s B + 0
        · unfold up; rw [if_pos d]; omega
        · rw [up_n d]; exact q.2.2.1
      · by_cases d : (29 : Int) = 18 + 11 * wlst s B + 0
        · unfold up; rw [if_pos d]; omega
        · rw [up_n d]; exact q.2.2.2
    · exact g1
  · rw [if_neg c]; exact h
theorem NI_st {s B σ : Int → Int} (h : NI σ) : NI (stN s B σ) := by
  unfold stN
  by_cases c1 : wdM s B sK1
  · rw [if_pos c1]; exact NI_wl h
  · rw [if_neg c1]
    by_cases c2 : wdM s B sK2
    · rw [if_pos c2]; exact NI_ms h
    · rw [if_neg c2]
      by_cases c3 : wdM s B sK3
      · rw [if_pos c3]; exact NI_ll h
      · rw [if_neg c3]; exact h
theorem paI_ok {B : Int → Int} {x : PX} (hB : sB 1000 B) (h1 : RM x.1) (h2 : NI x.2) : ∀ k : Nat, RM (paI B x k).1 ∧ NI (paI B x k).2 := by
  intro k
  induction k with
  | zero => exact ⟨h1, h2⟩
  | succ k ih => exact ⟨sfS_ok ih.1 hB, NI_st ih.2⟩

end Pure15
