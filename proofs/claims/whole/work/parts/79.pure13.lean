section Pure13
def me3 (s B σ : Int → Int) : Int → Int := muM (wl2 s B) (bI (σ (18 + 11 * wlst s B + 0) < 20)) 4
def me5 (s B σ : Int → Int) : Int → Int := muM (goM (me3 s B σ) B) (bI (goM (me3 s B σ) B 6 = 2)) 1
theorem me5_g {s B σ : Int → Int} : bI (goM (me3 s B σ) B 8 = 0 ∧ ¬ bI (goM (me3 s B σ) B 6 = 2) = 0) = bI (me5 s B σ 8 = 0 ∧ me5 s B σ 6 = 2) := by
  refine bI_c ?_
  unfold me5
  generalize goM (me3 s B σ) B = g
  unfold muM fM
  by_cases c : g 6 = 2
  · rw [bI_t c, if_neg (by decide : ¬ (1 : Int) = 0)]
    exact ⟨fun h => ⟨h.1, c⟩, fun h => ⟨h.1, by decide⟩⟩
  · rw [bI_f c, if_pos rfl]
    refine ⟨fun h => absurd rfl h.2, fun h => ?_⟩
    by_cases d : g 8 = 0
    · rw [if_pos d] at h
      exact absurd h.2 c
    · rw [if_neg d] at h
      exact absurd h.1 d
def mlS (g B : Int → Int) : Nat → Int → Int
  | 0 => g
  | k + 1 => goM (muM (lkM (mlS g B k) 0 255) (bI ((k : Int) < 8)) 4) B
def mlN (g B : Int → Int) (st m : Int) (σ : Int → Int) : Nat → Int → Int
  | 0 => σ
  | k + 1 => if lkM (mlS g B k) 0 255 8 = 0 ∧ ¬ bI ((k : Int) < 8) = 0 then up (mlN g B st m σ k) ((80 + (8 * ((20 * st) + m))) + (k : Int)) (lkV (mlS g B k) 0 255) else mlN g B st m σ k
def mlK (g B : Int → Int) : Nat := skN (fun k : Nat => ¬ (mlS g B k 8 = 0 ∧ mlS g B k 6 = 2)) 9
theorem me5_ok {s B σ : Int → Int} (h : RM s) (hB : sB 1000 B) : RM (me5 s B σ) := muM_ok (goM_ok (muM_ok (lkM_ok (goM_ok h hB)) (by decide)) hB) (by decide)
theorem mlS_ok {g B : Int → Int} (h : RM g) (hB : sB 1000 B) : ∀ k : Nat, RM (mlS g B k) := by
  intro k
  induction k with
  | zero => exact h
  | succ k ih => exact goM_ok (muM_ok (lkM_ok ih) (by decide)) hB
theorem fM_8 {s : Int → Int} {k : Int} (hk : ¬ k = 0) : ¬ fM s k 8 = 0 := by
  unfold fM
  split
  · exact hk
  · assumption
theorem goM_8 {s B : Int → Int} (h : ¬ s 8 = 0) : goM s B = s := if_neg h
theorem ml9 {g B : Int → Int} : ¬ mlS g B 9 8 = 0 := by
  have e : mlS g B 9 = goM (fM (lkM (mlS g B 8) 0 255) 4) B := by
    show goM (muM (lkM (mlS g B 8) 0 255) (bI (((8 : Nat) : Int) < 8)) 4) B = _
    rw [bI_f (by decide), show muM (lkM (mlS g B 8) 0 255) 0 4 = fM (lkM (mlS g B 8) 0 255) 4 from if_pos rfl]
  have h8 : ¬ fM (lkM (mlS g B 8) 0 255) 4 8 = 0 := fM_8 (by decide)
  rw [e, goM_8 h8]
  exact h8
def msS (s B σ : Int → Int) : Int → Int := if wl2 s B 8 = 0 ∧ ¬ bI (σ (18 + 11 * wlst s B + 0) < 20) = 0 then mlS (me5 s B σ) B (mlK (me5 s B σ) B) else me3 s B σ
def msN (s B σ : Int → Int) : Int → Int := if wl2 s B 8 = 0 ∧ ¬ bI (σ (18 + 11 * wlst s B + 0) < 20) = 0 then (if mlS (me5 s B σ) B (mlK (me5 s B σ) B) 8 = 0 then up (up (mlN (me5 s B σ) B (wlst s B) (σ (18 + 11 * wlst s B + 0)) σ (mlK (me5 s B σ) B)) (40 + 20 * wlst s B + σ (18 + 11 * wlst s B + 0)) (mlK (me5 s B σ) B : Int)) (18 + 11 * wlst s B + 0) (mlN (me5 s B σ) B (wlst s B) (σ (18 + 11 * wlst s B + 0)) σ (mlK (me5 s B σ) B) (18 + 11 * wlst s B + 0) + 1) else mlN (me5 s B σ) B (wlst s B) (σ (18 + 11 * wlst s B + 0)) σ (mlK (me5 s B σ) B)) else σ
theorem msS_ok {s B σ : Int → Int} (h : RM s) (hB : sB 1000 B) : RM (msS s B σ) := by
  unfold msS
  split
  · exact mlS_ok (me5_ok h hB) hB _
  · exact muM_ok (lkM_ok (goM_ok h hB)) (by decide)

end Pure13
