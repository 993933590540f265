section Pure12
def wl2 (s B : Int → Int) : Int → Int := lkM (goM s B) 0 1
def wlst (s B : Int → Int) : Int := lkV (goM s B) 0 1
def wlc (s B : Int → Int) : Int := if wlst s B = 0 then bI (wl2 s B 17 = 0) else bI (wl2 s B 18 = 0)
def wl3 (s B : Int → Int) : Int → Int := muM (wl2 s B) (wlc s B) 2
def wl4 (st : Int) (s : Int → Int) : Int → Int := if st = 0 then up (up s 17 1) 18 (bI (¬ s 18 = 0)) else up (up s 17 (bI (¬ s 17 = 0))) 18 1
def wlS (s B : Int → Int) : Int → Int := if wl2 s B 8 = 0 ∧ ¬ wlc s B = 0 then tkM (goM (wl4 (wlst s B) (wl3 s B)) B) B 1 9 else wl3 s B
def wlN (s B σ : Int → Int) : Int → Int := if wl2 s B 8 = 0 ∧ ¬ wlc s B = 0 then up σ (18 + 11 * wlst s B + 3) (lkV (goM (wl4 (wlst s B) (wl3 s B)) B) 1 9) else σ
theorem wl4_ok {st : Int} {s : Int → Int} (h : RM s) : RM (wl4 st s) := by
  unfold wl4
  split
  · exact ⟨h.1, h.2.1, h.2.2.1, h.2.2.2.1, h.2.2.2.2.1, Or.inr rfl, bI_01⟩
  · exact ⟨h.1, h.2.1, h.2.2.1, h.2.2.2.1, h.2.2.2.2.1, bI_01, Or.inr rfl⟩
theorem wlS_ok {s B : Int → Int} (h : RM s) (hB : sB 1000 B) : RM (wlS s B) := by
  have g : RM (wl3 s B) := muM_ok (lkM_ok (goM_ok h hB)) (by decide)
  unfold wlS
  split
  · exact tkM_ok (goM_ok (wl4_ok g) hB) hB
  · exact g
def llf (s B σ : Int → Int) : Int := lkV (goM (muM s (bI (σ 7 < 20)) 4) B) 0 499
def ll3 (s B σ : Int → Int) : Int → Int := lkM (goM (muM s (bI (σ 7 < 20)) 4) B) 0 499
def llS (s B σ : Int → Int) : Int → Int := if s 8 = 0 ∧ ¬ bI (σ 7 < 20) = 0 then (if ll3 s B σ 8 = 0 ∧ ¬ bI (lz σ (llf s B σ) = 0) = 0 then goM (muM (ll3 s B σ) (bI (lz σ (llf s B σ) = 0)) 2) B else muM (ll3 s B σ) (bI (lz σ (llf s B σ) = 0)) 2) else muM s (bI (σ 7 < 20)) 4
def llN (s B σ : Int → Int) : Int → Int := if s 8 = 0 ∧ ¬ bI (σ 7 < 20) = 0 then (if ll3 s B σ 8 = 0 ∧ ¬ bI (lz σ (llf s B σ) = 0) = 0 then up (up σ (400 + σ 7) (llf s B σ)) 7 (σ 7 + 1) else σ) else σ
theorem llS_ok {s B σ : Int → Int} (h : RM s) (hB : sB 1000 B) : RM (llS s B σ) := by
  have g : RM (muM s (bI (σ 7 < 20)) 4) := muM_ok h (by decide)
  have g3 : RM (muM (ll3 s B σ) (bI (lz σ (llf s B σ) = 0)) 2) := muM_ok (lkM_ok (goM_ok g hB)) (by decide)
  unfold llS
  split
  · split
    · exact goM_ok g3 hB
    · exact g3
  · exact g

end Pure12
