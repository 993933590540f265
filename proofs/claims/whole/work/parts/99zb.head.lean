section HeadT
theorem av_1 {f bu : Int → Int} : avR f bu 1 = f 1 := by
  have sk : skR f bu 1 = f 1 := by unfold skR; rw [up_n (by decide), up_n (by decide)]
  unfold avR plR pdR
  (repeat' split) <;> (repeat rw [up_n (show (1 : Int) ≠ _ by decide)]) <;> exact sk
theorem fl_1 {f : Int → Int} {o k : Int} : flR f o k 1 = f 1 := by
  unfold flR
  split
  · rw [up_n (by decide)]
  · rfl
theorem ts_1 {f bu : Int → Int} : tsR f bu 1 = f 1 := by
  unfold tsR
  split
  · exact av_1
  · exact fl_1
theorem tw_1 {f bu : Int → Int} {b : List Int32} : twR f bu b 1 = f 1 := by
  unfold twR
  split
  · exact av_1
  · exact fl_1
theorem tn_1 {f bu : Int → Int} {p q : Int} : tnR f bu p q 1 = f 1 := by
  unfold tnR
  (repeat' split)
  · rfl
  · exact fl_1
  · exact fl_1
  · rw [av_1, up_n (by decide)]
/-- the first line of a text -/
theorem hd_TR {f s bu B σ : Int → Int} {ln : Int} {F : Int → Int → Int} {K : Int → Int → Int64} (ho : RO f) (hbu : sB 1000 bu) (hb : BE bu B ln) (hln : 0 ≤ ln ∧ ln ≤ 700) : TR (hdT f bu ln F K).1 (paX s B σ ln).1 ∧ tnV (hdW f bu ln) 1 7 = lkV (pa3 s B ln) 1 7 ∧ tnV (tnR (hdW f bu ln) bu 1 7) 1 99 = lkV (pa4 s B ln) 1 99 ∧ RO (hdT f bu ln F K).1 ∧ (hdT f bu ln F K).1 1 = ln := by
  have r1 : hdR f ln 1 = ln := by unfold hdR; rw [up_n (by decide), up_n (by decide), up_n (by decide), up_n (by decide), up_s]
  have a0 : TA (avR (hdR f ln) bu) (ntM (paH s ln) B) := by
    refine nt_eq (by rw [r1]; exact hb) ?_ ?_ ?_ ?_ ?_ ?_ ?_ ?_
    · rfl
    · rfl
    · rw [r1]; rfl
    · rfl
    · rfl
    · rfl
    · exact Int.le_refl 0
    · rw [r1]; exact hln.1
  have o0 := avR_ok (hdR_ok ho hln) hbu
  have b0 : BE bu B (avR (hdR f ln) bu 1) := by rw [av_1, r1]; exact hb
  have a1 : TR (hdW f bu ln) (pa3 s B ln) := tw_TR (b := sK0) o0 b0 a0
  have o1 := hdW_ok ho hbu hln
  have w1 : hdW f bu ln 1 = ln := by unfold hdW; rw [tw_1, av_1, r1]
  have a2 : TR (tnR (hdW f bu ln) bu 1 7) (pa4 s B ln) := tn_TR o1 (by rw [w1]; exact hb) a1
  have o2 := tnR_ok (p := 1) (q := 7) o1 hbu (by decide)
  have a3 : TR (tnR (tnR (hdW f bu ln) bu 1 7) bu 1 99) (pa5 s B ln) := tn_TR o2 (by rw [tn_1, w1]; exact hb) a2
  have o3 := tnR_ok (p := 1) (q := 99) o2 hbu (by decide)
  have a4 := ts_TR o3 (by rw [tn_1, tn_1, w1]; exact hb) a3
  exact ⟨a4, tn_V a1, tn_V a2, tsR_ok o3 hbu, by show tsR _ bu 1 = ln; rw [ts_1, tn_1, tn_1, w1]⟩
end HeadT
