section StepJ
theorem JR_c {σ τ : Int → Int} (h : JR σ) (e : ∀ j, j < 0 ∨ 40 ≤ j → τ j = σ j) : JR τ := by
  obtain ⟨h1, h2, h3, h4⟩ := h
  exact ⟨fun j a b => by rw [e j (by omega)]; exact h1 j a b, fun j a b => by rw [e j (by omega)]; exact h2 j a b, fun j a b => by rw [e j (by omega)]; exact h3 j a b, fun j a => by rw [e j (by omega)]; exact h4 j a⟩
set_option maxHeartbeats 4000000 in
theorem J_d0 {σ : Int → Int} {z l b e : Int} (h : J σ) (h1 : σ 1 = 0) (h2 : σ 2 < σ 4) (h3 : σ 24 + σ 2 < σ 18) (hl : 0 ≤ l ∧ l ≤ 1) (hb : 0 ≤ b ∧ b ≤ 32) (he : 0 ≤ e ∧ e ≤ 15) : J (sdF 0 z (preM l b e σ)) := by
  obtain ⟨hJ0, hJS, hJU, hJP, hJA, hJR, hJ3⟩ := h
  simp only [J0, JS, JA, Int.reduceAdd] at hJ0 hJS hJU hJA
  rw [JP, if_pos h1] at hJP
  rw [sdF_0 (show preM l b e σ 1 = 0 from h1), show preM l b e σ 24 + preM l b e σ 2 = σ 24 + σ 2 from rfl]
  generalize hn : σ 24 + σ 2 = n at h3
  by_cases hz : z = 0
  · rw [if_pos hz]
    by_cases hm : 0 < σ 23 - σ 39
    · skip
      by_cases hv : n < σ 26
      · skip
        have hv2 : n + 1 ≤ σ 26 := by omega
        by_cases ha : n = σ 30
        · skip
          refine ⟨?_, ?_, ?_, ?_, ?_, JR_c hJR (fun j hj => ?_), ?_⟩
          · simp only [J0, JS, JP, JA, sb0, te0, sa0, preM, bI, h1, not_true_eq_false, not_false_eq_true, hm, hv, hv2, ha, up, Int.reduceAdd, Int.reduceSub, Int.reduceMul, Int.reduceNeg, Int.reduceEq, Int.reduceLT, Int.reduceLE, reduceIte, if_true, if_false, eq_self, ite_true, ite_false]; and_intros <;> first | omega | simp
          · simp only [J0, JS, JP, JA, sb0, te0, sa0, preM, bI, h1, not_true_eq_false, not_false_eq_true, hm, hv, hv2, ha, up, Int.reduceAdd, Int.reduceSub, Int.reduceMul, Int.reduceNeg, Int.reduceEq, Int.reduceLT, Int.reduceLE, reduceIte, if_true, if_false, eq_self, ite_true, ite_false]; and_intros <;> first | omega | simp
          · simp only [J0, JS, JP, JA, sb0, te0, sa0, preM, bI, h1, not_true_eq_false, not_false_eq_true, hm, hv, hv2, ha, up, Int.reduceAdd, Int.reduceSub, Int.reduceMul, Int.reduceNeg, Int.reduceEq, Int.reduceLT, Int.reduceLE, reduceIte, if_true, if_false, eq_self, ite_true, ite_false]; and_intros <;> first | omega | simp
          · simp only [J0, JS, JP, JA, sb0, te0, sa0, preM, bI, h1, not_true_eq_false, not_false_eq_true, hm, hv, hv2, ha, up, Int.reduceAdd, Int.reduceSub, Int.reduceMul, Int.reduceNeg, Int.reduceEq, Int.reduceLT, Int.reduceLE, reduceIte, if_true, if_false, eq_self, ite_true, ite_false]; and_intros <;> first | omega | simp
          · simp only [J0, JS, JP, JA, sb0, te0, sa0, preM, bI, h1, not_true_eq_false, not_false_eq_true, hm, hv, hv2, ha, up, Int.reduceAdd, Int.reduceSub, Int.reduceMul, Int.reduceNeg, Int.reduceEq, Int.reduceLT, Int.reduceLE, reduceIte, if_true, if_false, eq_self, ite_true, ite_false]; and_intros <;> first | omega | simp
          · rw [show te0 (sa0 n (preM l b e σ)) = _ from if_pos hm]; simp only [sb0, sa0, preM]; repeat rw [up_n (by omega)]
          · simp only [J0, JS, JP, JA, sb0, te0, sa0, preM, bI, h1, not_true_eq_false, not_false_eq_true, hm, hv, hv2, ha, up, Int.reduceAdd, Int.reduceSub, Int.reduceMul, Int.reduceNeg, Int.reduceEq, Int.reduceLT, Int.reduceLE, reduceIte, if_true, if_false, eq_self, ite_true, ite_false]; omega
        · skip
          refine ⟨?_, ?_, ?_, ?_, ?_, JR_c hJR (fun j hj => ?_), ?_⟩
          · simp only [J0, JS, JP, JA, sb0, te0, sa0, preM, bI, h1, not_true_eq_false, not_false_eq_true, hm, hv, hv2, ha, up, Int.reduceAdd, Int.reduceSub, Int.reduceMul, Int.reduceNeg, Int.reduceEq, Int.reduceLT, Int.reduceLE, reduceIte, if_true, if_false, eq_self, ite_true, ite_false]; and_intros <;> first | omega | simp
          · simp only [J0, JS, JP, JA, sb0, te0, sa0, preM, bI, h1, not_true_eq_false, not_false_eq_true, hm, hv, hv2, ha, up, Int.reduceAdd, Int.reduceSub, Int.reduceMul, Int.reduceNeg, Int.reduceEq, Int.reduceLT, Int.reduceLE, reduceIte, if_true, if_false, eq_self, ite_true, ite_false]; and_intros <;> first | omega | simp
          · simp only [J0, JS, JP, JA, sb0, te0, sa0, preM, bI, h1, not_true_eq_false, not_false_eq_true, hm, hv, hv2, ha, up, Int.reduceAdd, Int.reduceSub, Int.reduceMul, Int.reduceNeg, Int.reduceEq, Int.reduceLT, Int.reduceLE, reduceIte, if_true, if_false, eq_self, ite_true, ite_false]; and_intros <;> first | omega | simp
          · simp only [J0, JS, JP, JA, sb0, te0, sa0, preM, bI, h1, not_true_eq_false, not_false_eq_true, hm, hv, hv2, ha, up, Int.reduceAdd, Int.reduceSub, Int.reduceMul, Int.reduceNeg, Int.reduceEq, Int.reduceLT, Int.reduceLE, reduceIte, if_true, if_false, eq_self, ite_true, ite_false]; and_intros <;> first | omega | simp
          · simp only [J0, JS, JP, JA, sb0, te0, sa0, preM, bI, h1, not_true_eq_false, not_false_eq_true, hm, hv, hv2, ha, up, Int.reduceAdd, Int.reduceSub, Int.reduceMul, Int.reduceNeg, Int.reduceEq, Int.reduceLT, Int.reduceLE, reduceIte, if_true, if_false, eq_self, ite_true, ite_false]; and_intros <;> first | omega | simp
          · rw [show te0 (sa0 n (preM l b e σ)) = _ from if_pos hm]; simp only [sb0, sa0, preM]; repeat rw [up_n (by omega)]
          · simp only [J0, JS, JP, JA, sb0, te0, sa0, preM, bI, h1, not_true_eq_false, not_false_eq_true, hm, hv, hv2, ha, up, Int.reduceAdd, Int.reduceSub, Int.reduceMul, Int.reduceNeg, Int.reduceEq, Int.reduceLT, Int.reduceLE, reduceIte, if_true, if_false, eq_self, ite_true, ite_false]; omega
      · skip
        have hv2 : ¬ (n + 1 ≤ σ 26) := by omega
        by_cases ha : n = σ 30
        · skip
          refine ⟨?_, ?_, ?_, ?_, ?_, JR_c hJR (fun j hj => ?_), ?_⟩
          · simp only [J0, JS, JP, JA, sb0, te0, sa0, preM, bI, h1, not_true_eq_false, not_false_eq_true, hm, hv, hv2, ha, up, Int.reduceAdd, Int.reduceSub, Int.reduceMul, Int.reduceNeg, Int.reduceEq, Int.reduceLT, Int.reduceLE, reduceIte, if_true, if_false, eq_self, ite_true, ite_false]; and_intros <;> first | omega | simp
          · simp only [J0, JS, JP, JA, sb0, te0, sa0, preM, bI, h1, not_true_eq_false, not_false_eq_true, hm, hv, hv2, ha, up, Int.reduceAdd, Int.reduceSub, Int.reduceMul, Int.reduceNeg, Int.reduceEq, Int.reduceLT, Int.reduceLE, reduceIte, if_true, if_false, eq_self, ite_true, ite_false]; and_intros <;> first | omega | simp
          · simp only [J0, JS, JP, JA, sb0, te0, sa0, preM, bI, h1, not_true_eq_false, not_false_eq_true, hm, hv, hv2, ha, up, Int.reduceAdd, Int.reduceSub, Int.reduceMul, Int.reduceNeg, Int.reduceEq, Int.reduceLT, Int.reduceLE, reduceIte, if_true, if_false, eq_self, ite_true, ite_false]; and_intros <;> first | omega | simp
          · simp only [J0, JS, JP, JA, sb0, te0, sa0, preM, bI, h1, not_true_eq_false, not_false_eq_true, hm, hv, hv2, ha, up, Int.reduceAdd, Int.reduceSub, Int.reduceMul, Int.reduceNeg, Int.reduceEq, Int.reduceLT, Int.reduceLE, reduceIte, if_true, if_false, eq_self, ite_true, ite_false]; and_intros <;> first | omega | simp
          · simp only [J0, JS, JP, JA, sb0, te0, sa0, preM, bI, h1, not_true_eq_false, not_false_eq_true, hm, hv, hv2, ha, up, Int.reduceAdd, Int.reduceSub, Int.reduceMul, Int.reduceNeg, Int.reduceEq, Int.reduceLT, Int.reduceLE, reduceIte, if_true, if_false, eq_self, ite_true, ite_false]; and_intros <;> first | omega | simp
          · rw [show te0 (sa0 n (preM l b e σ)) = _ from if_pos hm]; simp only [sb0, sa0, preM]; repeat rw [up_n (by omega)]
          · simp only [J0, JS, JP, JA, sb0, te0, sa0, preM, bI, h1, not_true_eq_false, not_false_eq_true, hm, hv, hv2, ha, up, Int.reduceAdd, Int.reduceSub, Int.reduceMul, Int.reduceNeg, Int.reduceEq, Int.reduceLT, Int.reduceLE, reduceIte, if_true, if_false, eq_self, ite_true, ite_false]; omega
        · skip
          refine ⟨?_, ?_, ?_, ?_, ?_, JR_c hJR (fun j hj => ?_), ?_⟩
          · simp only [J0, JS, JP, JA, sb0, te0, sa0, preM, bI, h1, not_true_eq_false, not_false_eq_true, hm, hv, hv2, ha, up, Int.reduceAdd, Int.reduceSub, Int.reduceMul, Int.reduceNeg, Int.reduceEq, Int.reduceLT, Int.reduceLE, reduceIte, if_true, if_false, eq_self, ite_true, ite_false]; and_intros <;> first | omega | simp
          · simp only [J0, JS, JP, JA, sb0, te0, sa0, preM, bI, h1, not_true_eq_false, not_false_eq_true, hm, hv, hv2, ha, up, Int.reduceAdd, Int.reduceSub, Int.reduceMul, Int.reduceNeg, Int.reduceEq, Int.reduceLT, Int.reduceLE, reduceIte, if_true, if_false, eq_self, ite_true, ite_false]; and_intros <;> first | omega | simp
          · simp only [J0, JS, JP, JA, sb0, te0, sa0, preM, bI, h1, not_true_eq_false, not_false_eq_true, hm, hv, hv2, ha, up, Int.reduceAdd, Int.reduceSub, Int.reduceMul, Int.reduceNeg, Int.reduceEq, Int.reduceLT, Int.reduceLE, reduceIte, if_true, if_false, eq_self, ite_true, ite_false]; and_intros <;> first | omega | simp
          · simp only [J0, JS, JP, JA, sb0, te0, sa0, preM, bI, h1, not_true_eq_false, not_false_eq_true, hm, hv, hv2, ha, up, Int.reduceAdd, Int.reduceSub, Int.reduceMul, Int.reduceNeg, Int.reduceEq, Int.reduceLT, Int.reduceLE, reduceIte, if_true, if_false, eq_self, ite_true, ite_false]; and_intros <;> first | omega | simp
          · simp only [J0, JS, JP, JA, sb0, te0, sa0, preM, bI, h1, not_true_eq_false, not_false_eq_true, hm, hv, hv2, ha, up, Int.reduceAdd, Int.reduceSub, Int.reduceMul, Int.reduceNeg, Int.reduceEq, Int.reduceLT, Int.reduceLE, reduceIte, if_true, if_false, eq_self, ite_true, ite_false]; and_intros <;> first | omega | simp
          · rw [show te0 (sa0 n (preM l b e σ)) = _ from if_pos hm]; simp only [sb0, sa0, preM]; repeat rw [up_n (by omega)]
          · simp only [J0, JS, JP, JA, sb0, te0, sa0, preM, bI, h1, not_true_eq_false, not_false_eq_true, hm, hv, hv2, ha, up, Int.reduceAdd, Int.reduceSub, Int.reduceMul, Int.reduceNeg, Int.reduceEq, Int.reduceLT, Int.reduceLE, reduceIte, if_true, if_false, eq_self, ite_true, ite_false]; omega
    · skip
      by_cases hv : n < σ 26
      · skip
        have hv2 : n + 1 ≤ σ 26 := by omega
        by_cases ha : n = σ 30
        · skip
          refine ⟨?_, ?_, ?_, ?_, ?_, JR_c hJR (fun j hj => ?_), ?_⟩
          · simp only [J0, JS, JP, JA, sb0, te0, sa0, preM, bI, h1, not_true_eq_false, not_false_eq_true, hm, hv, hv2, ha, up, Int.reduceAdd, Int.reduceSub, Int.reduceMul, Int.reduceNeg, Int.reduceEq, Int.reduceLT, Int.reduceLE, reduceIte, if_true, if_false, eq_self, ite_true, ite_false]; and_intros <;> first | omega | simp
          · simp only [J0, JS, JP, JA, sb0, te0, sa0, preM, bI, h1, not_true_eq_false, not_false_eq_true, hm, hv, hv2, ha, up, Int.reduceAdd, Int.reduceSub, Int.reduceMul, Int.reduceNeg, Int.reduceEq, Int.reduceLT, Int.reduceLE, reduceIte, if_true, if_false, eq_self, ite_true, ite_false]; and_intros <;> first | omega | simp
          · simp only [J0, JS, JP, JA, sb0, te0, sa0, preM, bI, h1, not_true_eq_false, not_false_eq_true, hm, hv, hv2, ha, up, Int.reduceAdd, Int.reduceSub, Int.reduceMul, Int.reduceNeg, Int.reduceEq, Int.reduceLT, Int.reduceLE, reduceIte, if_true, if_false, eq_self, ite_true, ite_false]; and_intros <;> first | omega | simp
          · simp only [J0, JS, JP, JA, sb0, te0, sa0, preM, bI, h1, not_true_eq_false, not_false_eq_true, hm, hv, hv2, ha, up, Int.reduceAdd, Int.reduceSub, Int.reduceMul, Int.reduceNeg, Int.reduceEq, Int.reduceLT, Int.reduceLE, reduceIte, if_true, if_false, eq_self, ite_true, ite_false]; and_intros <;> first | omega | simp
          · simp only [J0, JS, JP, JA, sb0, te0, sa0, preM, bI, h1, not_true_eq_false, not_false_eq_true, hm, hv, hv2, ha, up, Int.reduceAdd, Int.reduceSub, Int.reduceMul, Int.reduceNeg, Int.reduceEq, Int.reduceLT, Int.reduceLE, reduceIte, if_true, if_false, eq_self, ite_true, ite_false]; and_intros <;> first | omega | simp
          · rw [show te0 (sa0 n (preM l b e σ)) = _ from if_neg hm]; simp only [sb0, sa0, preM]; repeat rw [up_n (by omega)]
          · simp only [J0, JS, JP, JA, sb0, te0, sa0, preM, bI, h1, not_true_eq_false, not_false_eq_true, hm, hv, hv2, ha, up, Int.reduceAdd, Int.reduceSub, Int.reduceMul, Int.reduceNeg, Int.reduceEq, Int.reduceLT, Int.reduceLE, reduceIte, if_true, if_false, eq_self, ite_true, ite_false]; omega
        · skip
          refine ⟨?_, ?_, ?_, ?_, ?_, JR_c hJR (fun j hj => ?_), ?_⟩
          · simp only [J0, JS, JP, JA, sb0, te0, sa0, preM, bI, h1, not_true_eq_false, not_false_eq_true, hm, hv, hv2, ha, up, Int.reduceAdd, Int.reduceSub, Int.reduceMul, Int.reduceNeg, Int.reduceEq, Int.reduceLT, Int.reduceLE, reduceIte, if_true, if_false, eq_self, ite_true, ite_false]; and_intros <;> first | omega | simp
          · simp only [J0, JS, JP, JA, sb0, te0, sa0, preM, bI, h1, not_true_eq_false, not_false_eq_true, hm, hv, hv2, ha, up, Int.reduceAdd, Int.reduceSub, Int.reduceMul, Int.reduceNeg, Int.reduceEq, Int.reduceLT, Int.reduceLE, reduceIte, if_true, if_false, eq_self, ite_true, ite_false]; and_intros <;> first | omega | simp
          · simp only [J0, JS, JP, JA, sb0, te0, sa0, preM, bI, h1, not_true_eq_false, not_false_eq_true, hm, hv, hv2, ha, up, Int.reduceAdd, Int.reduceSub, Int.reduceMul, Int.reduceNeg, Int.reduceEq, Int.reduceLT, Int.reduceLE, reduceIte, if_true, if_false, eq_self, ite_true, ite_false]; and_intros <;> first | omega | simp
          · simp only [J0, JS, JP, JA, sb0, te0, sa0, preM, bI, h1, not_true_eq_false, not_false_eq_true, hm, hv, hv2, ha, up, Int.reduceAdd, Int.reduceSub, Int.reduceMul, Int.reduceNeg, Int.reduceEq, Int.reduceLT, Int.reduceLE, reduceIte, if_true, if_false, eq_self, ite_true, ite_false]; and_intros <;> first | omega | simp
          · simp only [J0, JS, JP, JA, sb0, te0, sa0, preM, bI, h1, not_true_eq_false, not_false_eq_true, hm, hv, hv2, ha, up, Int.reduceAdd, Int.reduceSub, Int.reduceMul, Int.reduceNeg, Int.reduceEq, Int.reduceLT, Int.reduceLE, reduceIte, if_true, if_false, eq_self, ite_true, ite_false]; and_intros <;> first | omega | simp
          · rw [show te0 (sa0 n (preM l b e σ)) = _ from if_neg hm]; simp only [sb0, sa0, preM]; repeat rw [up_n (by omega)]
          · simp only [J0, JS, JP, JA, sb0, te0, sa0, preM, bI, h1, not_true_eq_false, not_false_eq_true, hm, hv, hv2, ha, up, Int.reduceAdd, Int.reduceSub, Int.reduceMul, Int.reduceNeg, Int.reduceEq, Int.reduceLT, Int.reduceLE, reduceIte, if_true, if_false, eq_self, ite_true, ite_false]; omega
      · skip
        have hv2 : ¬ (n + 1 ≤ σ 26) := by omega
        by_cases ha : n = σ 30
        · skip
          refine ⟨?_, ?_, ?_, ?_, ?_, JR_c hJR (fun j hj => ?_), ?_⟩
          · simp only [J0, JS, JP, JA, sb0, te0, sa0, preM, bI, h1, not_true_eq_false, not_false_eq_true, hm, hv, hv2, ha, up, Int.reduceAdd, Int.reduceSub, Int.reduceMul, Int.reduceNeg, Int.reduceEq, Int.reduceLT, Int.reduceLE, reduceIte, if_true, if_false, eq_self, ite_true, ite_false]; and_intros <;> first | omega | simp
          · simp only [J0, JS, JP, JA, sb0, te0, sa0, preM, bI, h1, not_true_eq_false, not_false_eq_true, hm, hv, hv2, ha, up, Int.reduceAdd, Int.reduceSub, Int.reduceMul, Int.reduceNeg, Int.reduceEq, Int.reduceLT, Int.reduceLE, reduceIte, if_true, if_false, eq_self, ite_true, ite_false]; and_intros <;> first | omega | simp
          · simp only [J0, JS, JP, JA, sb0, te0, sa0, preM, bI, h1, not_true_eq_false, not_false_eq_true, hm, hv, hv2, ha, up, Int.reduceAdd, Int.reduceSub, Int.reduceMul, Int.reduceNeg, Int.reduceEq, Int.reduceLT, Int.reduceLE, reduceIte, if_true, if_false, eq_self, ite_true, ite_false]; and_intros <;> first | omega | simp
          · simp only [J0, JS, JP, JA, sb0, te0, sa0, preM, bI, h1, not_true_eq_false, not_false_eq_true, hm, hv, hv2, ha, up, Int.reduceAdd, Int.reduceSub, Int.reduceMul, Int.reduceNeg, Int.reduceEq, Int.reduceLT, Int.reduceLE, reduceIte, if_true, if_false, eq_self, ite_true, ite_false]; and_intros <;> first | omega | simp
          · simp only [J0, JS, JP, JA, sb0, te0, sa0, preM, bI, h1, not_true_eq_false, not_false_eq_true, hm, hv, hv2, ha, up, Int.reduceAdd, Int.reduceSub, Int.reduceMul, Int.reduceNeg, Int.reduceEq, Int.reduceLT, Int.reduceLE, reduceIte, if_true, if_false, eq_self, ite_true, ite_false]; and_intros <;> first | omega | simp
          · rw [show te0 (sa0 n (preM l b e σ)) = _ from if_neg hm]; simp only [sb0, sa0, preM]; repeat rw [up_n (by omega)]
          · simp only [J0, JS, JP, JA, sb0, te0, sa0, preM, bI, h1, not_true_eq_false, not_false_eq_true, hm, hv, hv2, ha, up, Int.reduceAdd, Int.reduceSub, Int.reduceMul, Int.reduceNeg, Int.reduceEq, Int.reduceLT, Int.reduceLE, reduceIte, if_true, if_false, eq_self, ite_true, ite_false]; omega
        · skip
          refine ⟨?_, ?_, ?_, ?_, ?_, JR_c hJR (fun j hj => ?_), ?_⟩
          · simp only [J0, JS, JP, JA, sb0, te0, sa0, preM, bI, h1, not_true_eq_false, not_false_eq_true, hm, hv, hv2, ha, up, Int.reduceAdd, Int.reduceSub, Int.reduceMul, Int.reduceNeg, Int.reduceEq, Int.reduceLT, Int.reduceLE, reduceIte, if_true, if_false, eq_self, ite_true, ite_false]; and_intros <;> first | omega | simp
          · simp only [J0, JS, JP, JA, sb0, te0, sa0, preM, bI, h1, not_true_eq_false, not_false_eq_true, hm, hv, hv2, ha, up, Int.reduceAdd, Int.reduceSub, Int.reduceMul, Int.reduceNeg, Int.reduceEq, Int.reduceLT, Int.reduceLE, reduceIte, if_true, if_false, eq_self, ite_true, ite_false]; and_intros <;> first | omega | simp
          · simp only [J0, JS, JP, JA, sb0, te0, sa0, preM, bI, h1, not_true_eq_false, not_false_eq_true, hm, hv, hv2, ha, up, Int.reduceAdd, Int.reduceSub, Int.reduceMul, Int.reduceNeg, Int.reduceEq, Int.reduceLT, Int.reduceLE, reduceIte, if_true, if_false, eq_self, ite_true, ite_false]; and_intros <;> first | omega | simp
          · simp only [J0, JS, JP, JA, sb0, te0, sa0, preM, bI, h1, not_true_eq_false, not_false_eq_true, hm, hv, hv2, ha, up, Int.reduceAdd, Int.reduceSub, Int.reduceMul, Int.reduceNeg, Int.reduceEq, Int.reduceLT, Int.reduceLE, reduceIte, if_true, if_false, eq_self, ite_true, ite_false]; and_intros <;> first | omega | simp
          · simp only [J0, JS, JP, JA, sb0, te0, sa0, preM, bI, h1, not_true_eq_false, not_false_eq_true, hm, hv, hv2, ha, up, Int.reduceAdd, Int.reduceSub, Int.reduceMul, Int.reduceNeg, Int.reduceEq, Int.reduceLT, Int.reduceLE, reduceIte, if_true, if_false, eq_self, ite_true, ite_false]; and_intros <;> first | omega | simp
          · rw [show te0 (sa0 n (preM l b e σ)) = _ from if_neg hm]; simp only [sb0, sa0, preM]; repeat rw [up_n (by omega)]
          · simp only [J0, JS, JP, JA, sb0, te0, sa0, preM, bI, h1, not_true_eq_false, not_false_eq_true, hm, hv, hv2, ha, up, Int.reduceAdd, Int.reduceSub, Int.reduceMul, Int.reduceNeg, Int.reduceEq, Int.reduceLT, Int.reduceLE, reduceIte, if_true, if_false, eq_self, ite_true, ite_false]; omega
  · rw [if_neg hz]
    by_cases hv : n < σ 26
    · skip
      have hv2 : n + 1 ≤ σ 26 := by omega
      refine ⟨?_, ?_, ?_, ?_, ?_, JR_c hJR (fun j hj => ?_), ?_⟩
      · simp only [J0, JS, JP, JA, sa0, preM, bI, h1, hv, hv2, up, Int.reduceAdd, Int.reduceSub, Int.reduceMul, Int.reduceNeg, Int.reduceEq, Int.reduceLT, Int.reduceLE, reduceIte, if_true, if_false, eq_self, ite_true, ite_false]; and_intros <;> first | omega | simp
      · simp only [J0, JS, JP, JA, sa0, preM, bI, h1, hv, hv2, up, Int.reduceAdd, Int.reduceSub, Int.reduceMul, Int.reduceNeg, Int.reduceEq, Int.reduceLT, Int.reduceLE, reduceIte, if_true, if_false, eq_self, ite_true, ite_false]; and_intros <;> first | omega | simp
      · simp only [J0, JS, JP, JA, sa0, preM, bI, h1, hv, hv2, up, Int.reduceAdd, Int.reduceSub, Int.reduceMul, Int.reduceNeg, Int.reduceEq, Int.reduceLT, Int.reduceLE, reduceIte, if_true, if_false, eq_self, ite_true, ite_false]; and_intros <;> first | omega | simp
      · simp only [J0, JS, JP, JA, sa0, preM, bI, h1, hv, hv2, up, Int.reduceAdd, Int.reduceSub, Int.reduceMul, Int.reduceNeg, Int.reduceEq, Int.reduceLT, Int.reduceLE, reduceIte, if_true, if_false, eq_self, ite_true, ite_false]; and_intros <;> first | omega | simp
      · simp only [J0, JS, JP, JA, sa0, preM, bI, h1, hv, hv2, up, Int.reduceAdd, Int.reduceSub, Int.reduceMul, Int.reduceNeg, Int.reduceEq, Int.reduceLT, Int.reduceLE, reduceIte, if_true, if_false, eq_self, ite_true, ite_false]; and_intros <;> first | omega | simp
      · simp only [sa0, preM]; repeat rw [up_n (by omega)]
      · simp only [J0, JS, JP, JA, sa0, preM, bI, h1, hv, hv2, up, Int.reduceAdd, Int.reduceSub, Int.reduceMul, Int.reduceNeg, Int.reduceEq, Int.reduceLT, Int.reduceLE, reduceIte, if_true, if_false, eq_self, ite_true, ite_false]; omega
    · skip
      have hv2 : ¬ (n + 1 ≤ σ 26) := by omega
      refine ⟨?_, ?_, ?_, ?_, ?_, JR_c hJR (fun j hj => ?_), ?_⟩
      · simp only [J0, JS, JP, JA, sa0, preM, bI, h1, hv, hv2, up, Int.reduceAdd, Int.reduceSub, Int.reduceMul, Int.reduceNeg, Int.reduceEq, Int.reduceLT, Int.reduceLE, reduceIte, if_true, if_false, eq_self, ite_true, ite_false]; and_intros <;> first | omega | simp
      · simp only [J0, JS, JP, JA, sa0, preM, bI, h1, hv, hv2, up, Int.reduceAdd, Int.reduceSub, Int.reduceMul, Int.reduceNeg, Int.reduceEq, Int.reduceLT, Int.reduceLE, reduceIte, if_true, if_false, eq_self, ite_true, ite_false]; and_intros <;> first | omega | simp
      · simp only [J0, JS, JP, JA, sa0, preM, bI, h1, hv, hv2, up, Int.reduceAdd, Int.reduceSub, Int.reduceMul, Int.reduceNeg, Int.reduceEq, Int.reduceLT, Int.reduceLE, reduceIte, if_true, if_false, eq_self, ite_true, ite_false]; and_intros <;> first | omega | simp
      · simp only [J0, JS, JP, JA, sa0, preM, bI, h1, hv, hv2, up, Int.reduceAdd, Int.reduceSub, Int.reduceMul, Int.reduceNeg, Int.reduceEq, Int.reduceLT, Int.reduceLE, reduceIte, if_true, if_false, eq_self, ite_true, ite_false]; and_intros <;> first | omega | simp
      · simp only [J0, JS, JP, JA, sa0, preM, bI, h1, hv, hv2, up, Int.reduceAdd, Int.reduceSub, Int.reduceMul, Int.reduceNeg, Int.reduceEq, Int.reduceLT, Int.reduceLE, reduceIte, if_true, if_false, eq_self, ite_true, ite_false]; and_intros <;> first | omega | simp
      · simp only [sa0, preM]; repeat rw [up_n (by omega)]
      · simp only [J0, JS, JP, JA, sa0, preM, bI, h1, hv, hv2, up, Int.reduceAdd, Int.reduceSub, Int.reduceMul, Int.reduceNeg, Int.reduceEq, Int.reduceLT, Int.reduceLE, reduceIte, if_true, if_false, eq_self, ite_true, ite_false]; omega
set_option maxHeartbeats 4000000 in
theorem J_d1 {σ : Int → Int} {z l b e : Int} (h : J σ) (h1 : σ 1 = 1) (h2 : σ 2 < σ 4) (h3 : σ 35 + σ 2 < σ 29) (hl : 0 ≤ l ∧ l ≤ 1) (hb : 0 ≤ b ∧ b ≤ 32) (he : 0 ≤ e ∧ e ≤ 15) : J (sdF 1 z (preM l b e σ)) := by
  obtain ⟨hJ0, hJS, hJU, hJP, hJA, hJR, hJ3⟩ := h
  simp only [J0, JS, JA, Int.reduceAdd] at hJ0 hJS hJU hJA
  rw [JP, if_neg (by omega)] at hJP
  rw [sdF_1 (show preM l b e σ 1 = 1 from h1), show preM l b e σ 35 + preM l b e σ 2 = σ 35 + σ 2 from rfl]
  generalize hn : σ 35 + σ 2 = n at h3
  by_cases hz : z = 0
  · rw [if_pos hz]
    by_cases hm : 0 < σ 34 - σ 28
    · skip
      by_cases hv : n < σ 37
      · skip
        have hv2 : n + 1 ≤ σ 37 := by omega
        by_cases ha : n = σ 19
        · skip
          refine ⟨?_, ?_, ?_, ?_, ?_, JR_c hJR (fun j hj => ?_), ?_⟩
          · simp only [J0, JS, JP, JA, sb1, te1, sa1, preM, bI, h1, not_true_eq_false, not_false_eq_true, hm, hv, hv2, ha, up, Int.reduceAdd, Int.reduceSub, Int.reduceMul, Int.reduceNeg, Int.reduceEq, Int.reduceLT, Int.reduceLE, reduceIte, if_true, if_false, eq_self, ite_true, ite_false]; and_intros <;> first | omega | simp
          · simp only [J0, JS, JP, JA, sb1, te1, sa1, preM, bI, h1, not_true_eq_false, not_false_eq_true, hm, hv, hv2, ha, up, Int.reduceAdd, Int.reduceSub, Int.reduceMul, Int.reduceNeg, Int.reduceEq, Int.reduceLT, Int.reduceLE, reduceIte, if_true, if_false, eq_self, ite_true, ite_false]; and_intros <;> first | omega | simp
          · simp only [J0, JS, JP, JA, sb1, te1, sa1, preM, bI, h1, not_true_eq_false, not_false_eq_true, hm, hv, hv2, ha, up, Int.reduceAdd, Int.reduceSub, Int.reduceMul, Int.reduceNeg, Int.reduceEq, Int.reduceLT, Int.reduceLE, reduceIte, if_true, if_false, eq_self, ite_true, ite_false]; and_intros <;> first | omega | simp
          · simp only [J0, JS, JP, JA, sb1, te1, sa1, preM, bI, h1, not_true_eq_false, not_false_eq_true, hm, hv, hv2, ha, up, Int.reduceAdd, Int.reduceSub, Int.reduceMul, Int.reduceNeg, Int.reduceEq, Int.reduceLT, Int.reduceLE, reduceIte, if_true, if_false, eq_self, ite_true, ite_false]; and_intros <;> first | omega | simp
          · simp only [J0, JS, JP, JA, sb1, te1, sa1, preM, bI, h1, not_true_eq_false, not_false_eq_true, hm, hv, hv2, ha, up, Int.reduceAdd, Int.reduceSub, Int.reduceMul, Int.reduceNeg, Int.reduceEq, Int.reduceLT, Int.reduceLE, reduceIte, if_true, if_false, eq_self, ite_true, ite_false]; and_intros <;> first | omega | simp
          · rw [show te1 (sa1 n (preM l b e σ)) = _ from if_pos hm]; simp only [sb1, sa1, preM]; repeat rw [up_n (by omega)]
          · simp only [J0, JS, JP, JA, sb1, te1, sa1, preM, bI, h1, not_true_eq_false, not_false_eq_true, hm, hv, hv2, ha, up, Int.reduceAdd, Int.reduceSub, Int.reduceMul, Int.reduceNeg, Int.reduceEq, Int.reduceLT, Int.reduceLE, reduceIte, if_true, if_false, eq_self, ite_true, ite_false]; omega
        · skip
          refine ⟨?_, ?_, ?_, ?_, ?_, JR_c hJR (fun j hj => ?_), ?_⟩
          · simp only [J0, JS, JP, JA, sb1, te1, sa1, preM, bI, h1, not_true_eq_false, not_false_eq_true, hm, hv, hv2, ha, up, Int.reduceAdd, Int.reduceSub, Int.reduceMul, Int.reduceNeg, Int.reduceEq, Int.reduceLT, Int.reduceLE, reduceIte, if_true, if_false, eq_self, ite_true, ite_false]; and_intros <;> first | omega | simp
          · simp only [J0, JS, JP, JA, sb1, te1, sa1, preM, bI, h1, not_true_eq_false, not_false_eq_true, hm, hv, hv2, ha, up, Int.reduceAdd, Int.reduceSub, Int.reduceMul, Int.reduceNeg, Int.reduceEq, Int.reduceLT, Int.reduceLE, reduceIte, if_true, if_false, eq_self, ite_true, ite_false]; and_intros <;> first | omega | simp
          · simp only [J0, JS, JP, JA, sb1, te1, sa1, preM, bI, h1, not_true_eq_false, not_false_eq_true, hm, hv, hv2, ha, up, Int.reduceAdd, Int.reduceSub, Int.reduceMul, Int.reduceNeg, Int.reduceEq, Int.reduceLT, Int.reduceLE, reduceIte, if_true, if_false, eq_self, ite_true, ite_false]; and_intros <;> first | omega | simp
          · simp only [J0, JS, JP, JA, sb1, te1, sa1, preM, bI, h1, not_true_eq_false, not_false_eq_true, hm, hv, hv2, ha, up, Int.reduceAdd, Int.reduceSub, Int.reduceMul, Int.reduceNeg, Int.reduceEq, Int.reduceLT, Int.reduceLE, reduceIte, if_true, if_false, eq_self, ite_true, ite_false]; and_intros <;> first | omega | simp
          · simp only [J0, JS, JP, JA, sb1, te1, sa1, preM, bI, h1, not_true_eq_false, not_false_eq_true, hm, hv, hv2, ha, up, Int.reduceAdd, Int.reduceSub, Int.reduceMul, Int.reduceNeg, Int.reduceEq, Int.reduceLT, Int.reduceLE, reduceIte, if_true, if_false, eq_self, ite_true, ite_false]; and_intros <;> first | omega | simp
          · rw [show te1 (sa1 n (preM l b e σ)) = _ from if_pos hm]; simp only [sb1, sa1, preM]; repeat rw [up_n (by omega)]
          · simp only [J0, JS, JP, JA, sb1, te1, sa1, preM, bI, h1, not_true_eq_false, not_false_eq_true, hm, hv, hv2, ha, up, Int.reduceAdd, Int.reduceSub, Int.reduceMul, Int.reduceNeg, Int.reduceEq, Int.reduceLT, Int.reduceLE, reduceIte, if_true, if_false, eq_self, ite_true, ite_false]; omega
      · skip
        have hv2 : ¬ (n + 1 ≤ σ 37) := by omega
        by_cases ha : n = σ 19
        · skip
          refine ⟨?_, ?_, ?_, ?_, ?_, JR_c hJR (fun j hj => ?_), ?_⟩
          · simp only [J0, JS, JP, JA, sb1, te1, sa1, preM, bI, h1, not_true_eq_false, not_false_eq_true, hm, hv, hv2, ha, up, Int.reduceAdd, Int.reduceSub, Int.reduceMul, Int.reduceNeg, Int.reduceEq, Int.reduceLT, Int.reduceLE, reduceIte, if_true, if_false, eq_self, ite_true, ite_false]; and_intros <;> first | omega | simp
          · simp only [J0, JS, JP, JA, sb1, te1, sa1, preM, bI, h1, not_true_eq_false, not_false_eq_true, hm, hv, hv2, ha, up, Int.reduceAdd, Int.reduceSub, Int.reduceMul, Int.reduceNeg, Int.reduceEq, Int.reduceLT, Int.reduceLE, reduceIte, if_true, if_false, eq_self, ite_true, ite_false]; and_intros <;> first | omega | simp
          · simp only [J0, JS, JP, JA, sb1, te1, sa1, preM, bI, h1, not_true_eq_false, not_false_eq_true, hm, hv, hv2, ha, up, Int.reduceAdd, Int.reduceSub, Int.reduceMul, Int.reduceNeg, Int.reduceEq, Int.reduceLT, Int.reduceLE, reduceIte, if_true, if_false, eq_self, ite_true, ite_false]; and_intros <;> first | omega | simp
          · simp only [J0, JS, JP, JA, sb1, te1, sa1, preM, bI, h1, not_true_eq_false, not_false_eq_true, hm, hv, hv2, ha, up, Int.reduceAdd, Int.reduceSub, Int.reduceMul, Int.reduceNeg, Int.reduceEq, Int.reduceLT, Int.reduceLE, reduceIte, if_true, if_false, eq_self, ite_true, ite_false]; and_intros <;> first | omega | simp
          · simp only [J0, JS, JP, JA, sb1, te1, sa1, preM, bI, h1, not_true_eq_false, not_false_eq_true, hm, hv, hv2, ha, up, Int.reduceAdd, Int.reduceSub, Int.reduceMul, Int.reduceNeg, Int.reduceEq, Int.reduceLT, Int.reduceLE, reduceIte, if_true, if_false, eq_self, ite_true, ite_false]; and_intros <;> first | omega | simp
          · rw [show te1 (sa1 n (preM l b e σ)) = _ from if_pos hm]; simp only [sb1, sa1, preM]; repeat rw [up_n (by omega)]
          · simp only [J0, JS, JP, JA, sb1, te1, sa1, preM, bI, h1, not_true_eq_false, not_false_eq_true, hm, hv, hv2, ha, up, Int.reduceAdd, Int.reduceSub, Int.reduceMul, Int.reduceNeg, Int.reduceEq, Int.reduceLT, Int.reduceLE, reduceIte, if_true, if_false, eq_self, ite_true, ite_false]; omega
        · skip
          refine ⟨?_, ?_, ?_, ?_, ?_, JR_c hJR (fun j hj => ?_), ?_⟩
          · simp only [J0, JS, JP, JA, sb1, te1, sa1, preM, bI, h1, not_true_eq_false, not_false_eq_true, hm, hv, hv2, ha, up, Int.reduceAdd, Int.reduceSub, Int.reduceMul, Int.reduceNeg, Int.reduceEq, Int.reduceLT, Int.reduceLE, reduceIte, if_true, if_false, eq_self, ite_true, ite_false]; and_intros <;> first | omega | simp
          · simp only [J0, JS, JP, JA, sb1, te1, sa1, preM, bI, h1, not_true_eq_false, not_false_eq_true, hm, hv, hv2, ha, up, Int.reduceAdd, Int.reduceSub, Int.reduceMul, Int.reduceNeg, Int.reduceEq, Int.reduceLT, Int.reduceLE, reduceIte, if_true, if_false, eq_self, ite_true, ite_false]; and_intros <;> first | omega | simp
          · simp only [J0, JS, JP, JA, sb1, te1, sa1, preM, bI, h1, not_true_eq_false, not_false_eq_true, hm, hv, hv2, ha, up, Int.reduceAdd, Int.reduceSub, Int.reduceMul, Int.reduceNeg, Int.reduceEq, Int.reduceLT, Int.reduceLE, reduceIte, if_true, if_false, eq_self, ite_true, ite_false]; and_intros <;> first | omega | simp
          · simp only [J0, JS, JP, JA, sb1, te1, sa1, preM, bI, h1, not_true_eq_false, not_false_eq_true, hm, hv, hv2, ha, up, Int.reduceAdd, Int.reduceSub, Int.reduceMul, Int.reduceNeg, Int.reduceEq, Int.reduceLT, Int.reduceLE, reduceIte, if_true, if_false, eq_self, ite_true, ite_false]; and_intros <;> first | omega | simp
          · simp only [J0, JS, JP, JA, sb1, te1, sa1, preM, bI, h1, not_true_eq_false, not_false_eq_true, hm, hv, hv2, ha, up, Int.reduceAdd, Int.reduceSub, Int.reduceMul, Int.reduceNeg, Int.reduceEq, Int.reduceLT, Int.reduceLE, reduceIte, if_true, if_false, eq_self, ite_true, ite_false]; and_intros <;> first | omega | simp
          · rw [show te1 (sa1 n (preM l b e σ)) = _ from if_pos hm]; simp only [sb1, sa1, preM]; repeat rw [up_n (by omega)]
          · simp only [J0, JS, JP, JA, sb1, te1, sa1, preM, bI, h1, not_true_eq_false, not_false_eq_true, hm, hv, hv2, ha, up, Int.reduceAdd, Int.reduceSub, Int.reduceMul, Int.reduceNeg, Int.reduceEq, Int.reduceLT, Int.reduceLE, reduceIte, if_true, if_false, eq_self, ite_true, ite_false]; omega
    · skip
      by_cases hv : n < σ 37
      · skip
        have hv2 : n + 1 ≤ σ 37 := by omega
        by_cases ha : n = σ 19
        · skip
          refine ⟨?_, ?_, ?_, ?_, ?_, JR_c hJR (fun j hj => ?_), ?_⟩
          · simp only [J0, JS, JP, JA, sb1, te1, sa1, preM, bI, h1, not_true_eq_false, not_false_eq_true, hm, hv, hv2, ha, up, Int.reduceAdd, Int.reduceSub, Int.reduceMul, Int.reduceNeg, Int.reduceEq, Int.reduceLT, Int.reduceLE, reduceIte, if_true, if_false, eq_self, ite_true, ite_false]; and_intros <;> first | omega | simp
          · simp only [J0, JS, JP, JA, sb1, te1, sa1, preM, bI, h1, not_true_eq_false, not_false_eq_true, hm, hv, hv2, ha, up, Int.reduceAdd, Int.reduceSub, Int.reduceMul, Int.reduceNeg, Int.reduceEq, Int.reduceLT, Int.reduceLE, reduceIte, if_true, if_false, eq_self, ite_true, ite_false]; and_intros <;> first | omega | simp
          · simp only [J0, JS, JP, JA, sb1, te1, sa1, preM, bI, h1, not_true_eq_false, not_false_eq_true, hm, hv, hv2, ha, up, Int.reduceAdd, Int.reduceSub, Int.reduceMul, Int.reduceNeg, Int.reduceEq, Int.reduceLT, Int.reduceLE, reduceIte, if_true, if_false, eq_self, ite_true, ite_false]; and_intros <;> first | omega | simp
          · simp only [J0, JS, JP, JA, sb1, te1, sa1, preM, bI, h1, not_true_eq_false, not_false_eq_true, hm, hv, hv2, ha, up, Int.reduceAdd, Int.reduceSub, Int.reduceMul, Int.reduceNeg, Int.reduceEq, Int.reduceLT, Int.reduceLE, reduceIte, if_true, if_false, eq_self, ite_true, ite_false]; and_intros <;> first | omega | simp
          · simp only [J0, JS, JP, JA, sb1, te1, sa1, preM, bI, h1, not_true_eq_false, not_false_eq_true, hm, hv, hv2, ha, up, Int.reduceAdd, Int.reduceSub, Int.reduceMul, Int.reduceNeg, Int.reduceEq, Int.reduceLT, Int.reduceLE, reduceIte, if_true, if_false, eq_self, ite_true, ite_false]; and_intros <;> first | omega | simp
          · rw [show te1 (sa1 n (preM l b e σ)) = _ from if_neg hm]; simp only [sb1, sa1, preM]; repeat rw [up_n (by omega)]
          · simp only [J0, JS, JP, JA, sb1, te1, sa1, preM, bI, h1, not_true_eq_false, not_false_eq_true, hm, hv, hv2, ha, up, Int.reduceAdd, Int.reduceSub, Int.reduceMul, Int.reduceNeg, Int.reduceEq, Int.reduceLT, Int.reduceLE, reduceIte, if_true, if_false, eq_self, ite_true, ite_false]; omega
        · skip
          refine ⟨?_, ?_, ?_, ?_, ?_, JR_c hJR (fun j hj => ?_), ?_⟩
          · simp only [J0, JS, JP, JA, sb1, te1, sa1, preM, bI, h1, not_true_eq_false, not_false_eq_true, hm, hv, hv2, ha, up, Int.reduceAdd, Int.reduceSub, Int.reduceMul, Int.reduceNeg, Int.reduceEq, Int.reduceLT, Int.reduceLE, reduceIte, if_true, if_false, eq_self, ite_true, ite_false]; and_intros <;> first | omega | simp
          · simp only [J0, JS, JP, JA, sb1, te1, sa1, preM, bI, h1, not_true_eq_false, not_false_eq_true, hm, hv, hv2, ha, up, Int.reduceAdd, Int.reduceSub, Int.reduceMul, Int.reduceNeg, Int.reduceEq, Int.reduceLT, Int.reduceLE, reduceIte, if_true, if_false, eq_self, ite_true, ite_false]; and_intros <;> first | omega | simp
          · simp only [J0, JS, JP, JA, sb1, te1, sa1, preM, bI, h1, not_true_eq_false, not_false_eq_true, hm, hv, hv2, ha, up, Int.reduceAdd, Int.reduceSub, Int.reduceMul, Int.reduceNeg, Int.reduceEq, Int.reduceLT, Int.reduceLE, reduceIte, if_true, if_false, eq_self, ite_true, ite_false]; and_intros <;> first | omega | simp
          · simp only [J0, JS, JP, JA, sb1, te1, sa1, preM, bI, h1, not_true_eq_false, not_false_eq_true, hm, hv, hv2, ha, up, Int.reduceAdd, Int.reduceSub, Int.reduceMul, Int.reduceNeg, Int.reduceEq, Int.reduceLT, Int.reduceLE, reduceIte, if_true, if_false, eq_self, ite_true, ite_false]; and_intros <;> first | omega | simp
          · simp only [J0, JS, JP, JA, sb1, te1, sa1, preM, bI, h1, not_true_eq_false, not_false_eq_true, hm, hv, hv2, ha, up, Int.reduceAdd, Int.reduceSub, Int.reduceMul, Int.reduceNeg, Int.reduceEq, Int.reduceLT, Int.reduceLE, reduceIte, if_true, if_false, eq_self, ite_true, ite_false]; and_intros <;> first | omega | simp
          · rw [show te1 (sa1 n (preM l b e σ)) = _ from if_neg hm]; simp only [sb1, sa1, preM]; repeat rw [up_n (by omega)]
          · simp only [J0, JS, JP, JA, sb1, te1, sa1, preM, bI, h1, not_true_eq_false, not_false_eq_true, hm, hv, hv2, ha, up, Int.reduceAdd, Int.reduceSub, Int.reduceMul, Int.reduceNeg, Int.reduceEq, Int.reduceLT, Int.reduceLE, reduceIte, if_true, if_false, eq_self, ite_true, ite_false]; omega
      · skip
        have hv2 : ¬ (n + 1 ≤ σ 37) := by omega
        by_cases ha : n = σ 19
        · skip
          refine ⟨?_, ?_, ?_, ?_, ?_, JR_c hJR (fun j hj => ?_), ?_⟩
          · simp only [J0, JS, JP, JA, sb1, te1, sa1, preM, bI, h1, not_true_eq_false, not_false_eq_true, hm, hv, hv2, ha, up, Int.reduceAdd, Int.reduceSub, Int.reduceMul, Int.reduceNeg, Int.reduceEq, Int.reduceLT, Int.reduceLE, reduceIte, if_true, if_false, eq_self, ite_true, ite_false]; and_intros <;> first | omega | simp
          · simp only [J0, JS, JP, JA, sb1, te1, sa1, preM, bI, h1, not_true_eq_false, not_false_eq_true, hm, hv, hv2, ha, up, Int.reduceAdd, Int.reduceSub, Int.reduceMul, Int.reduceNeg, Int.reduceEq, Int.reduceLT, Int.reduceLE, reduceIte, if_true, if_false, eq_self, ite_true, ite_false]; and_intros <;> first | omega | simp
          · simp only [J0, JS, JP, JA, sb1, te1, sa1, preM, bI, h1, not_true_eq_false, not_false_eq_true, hm, hv, hv2, ha, up, Int.reduceAdd, Int.reduceSub, Int.reduceMul, Int.reduceNeg, Int.reduceEq, Int.reduceLT, Int.reduceLE, reduceIte, if_true, if_false, eq_self, ite_true, ite_false]; and_intros <;> first | omega | simp
          · simp only [J0, JS, JP, JA, sb1, te1, sa1, preM, bI, h1, not_true_eq_false, not_false_eq_true, hm, hv, hv2, ha, up, Int.reduceAdd, Int.reduceSub, Int.reduceMul, Int.reduceNeg, Int.reduceEq, Int.reduceLT, Int.reduceLE, reduceIte, if_true, if_false, eq_self, ite_true, ite_false]; and_intros <;> first | omega | simp
          · simp only [J0, JS, JP, JA, sb1, te1, sa1, preM, bI, h1, not_true_eq_false, not_false_eq_true, hm, hv, hv2, ha, up, Int.reduceAdd, Int.reduceSub, Int.reduceMul, Int.reduceNeg, Int.reduceEq, Int.reduceLT, Int.reduceLE, reduceIte, if_true, if_false, eq_self, ite_true, ite_false]; and_intros <;> first | omega | simp
          · rw [show te1 (sa1 n (preM l b e σ)) = _ from if_neg hm]; simp only [sb1, sa1, preM]; repeat rw [up_n (by omega)]
          · simp only [J0, JS, JP, JA, sb1, te1, sa1, preM, bI, h1, not_true_eq_false, not_false_eq_true, hm, hv, hv2, ha, up, Int.reduceAdd, Int.reduceSub, Int.reduceMul, Int.reduceNeg, Int.reduceEq, Int.reduceLT, Int.reduceLE, reduceIte, if_true, if_false, eq_self, ite_true, ite_false]; omega
        · skip
          refine ⟨?_, ?_, ?_, ?_, ?_, JR_c hJR (fun j hj => ?_), ?_⟩
          · simp only [J0, JS, JP, JA, sb1, te1, sa1, preM, bI, h1, not_true_eq_false, not_false_eq_true, hm, hv, hv2, ha, up, Int.reduceAdd, Int.reduceSub, Int.reduceMul, Int.reduceNeg, Int.reduceEq, Int.reduceLT, Int.reduceLE, reduceIte, if_true, if_false, eq_self, ite_true, ite_false]; and_intros <;> first | omega | simp
          · simp only [J0, JS, JP, JA, sb1, te1, sa1, preM, bI, h1, not_true_eq_false, not_false_eq_true, hm, hv, hv2, ha, up, Int.reduceAdd, Int.reduceSub, Int.reduceMul, Int.reduceNeg, Int.reduceEq, Int.reduceLT, Int.reduceLE, reduceIte, if_true, if_false, eq_self, ite_true, ite_false]; and_intros <;> first | omega | simp
          · simp only [J0, JS, JP, JA, sb1, te1, sa1, preM, bI, h1, not_true_eq_false, not_false_eq_true, hm, hv, hv2, ha, up, Int.reduceAdd, Int.reduceSub, Int.reduceMul, Int.reduceNeg, Int.reduceEq, Int.reduceLT, Int.reduceLE, reduceIte, if_true, if_false, eq_self, ite_true, ite_false]; and_intros <;> first | omega | simp
          · simp only [J0, JS, JP, JA, sb1, te1, sa1, preM, bI, h1, not_true_eq_false, not_false_eq_true, hm, hv, hv2, ha, up, Int.reduceAdd, Int.reduceSub, Int.reduceMul, Int.reduceNeg, Int.reduceEq, Int.reduceLT, Int.reduceLE, reduceIte, if_true, if_false, eq_self, ite_true, ite_false]; and_intros <;> first | omega | simp
          · simp only [J0, JS, JP, JA, sb1, te1, sa1, preM, bI, h1, not_true_eq_false, not_false_eq_true, hm, hv, hv2, ha, up, Int.reduceAdd, Int.reduceSub, Int.reduceMul, Int.reduceNeg, Int.reduceEq, Int.reduceLT, Int.reduceLE, reduceIte, if_true, if_false, eq_self, ite_true, ite_false]; and_intros <;> first | omega | simp
          · rw [show te1 (sa1 n (preM l b e σ)) = _ from if_neg hm]; simp only [sb1, sa1, preM]; repeat rw [up_n (by omega)]
          · simp only [J0, JS, JP, JA, sb1, te1, sa1, preM, bI, h1, not_true_eq_false, not_false_eq_true, hm, hv, hv2, ha, up, Int.reduceAdd, Int.reduceSub, Int.reduceMul, Int.reduceNeg, Int.reduceEq, Int.reduceLT, Int.reduceLE, reduceIte, if_true, if_false, eq_self, ite_true, ite_false]; omega
  · rw [if_neg hz]
    by_cases hv : n < σ 37
    · skip
      have hv2 : n + 1 ≤ σ 37 := by omega
      refine ⟨?_, ?_, ?_, ?_, ?_, JR_c hJR (fun j hj => ?_), ?_⟩
      · simp only [J0, JS, JP, JA, sa1, preM, bI, h1, hv, hv2, up, Int.reduceAdd, Int.reduceSub, Int.reduceMul, Int.reduceNeg, Int.reduceEq, Int.reduceLT, Int.reduceLE, reduceIte, if_true, if_false, eq_self, ite_true, ite_false]; and_intros <;> first | omega | simp
      · simp only [J0, JS, JP, JA, sa1, preM, bI, h1, hv, hv2, up, Int.reduceAdd, Int.reduceSub, Int.reduceMul, Int.reduceNeg, Int.reduceEq, Int.reduceLT, Int.reduceLE, reduceIte, if_true, if_false, eq_self, ite_true, ite_false]; and_intros <;> first | omega | simp
      · simp only [J0, JS, JP, JA, sa1, preM, bI, h1, hv, hv2, up, Int.reduceAdd, Int.reduceSub, Int.reduceMul, Int.reduceNeg, Int.reduceEq, Int.reduceLT, Int.reduceLE, reduceIte, if_true, if_false, eq_self, ite_true, ite_false]; and_intros <;> first | omega | simp
      · simp only [J0, JS, JP, JA, sa1, preM, bI, h1, hv, hv2, up, Int.reduceAdd, Int.reduceSub, Int.reduceMul, Int.reduceNeg, Int.reduceEq, Int.reduceLT, Int.reduceLE, reduceIte, if_true, if_false, eq_self, ite_true, ite_false]; and_intros <;> first | omega | simp
      · simp only [J0, JS, JP, JA, sa1, preM, bI, h1, hv, hv2, up, Int.reduceAdd, Int.reduceSub, Int.reduceMul, Int.reduceNeg, Int.reduceEq, Int.reduceLT, Int.reduceLE, reduceIte, if_true, if_false, eq_self, ite_true, ite_false]; and_intros <;> first | omega | simp
      · simp only [sa1, preM]; repeat rw [up_n (by omega)]
      · simp only [J0, JS, JP, JA, sa1, preM, bI, h1, hv, hv2, up, Int.reduceAdd, Int.reduceSub, Int.reduceMul, Int.reduceNeg, Int.reduceEq, Int.reduceLT, Int.reduceLE, reduceIte, if_true, if_false, eq_self, ite_true, ite_false]; omega
    · skip
      have hv2 : ¬ (n + 1 ≤ σ 37) := by omega
      refine ⟨?_, ?_, ?_, ?_, ?_, JR_c hJR (fun j hj => ?_), ?_⟩
      · simp only [J0, JS, JP, JA, sa1, preM, bI, h1, hv, hv2, up, Int.reduceAdd, Int.reduceSub, Int.reduceMul, Int.reduceNeg, Int.reduceEq, Int.reduceLT, Int.reduceLE, reduceIte, if_true, if_false, eq_self, ite_true, ite_false]; and_intros <;> first | omega | simp
      · simp only [J0, JS, JP, JA, sa1, preM, bI, h1, hv, hv2, up, Int.reduceAdd, Int.reduceSub, Int.reduceMul, Int.reduceNeg, Int.reduceEq, Int.reduceLT, Int.reduceLE, reduceIte, if_true, if_false, eq_self, ite_true, ite_false]; and_intros <;> first | omega | simp
      · simp only [J0, JS, JP, JA, sa1, preM, bI, h1, hv, hv2, up, Int.reduceAdd, Int.reduceSub, Int.reduceMul, Int.reduceNeg, Int.reduceEq, Int.reduceLT, Int.reduceLE, reduceIte, if_true, if_false, eq_self, ite_true, ite_false]; and_intros <;> first | omega | simp
      · simp only [J0, JS, JP, JA, sa1, preM, bI, h1, hv, hv2, up, Int.reduceAdd, Int.reduceSub, Int.reduceMul, Int.reduceNeg, Int.reduceEq, Int.reduceLT, Int.reduceLE, reduceIte, if_true, if_false, eq_self, ite_true, ite_false]; and_intros <;> first | omega | simp
      · simp only [J0, JS, JP, JA, sa1, preM, bI, h1, hv, hv2, up, Int.reduceAdd, Int.reduceSub, Int.reduceMul, Int.reduceNeg, Int.reduceEq, Int.reduceLT, Int.reduceLE, reduceIte, if_true, if_false, eq_self, ite_true, ite_false]; and_intros <;> first | omega | simp
      · simp only [sa1, preM]; repeat rw [up_n (by omega)]
      · simp only [J0, JS, JP, JA, sa1, preM, bI, h1, hv, hv2, up, Int.reduceAdd, Int.reduceSub, Int.reduceMul, Int.reduceNeg, Int.reduceEq, Int.reduceLT, Int.reduceLE, reduceIte, if_true, if_false, eq_self, ite_true, ite_false]; omega
set_option maxHeartbeats 4000000 in
theorem J_t0 {σ : Int → Int} {z l b e : Int} (h : J σ) (h1 : σ 1 = 0) (hl : 0 ≤ l ∧ l ≤ 1) (hb : 0 ≤ b ∧ b ≤ 32) (he : 0 ≤ e ∧ e ≤ 15) : J (stF 0 z (preM l b e σ)) := by
  obtain ⟨hJ0, hJS, hJU, hJP, hJA, hJR, hJ3⟩ := h
  simp only [J0, JS, JA, Int.reduceAdd] at hJ0 hJS hJU hJA
  rw [JP, if_pos h1] at hJP
  by_cases hz : z = 0
  · subst hz
    rw [stF_0]
    by_cases hm : 0 < σ 23 - σ 39
    · skip
      have e36 : (te0 (ta 0 (preM l b e σ))) 36 = σ 20 + σ 21 := by rw [show (te0 (ta 0 (preM l b e σ))) = _ from if_pos hm]; rfl
      have e37 : (te0 (ta 0 (preM l b e σ))) 37 = σ 37 := by rw [show (te0 (ta 0 (preM l b e σ))) = _ from if_pos hm]; rfl
      have e22 : (te0 (ta 0 (preM l b e σ))) 22 = σ 22 := by rw [show (te0 (ta 0 (preM l b e σ))) = _ from if_pos hm]; rfl
      have hk : tk0 (te0 (ta 0 (preM l b e σ))) ≤ σ 22 ∧ tk0 (te0 (ta 0 (preM l b e σ))) ≤ σ 20 + σ 21 - σ 37 := by unfold tk0; rw [e36, e37, e22]; split <;> exact ⟨by omega, by omega⟩
      generalize tk0 (te0 (ta 0 (preM l b e σ))) = k at hk ⊢
      by_cases hk0 : 0 < k
      · rw [if_pos hk0]
        refine ⟨?_, ?_, ?_, ?_, ?_, JR_c hJR (fun j hj => ?_), ?_⟩
        · simp only [J0, JS, JP, JA, te0, tb0, ta, preM, h1, hm, not_true_eq_false, not_false_eq_true, up, up, Int.reduceAdd, Int.reduceSub, Int.reduceMul, Int.reduceNeg, Int.reduceEq, Int.reduceLT, Int.reduceLE, reduceIte, if_true, if_false, eq_self, ite_true, ite_false]; and_intros <;> first | omega | simp
        · simp only [J0, JS, JP, JA, te0, tb0, ta, preM, h1, hm, not_true_eq_false, not_false_eq_true, up, up, Int.reduceAdd, Int.reduceSub, Int.reduceMul, Int.reduceNeg, Int.reduceEq, Int.reduceLT, Int.reduceLE, reduceIte, if_true, if_false, eq_self, ite_true, ite_false]; and_intros <;> first | omega | simp
        · simp only [J0, JS, JP, JA, te0, tb0, ta, preM, h1, hm, not_true_eq_false, not_false_eq_true, up, up, Int.reduceAdd, Int.reduceSub, Int.reduceMul, Int.reduceNeg, Int.reduceEq, Int.reduceLT, Int.reduceLE, reduceIte, if_true, if_false, eq_self, ite_true, ite_false]; and_intros <;> first | omega | simp
        · simp only [J0, JS, JP, JA, te0, tb0, ta, preM, h1, hm, not_true_eq_false, not_false_eq_true, up, up, Int.reduceAdd, Int.reduceSub, Int.reduceMul, Int.reduceNeg, Int.reduceEq, Int.reduceLT, Int.reduceLE, reduceIte, if_true, if_false, eq_self, ite_true, ite_false]; and_intros <;> first | omega | simp
        · simp only [J0, JS, JP, JA, te0, tb0, ta, preM, h1, hm, not_true_eq_false, not_false_eq_true, up, up, Int.reduceAdd, Int.reduceSub, Int.reduceMul, Int.reduceNeg, Int.reduceEq, Int.reduceLT, Int.reduceLE, reduceIte, if_true, if_false, eq_self, ite_true, ite_false]; and_intros <;> first | omega | simp
        · rw [show (te0 (ta 0 (preM l b e σ))) = _ from if_pos hm]; simp only [tb0, ta, preM]; repeat rw [up_n (by omega)]
        · simp only [J0, JS, JP, JA, te0, tb0, ta, preM, h1, hm, not_true_eq_false, not_false_eq_true, up, up, Int.reduceAdd, Int.reduceSub, Int.reduceMul, Int.reduceNeg, Int.reduceEq, Int.reduceLT, Int.reduceLE, reduceIte, if_true, if_false, eq_self, ite_true, ite_false]; omega
      · rw [if_neg hk0]
        refine ⟨?_, ?_, ?_, ?_, ?_, JR_c hJR (fun j hj => ?_), ?_⟩
        · simp only [J0, JS, JP, JA, te0, tb0, ta, preM, h1, hm, not_true_eq_false, not_false_eq_true, up, up, Int.reduceAdd, Int.reduceSub, Int.reduceMul, Int.reduceNeg, Int.reduceEq, Int.reduceLT, Int.reduceLE, reduceIte, if_true, if_false, eq_self, ite_true, ite_false]; and_intros <;> first | omega | simp
        · simp only [J0, JS, JP, JA, te0, tb0, ta, preM, h1, hm, not_true_eq_false, not_false_eq_true, up, up, Int.reduceAdd, Int.reduceSub, Int.reduceMul, Int.reduceNeg, Int.reduceEq, Int.reduceLT, Int.reduceLE, reduceIte, if_true, if_false, eq_self, ite_true, ite_false]; and_intros <;> first | omega | simp
        · simp only [J0, JS, JP, JA, te0, tb0, ta, preM, h1, hm, not_true_eq_false, not_false_eq_true, up, up, Int.reduceAdd, Int.reduceSub, Int.reduceMul, Int.reduceNeg, Int.reduceEq, Int.reduceLT, Int.reduceLE, reduceIte, if_true, if_false, eq_self, ite_true, ite_false]; and_intros <;> first | omega | simp
        · simp only [J0, JS, JP, JA, te0, tb0, ta, preM, h1, hm, not_true_eq_false, not_false_eq_true, up, up, Int.reduceAdd, Int.reduceSub, Int.reduceMul, Int.reduceNeg, Int.reduceEq, Int.reduceLT, Int.reduceLE, reduceIte, if_true, if_false, eq_self, ite_true, ite_false]; and_intros <;> first | omega | simp
        · simp only [J0, JS, JP, JA, te0, tb0, ta, preM, h1, hm, not_true_eq_false, not_false_eq_true, up, up, Int.reduceAdd, Int.reduceSub, Int.reduceMul, Int.reduceNeg, Int.reduceEq, Int.reduceLT, Int.reduceLE, reduceIte, if_true, if_false, eq_self, ite_true, ite_false]; and_intros <;> first | omega | simp
        · rw [show (te0 (ta 0 (preM l b e σ))) = _ from if_pos hm]; simp only [tb0, ta, preM]; repeat rw [up_n (by omega)]
        · simp only [J0, JS, JP, JA, te0, tb0, ta, preM, h1, hm, not_true_eq_false, not_false_eq_true, up, up, Int.reduceAdd, Int.reduceSub, Int.reduceMul, Int.reduceNeg, Int.reduceEq, Int.reduceLT, Int.reduceLE, reduceIte, if_true, if_false, eq_self, ite_true, ite_false]; omega

    · skip
      have e36 : (te0 (ta 0 (preM l b e σ))) 36 = σ 20 + σ 21 := by rw [show (te0 (ta 0 (preM l b e σ))) = _ from if_neg hm]; rfl
      have e37 : (te0 (ta 0 (preM l b e σ))) 37 = σ 37 := by rw [show (te0 (ta 0 (preM l b e σ))) = _ from if_neg hm]; rfl
      have e22 : (te0 (ta 0 (preM l b e σ))) 22 = σ 22 := by rw [show (te0 (ta 0 (preM l b e σ))) = _ from if_neg hm]; rfl
      have hk : tk0 (te0 (ta 0 (preM l b e σ))) ≤ σ 22 ∧ tk0 (te0 (ta 0 (preM l b e σ))) ≤ σ 20 + σ 21 - σ 37 := by unfold tk0; rw [e36, e37, e22]; split <;> exact ⟨by omega, by omega⟩
      generalize tk0 (te0 (ta 0 (preM l b e σ))) = k at hk ⊢
      by_cases hk0 : 0 < k
      · rw [if_pos hk0]
        refine ⟨?_, ?_, ?_, ?_, ?_, JR_c hJR (fun j hj => ?_), ?_⟩
        · simp only [J0, JS, JP, JA, te0, tb0, ta, preM, h1, hm, not_true_eq_false, not_false_eq_true, up, up, Int.reduceAdd, Int.reduceSub, Int.reduceMul, Int.reduceNeg, Int.reduceEq, Int.reduceLT, Int.reduceLE, reduceIte, if_true, if_false, eq_self, ite_true, ite_false]; and_intros <;> first | omega | simp
        · simp only [J0, JS, JP, JA, te0, tb0, ta, preM, h1, hm, not_true_eq_false, not_false_eq_true, up, up, Int.reduceAdd, Int.reduceSub, Int.reduceMul, Int.reduceNeg, Int.reduceEq, Int.reduceLT, Int.reduceLE, reduceIte, if_true, if_false, eq_self, ite_true, ite_false]; and_intros <;> first | omega | simp
        · simp only [J0, JS, JP, JA, te0, tb0, ta, preM, h1, hm, not_true_eq_false, not_false_eq_true, up, up, Int.reduceAdd, Int.reduceSub, Int.reduceMul, Int.reduceNeg, Int.reduceEq, Int.reduceLT, Int.reduceLE, reduceIte, if_true, if_false, eq_self, ite_true, ite_false]; and_intros <;> first | omega | simp
        · simp only [J0, JS, JP, JA, te0, tb0, ta, preM, h1, hm, not_true_eq_false, not_false_eq_true, up, up, Int.reduceAdd, Int.reduceSub, Int.reduceMul, Int.reduceNeg, Int.reduceEq, Int.reduceLT, Int.reduceLE, reduceIte, if_true, if_false, eq_self, ite_true, ite_false]; and_intros <;> first | omega | simp
        · simp only [J0, JS, JP, JA, te0, tb0, ta, preM, h1, hm, not_true_eq_false, not_false_eq_true, up, up, Int.reduceAdd, Int.reduceSub, Int.reduceMul, Int.reduceNeg, Int.reduceEq, Int.reduceLT, Int.reduceLE, reduceIte, if_true, if_false, eq_self, ite_true, ite_false]; and_intros <;> first | omega | simp
        · rw [show (te0 (ta 0 (preM l b e σ))) = _ from if_neg hm]; simp only [tb0, ta, preM]; repeat rw [up_n (by omega)]
        · simp only [J0, JS, JP, JA, te0, tb0, ta, preM, h1, hm, not_true_eq_false, not_false_eq_true, up, up, Int.reduceAdd, Int.reduceSub, Int.reduceMul, Int.reduceNeg, Int.reduceEq, Int.reduceLT, Int.reduceLE, reduceIte, if_true, if_false, eq_self, ite_true, ite_false]; omega
      · rw [if_neg hk0]
        refine ⟨?_, ?_, ?_, ?_, ?_, JR_c hJR (fun j hj => ?_), ?_⟩
        · simp only [J0, JS, JP, JA, te0, tb0, ta, preM, h1, hm, not_true_eq_false, not_false_eq_true, up, up, Int.reduceAdd, Int.reduceSub, Int.reduceMul, Int.reduceNeg, Int.reduceEq, Int.reduceLT, Int.reduceLE, reduceIte, if_true, if_false, eq_self, ite_true, ite_false]; and_intros <;> first | omega | simp
        · simp only [J0, JS, JP, JA, te0, tb0, ta, preM, h1, hm, not_true_eq_false, not_false_eq_true, up, up, Int.reduceAdd, Int.reduceSub, Int.reduceMul, Int.reduceNeg, Int.reduceEq, Int.reduceLT, Int.reduceLE, reduceIte, if_true, if_false, eq_self, ite_true, ite_false]; and_intros <;> first | omega | simp
        · simp only [J0, JS, JP, JA, te0, tb0, ta, preM, h1, hm, not_true_eq_false, not_false_eq_true, up, up, Int.reduceAdd, Int.reduceSub, Int.reduceMul, Int.reduceNeg, Int.reduceEq, Int.reduceLT, Int.reduceLE, reduceIte, if_true, if_false, eq_self, ite_true, ite_false]; and_intros <;> first | omega | simp
        · simp only [J0, JS, JP, JA, te0, tb0, ta, preM, h1, hm, not_true_eq_false, not_false_eq_true, up, up, Int.reduceAdd, Int.reduceSub, Int.reduceMul, Int.reduceNeg, Int.reduceEq, Int.reduceLT, Int.reduceLE, reduceIte, if_true, if_false, eq_self, ite_true, ite_false]; and_intros <;> first | omega | simp
        · simp only [J0, JS, JP, JA, te0, tb0, ta, preM, h1, hm, not_true_eq_false, not_false_eq_true, up, up, Int.reduceAdd, Int.reduceSub, Int.reduceMul, Int.reduceNeg, Int.reduceEq, Int.reduceLT, Int.reduceLE, reduceIte, if_true, if_false, eq_self, ite_true, ite_false]; and_intros <;> first | omega | simp
        · rw [show (te0 (ta 0 (preM l b e σ))) = _ from if_neg hm]; simp only [tb0, ta, preM]; repeat rw [up_n (by omega)]
        · simp only [J0, JS, JP, JA, te0, tb0, ta, preM, h1, hm, not_true_eq_false, not_false_eq_true, up, up, Int.reduceAdd, Int.reduceSub, Int.reduceMul, Int.reduceNeg, Int.reduceEq, Int.reduceLT, Int.reduceLE, reduceIte, if_true, if_false, eq_self, ite_true, ite_false]; omega
  · rw [stF_0l hz]
    refine ⟨?_, ?_, ?_, ?_, ?_, JR_c hJR (fun j hj => ?_), ?_⟩
    · simp only [J0, JS, JP, JA, ta, preM, h1, up, up, Int.reduceAdd, Int.reduceSub, Int.reduceMul, Int.reduceNeg, Int.reduceEq, Int.reduceLT, Int.reduceLE, reduceIte, if_true, if_false, eq_self, ite_true, ite_false]; and_intros <;> first | omega | simp
    · simp only [J0, JS, JP, JA, ta, preM, h1, up, up, Int.reduceAdd, Int.reduceSub, Int.reduceMul, Int.reduceNeg, Int.reduceEq, Int.reduceLT, Int.reduceLE, reduceIte, if_true, if_false, eq_self, ite_true, ite_false]; and_intros <;> first | omega | simp
    · simp only [J0, JS, JP, JA, ta, preM, h1, up, up, Int.reduceAdd, Int.reduceSub, Int.reduceMul, Int.reduceNeg, Int.reduceEq, Int.reduceLT, Int.reduceLE, reduceIte, if_true, if_false, eq_self, ite_true, ite_false]; and_intros <;> first | omega | simp
    · simp only [J0, JS, JP, JA, ta, preM, h1, up, up, Int.reduceAdd, Int.reduceSub, Int.reduceMul, Int.reduceNeg, Int.reduceEq, Int.reduceLT, Int.reduceLE, reduceIte, if_true, if_false, eq_self, ite_true, ite_false]; and_intros <;> first | omega | simp
    · simp only [J0, JS, JP, JA, ta, preM, h1, up, up, Int.reduceAdd, Int.reduceSub, Int.reduceMul, Int.reduceNeg, Int.reduceEq, Int.reduceLT, Int.reduceLE, reduceIte, if_true, if_false, eq_self, ite_true, ite_false]; and_intros <;> first | omega | simp
    · simp only [ta, preM]; repeat rw [up_n (by omega)]
    · simp only [J0, JS, JP, JA, ta, preM, h1, up, up, Int.reduceAdd, Int.reduceSub, Int.reduceMul, Int.reduceNeg, Int.reduceEq, Int.reduceLT, Int.reduceLE, reduceIte, if_true, if_false, eq_self, ite_true, ite_false]; omega
set_option maxHeartbeats 4000000 in
theorem J_t1 {σ : Int → Int} {z l b e : Int} (h : J σ) (h1 : σ 1 = 1) (hl : 0 ≤ l ∧ l ≤ 1) (hb : 0 ≤ b ∧ b ≤ 32) (he : 0 ≤ e ∧ e ≤ 15) : J (stF 1 z (preM l b e σ)) := by
  obtain ⟨hJ0, hJS, hJU, hJP, hJA, hJR, hJ3⟩ := h
  simp only [J0, JS, JA, Int.reduceAdd] at hJ0 hJS hJU hJA
  rw [JP, if_neg (by omega)] at hJP
  by_cases hz : z = 0
  · subst hz
    rw [stF_1]
    by_cases hm : 0 < σ 34 - σ 28
    · skip
      have e25 : (te1 (ta 0 (preM l b e σ))) 25 = σ 31 + σ 32 := by rw [show (te1 (ta 0 (preM l b e σ))) = _ from if_pos hm]; rfl
      have e26 : (te1 (ta 0 (preM l b e σ))) 26 = σ 26 := by rw [show (te1 (ta 0 (preM l b e σ))) = _ from if_pos hm]; rfl
      have e33 : (te1 (ta 0 (preM l b e σ))) 33 = σ 33 := by rw [show (te1 (ta 0 (preM l b e σ))) = _ from if_pos hm]; rfl
      have hk : tk1 (te1 (ta 0 (preM l b e σ))) ≤ σ 33 ∧ tk1 (te1 (ta 0 (preM l b e σ))) ≤ σ 31 + σ 32 - σ 26 := by unfold tk1; rw [e25, e26, e33]; split <;> exact ⟨by omega, by omega⟩
      generalize tk1 (te1 (ta 0 (preM l b e σ))) = k at hk ⊢
      by_cases hk0 : 0 < k
      · rw [if_pos hk0]
        refine ⟨?_, ?_, ?_, ?_, ?_, JR_c hJR (fun j hj => ?_), ?_⟩
        · simp only [J0, JS, JP, JA, te1, tb1, ta, preM, h1, hm, not_true_eq_false, not_false_eq_true, up, up, Int.reduceAdd, Int.reduceSub, Int.reduceMul, Int.reduceNeg, Int.reduceEq, Int.reduceLT, Int.reduceLE, reduceIte, if_true, if_false, eq_self, ite_true, ite_false]; and_intros <;> first | omega | simp
        · simp only [J0, JS, JP, JA, te1, tb1, ta, preM, h1, hm, not_true_eq_false, not_false_eq_true, up, up, Int.reduceAdd, Int.reduceSub, Int.reduceMul, Int.reduceNeg, Int.reduceEq, Int.reduceLT, Int.reduceLE, reduceIte, if_true, if_false, eq_self, ite_true, ite_false]; and_intros <;> first | omega | simp
        · simp only [J0, JS, JP, JA, te1, tb1, ta, preM, h1, hm, not_true_eq_false, not_false_eq_true, up, up, Int.reduceAdd, Int.reduceSub, Int.reduceMul, Int.reduceNeg, Int.reduceEq, Int.reduceLT, Int.reduceLE, reduceIte, if_true, if_false, eq_self, ite_true, ite_false]; and_intros <;> first | omega | simp
        · simp only [J0, JS, JP, JA, te1, tb1, ta, preM, h1, hm, not_true_eq_false, not_false_eq_true, up, up, Int.reduceAdd, Int.reduceSub, Int.reduceMul, Int.reduceNeg, Int.reduceEq, Int.reduceLT, Int.reduceLE, reduceIte, if_true, if_false, eq_self, ite_true, ite_false]; and_intros <;> first | omega | simp
        · simp only [J0, JS, JP, JA, te1, tb1, ta, preM, h1, hm, not_true_eq_false, not_false_eq_true, up, up, Int.reduceAdd, Int.reduceSub, Int.reduceMul, Int.reduceNeg, Int.reduceEq, Int.reduceLT, Int.reduceLE, reduceIte, if_true, if_false, eq_self, ite_true, ite_false]; and_intros <;> first | omega | simp
        · rw [show (te1 (ta 0 (preM l b e σ))) = _ from if_pos hm]; simp only [tb1, ta, preM]; repeat rw [up_n (by omega)]
        · simp only [J0, JS, JP, JA, te1, tb1, ta, preM, h1, hm, not_true_eq_false, not_false_eq_true, up, up, Int.reduceAdd, Int.reduceSub, Int.reduceMul, Int.reduceNeg, Int.reduceEq, Int.reduceLT, Int.reduceLE, reduceIte, if_true, if_false, eq_self, ite_true, ite_false]; omega
      · rw [if_neg hk0]
        refine ⟨?_, ?_, ?_, ?_, ?_, JR_c hJR (fun j hj => ?_), ?_⟩
        · simp only [J0, JS, JP, JA, te1, tb1, ta, preM, h1, hm, not_true_eq_false, not_false_eq_true, up, up, Int.reduceAdd, Int.reduceSub, Int.reduceMul, Int.reduceNeg, Int.reduceEq, Int.reduceLT, Int.reduceLE, reduceIte, if_true, if_false, eq_self, ite_true, ite_false]; and_intros <;> first | omega | simp
        · simp only [J0, JS, JP, JA, te1, tb1, ta, preM, h1, hm, not_true_eq_false, not_false_eq_true, up, up, Int.reduceAdd, Int.reduceSub, Int.reduceMul, Int.reduceNeg, Int.reduceEq, Int.reduceLT, Int.reduceLE, reduceIte, if_true, if_false, eq_self, ite_true, ite_false]; and_intros <;> first | omega | simp
        · simp only [J0, JS, JP, JA, te1, tb1, ta, preM, h1, hm, not_true_eq_false, not_false_eq_true, up, up, Int.reduceAdd, Int.reduceSub, Int.reduceMul, Int.reduceNeg, Int.reduceEq, Int.reduceLT, Int.reduceLE, reduceIte, if_true, if_false, eq_self, ite_true, ite_false]; and_intros <;> first | omega | simp
        · simp only [J0, JS, JP, JA, te1, tb1, ta, preM, h1, hm, not_true_eq_false, not_false_eq_true, up, up, Int.reduceAdd, Int.reduceSub, Int.reduceMul, Int.reduceNeg, Int.reduceEq, Int.reduceLT, Int.reduceLE, reduceIte, if_true, if_false, eq_self, ite_true, ite_false]; and_intros <;> first | omega | simp
        · simp only [J0, JS, JP, JA, te1, tb1, ta, preM, h1, hm, not_true_eq_false, not_false_eq_true, up, up, Int.reduceAdd, Int.reduceSub, Int.reduceMul, Int.reduceNeg, Int.reduceEq, Int.reduceLT, Int.reduceLE, reduceIte, if_true, if_false, eq_self, ite_true, ite_false]; and_intros <;> first | omega | simp
        · rw [show (te1 (ta 0 (preM l b e σ))) = _ from if_pos hm]; simp only [tb1, ta, preM]; repeat rw [up_n (by omega)]
        · simp only [J0, JS, JP, JA, te1, tb1, ta, preM, h1, hm, not_true_eq_false, not_false_eq_true, up, up, Int.reduceAdd, Int.reduceSub, Int.reduceMul, Int.reduceNeg, Int.reduceEq, Int.reduceLT, Int.reduceLE, reduceIte, if_true, if_false, eq_self, ite_true, ite_false]; omega

    · skip
      have e25 : (te1 (ta 0 (preM l b e σ))) 25 = σ 31 + σ 32 := by rw [show (te1 (ta 0 (preM l b e σ))) = _ from if_neg hm]; rfl
      have e26 : (te1 (ta 0 (preM l b e σ))) 26 = σ 26 := by rw [show (te1 (ta 0 (preM l b e σ))) = _ from if_neg hm]; rfl
      have e33 : (te1 (ta 0 (preM l b e σ))) 33 = σ 33 := by rw [show (te1 (ta 0 (preM l b e σ))) = _ from if_neg hm]; rfl
      have hk : tk1 (te1 (ta 0 (preM l b e σ))) ≤ σ 33 ∧ tk1 (te1 (ta 0 (preM l b e σ))) ≤ σ 31 + σ 32 - σ 26 := by unfold tk1; rw [e25, e26, e33]; split <;> exact ⟨by omega, by omega⟩
      generalize tk1 (te1 (ta 0 (preM l b e σ))) = k at hk ⊢
      by_cases hk0 : 0 < k
      · rw [if_pos hk0]
        refine ⟨?_, ?_, ?_, ?_, ?_, JR_c hJR (fun j hj => ?_), ?_⟩
        · simp only [J0, JS, JP, JA, te1, tb1, ta, preM, h1, hm, not_true_eq_false, not_false_eq_true, up, up, Int.reduceAdd, Int.reduceSub, Int.reduceMul, Int.reduceNeg, Int.reduceEq, Int.reduceLT, Int.reduceLE, reduceIte, if_true, if_false, eq_self, ite_true, ite_false]; and_intros <;> first | omega | simp
        · simp only [J0, JS, JP, JA, te1, tb1, ta, preM, h1, hm, not_true_eq_false, not_false_eq_true, up, up, Int.reduceAdd, Int.reduceSub, Int.reduceMul, Int.reduceNeg, Int.reduceEq, Int.reduceLT, Int.reduceLE, reduceIte, if_true, if_false, eq_self, ite_true, ite_false]; and_intros <;> first | omega | simp
        · simp only [J0, JS, JP, JA, te1, tb1, ta, preM, h1, hm, not_true_eq_false, not_false_eq_true, up, up, Int.reduceAdd, Int.reduceSub, Int.reduceMul, Int.reduceNeg, Int.reduceEq, Int.reduceLT, Int.reduceLE, reduceIte, if_true, if_false, eq_self, ite_true, ite_false]; and_intros <;> first | omega | simp
        · simp only [J0, JS, JP, JA, te1, tb1, ta, preM, h1, hm, not_true_eq_false, not_false_eq_true, up, up, Int.reduceAdd, Int.reduceSub, Int.reduceMul, Int.reduceNeg, Int.reduceEq, Int.reduceLT, Int.reduceLE, reduceIte, if_true, if_false, eq_self, ite_true, ite_false]; and_intros <;> first | omega | simp
        · simp only [J0, JS, JP, JA, te1, tb1, ta, preM, h1, hm, not_true_eq_false, not_false_eq_true, up, up, Int.reduceAdd, Int.reduceSub, Int.reduceMul, Int.reduceNeg, Int.reduceEq, Int.reduceLT, Int.reduceLE, reduceIte, if_true, if_false, eq_self, ite_true, ite_false]; and_intros <;> first | omega | simp
        · rw [show (te1 (ta 0 (preM l b e σ))) = _ from if_neg hm]; simp only [tb1, ta, preM]; repeat rw [up_n (by omega)]
        · simp only [J0, JS, JP, JA, te1, tb1, ta, preM, h1, hm, not_true_eq_false, not_false_eq_true, up, up, Int.reduceAdd, Int.reduceSub, Int.reduceMul, Int.reduceNeg, Int.reduceEq, Int.reduceLT, Int.reduceLE, reduceIte, if_true, if_false, eq_self, ite_true, ite_false]; omega
      · rw [if_neg hk0]
        refine ⟨?_, ?_, ?_, ?_, ?_, JR_c hJR (fun j hj => ?_), ?_⟩
        · simp only [J0, JS, JP, JA, te1, tb1, ta, preM, h1, hm, not_true_eq_false, not_false_eq_true, up, up, Int.reduceAdd, Int.reduceSub, Int.reduceMul, Int.reduceNeg, Int.reduceEq, Int.reduceLT, Int.reduceLE, reduceIte, if_true, if_false, eq_self, ite_true, ite_false]; and_intros <;> first | omega | simp
        · simp only [J0, JS, JP, JA, te1, tb1, ta, preM, h1, hm, not_true_eq_false, not_false_eq_true, up, up, Int.reduceAdd, Int.reduceSub, Int.reduceMul, Int.reduceNeg, Int.reduceEq, Int.reduceLT, Int.reduceLE, reduceIte, if_true, if_false, eq_self, ite_true, ite_false]; and_intros <;> first | omega | simp
        · simp only [J0, JS, JP, JA, te1, tb1, ta, preM, h1, hm, not_true_eq_false, not_false_eq_true, up, up, Int.reduceAdd, Int.reduceSub, Int.reduceMul, Int.reduceNeg, Int.reduceEq, Int.reduceLT, Int.reduceLE, reduceIte, if_true, if_false, eq_self, ite_true, ite_false]; and_intros <;> first | omega | simp
        · simp only [J0, JS, JP, JA, te1, tb1, ta, preM, h1, hm, not_true_eq_false, not_false_eq_true, up, up, Int.reduceAdd, Int.reduceSub, Int.reduceMul, Int.reduceNeg, Int.reduceEq, Int.reduceLT, Int.reduceLE, reduceIte, if_true, if_false, eq_self, ite_true, ite_false]; and_intros <;> first | omega | simp
        · simp only [J0, JS, JP, JA, te1, tb1, ta, preM, h1, hm, not_true_eq_false, not_false_eq_true, up, up, Int.reduceAdd, Int.reduceSub, Int.reduceMul, Int.reduceNeg, Int.reduceEq, Int.reduceLT, Int.reduceLE, reduceIte, if_true, if_false, eq_self, ite_true, ite_false]; and_intros <;> first | omega | simp
        · rw [show (te1 (ta 0 (preM l b e σ))) = _ from if_neg hm]; simp only [tb1, ta, preM]; repeat rw [up_n (by omega)]
        · simp only [J0, JS, JP, JA, te1, tb1, ta, preM, h1, hm, not_true_eq_false, not_false_eq_true, up, up, Int.reduceAdd, Int.reduceSub, Int.reduceMul, Int.reduceNeg, Int.reduceEq, Int.reduceLT, Int.reduceLE, reduceIte, if_true, if_false, eq_self, ite_true, ite_false]; omega
  · rw [stF_1l hz]
    refine ⟨?_, ?_, ?_, ?_, ?_, JR_c hJR (fun j hj => ?_), ?_⟩
    · simp only [J0, JS, JP, JA, ta, preM, h1, up, up, Int.reduceAdd, Int.reduceSub, Int.reduceMul, Int.reduceNeg, Int.reduceEq, Int.reduceLT, Int.reduceLE, reduceIte, if_true, if_false, eq_self, ite_true, ite_false]; and_intros <;> first | omega | simp
    · simp only [J0, JS, JP, JA, ta, preM, h1, up, up, Int.reduceAdd, Int.reduceSub, Int.reduceMul, Int.reduceNeg, Int.reduceEq, Int.reduceLT, Int.reduceLE, reduceIte, if_true, if_false, eq_self, ite_true, ite_false]; and_intros <;> first | omega | simp
    · simp only [J0, JS, JP, JA, ta, preM, h1, up, up, Int.reduceAdd, Int.reduceSub, Int.reduceMul, Int.reduceNeg, Int.reduceEq, Int.reduceLT, Int.reduceLE, reduceIte, if_true, if_false, eq_self, ite_true, ite_false]; and_intros <;> first | omega | simp
    · simp only [J0, JS, JP, JA, ta, preM, h1, up, up, Int.reduceAdd, Int.reduceSub, Int.reduceMul, Int.reduceNeg, Int.reduceEq, Int.reduceLT, Int.reduceLE, reduceIte, if_true, if_false, eq_self, ite_true, ite_false]; and_intros <;> first | omega | simp
    · simp only [J0, JS, JP, JA, ta, preM, h1, up, up, Int.reduceAdd, Int.reduceSub, Int.reduceMul, Int.reduceNeg, Int.reduceEq, Int.reduceLT, Int.reduceLE, reduceIte, if_true, if_false, eq_self, ite_true, ite_false]; and_intros <;> first | omega | simp
    · simp only [ta, preM]; repeat rw [up_n (by omega)]
    · simp only [J0, JS, JP, JA, ta, preM, h1, up, up, Int.reduceAdd, Int.reduceSub, Int.reduceMul, Int.reduceNeg, Int.reduceEq, Int.reduceLT, Int.reduceLE, reduceIte, if_true, if_false, eq_self, ite_true, ite_false]; omega
theorem lz_b {σ : Int → Int} {f : Int} : 0 ≤ bI (¬ lz σ f = 0) ∧ bI (¬ lz σ f = 0) ≤ 1 := bI_in
theorem dl_in {σ : Int → Int} (h : J σ) : 0 ≤ dl σ ∧ dl σ ≤ 8 := by
  obtain ⟨hJ0, hJS, hJU, hJP, hJA, hJR, hJ3⟩ := h
  simp only [J0, JS, Int.reduceAdd] at hJ0 hJS hJU
  unfold dl
  split
  · rename_i hd
    obtain ⟨d1, d2, d3, d4⟩ := hd
    rcases hJ0.1 with h1 | h1
    · rw [h1] at d3 ⊢
      simp only [Int.reduceAdd, Int.reduceMul] at d3 ⊢
      exact hJR.1 _ (by omega) (by omega)
    · rw [h1] at d3 ⊢
      simp only [Int.reduceAdd, Int.reduceMul] at d3 ⊢
      exact hJR.1 _ (by omega) (by omega)
  · exact ⟨by decide, by decide⟩
theorem es_in {σ : Int → Int} (h : J σ) : 0 ≤ esM σ ∧ esM σ ≤ 7 + dl σ := escI_in (by have := dl_in h; omega)
theorem J_step {σ : Int → Int} (h : J σ) : J (stepF 0 σ) := by
  have hd := dl_in h
  have he := es_in h
  have h0 := h.1.1
  by_cases c : isDataP σ
  · rw [stepF_d c]
    obtain ⟨d1, d2, d3, d4⟩ := c
    rcases h0 with h1 | h1
    · rw [h1] at d3 ⊢
      exact J_d0 h h1 d2 d3 lz_b ⟨by omega, by omega⟩ ⟨by omega, by omega⟩
    · rw [h1] at d3 ⊢
      exact J_d1 h h1 d2 d3 lz_b ⟨by omega, by omega⟩ ⟨by omega, by omega⟩
  · rw [stepF_t c]
    rcases h0 with h1 | h1
    · rw [h1]
      exact J_t0 h h1 lz_b ⟨by omega, by omega⟩ ⟨by omega, by omega⟩
    · rw [h1]
      exact J_t1 h h1 lz_b ⟨by omega, by omega⟩ ⟨by omega, by omega⟩
end StepJ
