section StepJ
theorem JR_c {σ τ : Int → Int} (h : JR σ) (e : ∀ j, j < 0 ∨ 40 ≤ j → τ j = σ j) : JR τ := by
  obtain ⟨h1, h2, h3, h4⟩ := h
  exact ⟨fun j a b => by rw [e j (by omega)]; exact h1 j a b, fun j a b => by rw [e j (by omega)]; exact h2 j a b, fun j a b => by rw [e j (by omega)]; exact h3 j a b, fun j a => by rw [e j (by omega)]; exact h4 j a⟩
set_option maxHeartbeats 4000000 in
theorem J_d0 {σ : Int → Int} {z l b e : Int} (h : J σ) (h1 : σ 1 = 0) (h2 : σ 2 < σ 4) (h3 : σ 24 + σ 2 < σ 18) (hl : 0 ≤ l ∧ l ≤ 1) (hb : 0 ≤ b ∧ b ≤ 32) (he : 0 ≤ e ∧ e ≤ 15) : J (sdF 0 z (preM l b e σ)) := by
  obtain ⟨hJ0, hJS, hJU, hJP, hJA, hJR, hJ3⟩ := h
  simp only [J0, JS, JA, Int.reduceAdd] at hJ0 hJS hJU hJA
  rw [JP, if_pos h1] at hJP
  rw [sdF_0 (show preM l b e σ 1 = 0 from h1), show preM l b e σ 24 + preM l b e σ 2 = σ 24 + σ 2 from rfl]
  generalize hn : σ 24 + σ 2 = n at h3
  by_cases hz : z = 0
  · rw [if_pos hz]
    by_cases hm : 0 < σ 23 - σ 39
    · skip
      by_cases hv : n < σ 26
      · skip
        by_cases hv2 : n + 1 ≤ σ 26
        · skip
          by_cases ha : n = σ 30
          · skip
            refine ⟨?_, ?_, ?_, ?_, ?_, JR_c hJR (fun j hj => ?_), ?_⟩
            · simp only [J0, JS, JP, JA, sb0, te0, sa0, preM, bI, h1, not_true_eq_false, not_false_eq_true, hm, hv, hv2, ha, up, Int.reduceAdd, Int.reduceSub, Int.reduceMul, Int.reduceNeg, Int.reduceEq, Int.reduceLT, Int.reduceLE, reduceIte, if_true, if_false, eq_self, ite_true, ite_false]; and_intros <;> first | omega | simp
            · simp only [J0, JS, JP, JA, sb0, te0, sa0, preM, bI, h1, not_true_eq_false, not_false_eq_true, hm, hv, hv2, ha, up, Int.reduceAdd, Int.reduceSub, Int.reduceMul, Int.reduceNeg, Int.reduceEq, Int.reduceLT, Int.reduceLE, reduceIte, if_true, if_false, eq_self, ite_true, ite_false]; and_intros <;> first | omega | simp
            · simp only [J0, JS, JP, JA, sb0, te0, sa0, preM, bI, h1, not_true_eq_false, not_false_eq_true, hm, hv, hv2, ha, up, Int.reduceAdd, Int.reduceSub, Int.reduceMul, Int.reduceNeg, Int.reduceEq, Int.reduceLT, Int.reduceLE, reduceIte, if_true, if_false, eq_self, ite_true, ite_false]; and_intros <;> first | omega | simp
            · simp only [J0, JS, JP, JA, sb0, te0, sa0, preM, bI, h1, not_true_eq_false, not_false_eq_true, hm, hv, hv2, ha, up, Int.reduceAdd, Int.reduceSub, Int.reduceMul, Int.reduceNeg, Int.reduceEq, Int.reduceLT, Int.reduceLE, reduceIte, if_true, if_false, eq_self, ite_true, ite_false]; and_intros <;> first | omega | simp
            · simp only [J0, JS, JP, JA, sb0, te0, sa0, preM, bI, h1, not_true_eq_false, not_false_eq_true, hm, hv, hv2, ha, up, Int.reduceAdd, Int.reduceSub, Int.reduceMul, Int.reduceNeg, Int.reduceEq, Int.reduceLT, Int.reduceLE, reduceIte, if_true, if_false, eq_self, ite_true, ite_false]; and_intros <;> first | omega | simp
            · rw [show te0 (sa0 n (preM l b e σ)) = _ from if_pos hm]; simp only [sb0, sa0, preM]; repeat rw [up_n (by omega)]
            · simp only [J0, JS, JP, JA, sb0, te0, sa0, preM, bI, h1, not_true_eq_false, not_false_eq_true, hm, hv, hv2, ha, up, Int.reduceAdd, Int.reduceSub, Int.reduceMul, Int.reduceNeg, Int.reduceEq, Int.reduceLT, Int.reduceLE, reduceIte, if_true, if_false, eq_self, ite_true, ite_false]; omega
          · skip
            refine ⟨?_, ?_, ?_, ?_, ?_, JR_c hJR (fun j hj => ?_), ?_⟩
            · simp only [J0, JS, JP, JA, sb0, te0, sa0, preM, bI, h1, not_true_eq_false, not_false_eq_true, hm, hv, hv2, ha, up, Int.reduceAdd, Int.reduceSub, Int.reduceMul, Int.reduceNeg, Int.reduceEq, Int.reduceLT, Int.reduceLE, reduceIte, if_true, if_false, eq_self, ite_true, ite_false]; and_intros <;> first | omega | simp
            · simp only [J0, JS, JP, JA, sb0, te0, sa0, preM, bI, h1, not_true_eq_false, not_false_eq_true, hm, hv, hv2, ha, up, Int.reduceAdd, Int.reduceSub, Int.reduceMul, Int.reduceNeg, Int.reduceEq, Int.reduceLT, Int.reduceLE, reduceIte, if_true, if_false, eq_self, ite_true, ite_false]; and_intros <;> first | omega | simp
            · simp only [J0, JS, JP, JA, sb0, te0, sa0, preM, bI, h1, not_true_eq_false, not_false_eq_true, hm, hv, hv2, ha, up, Int.reduceAdd, Int.reduceSub, Int.reduceMul, Int.reduceNeg, Int.reduceEq, Int.reduceLT, Int.reduceLE, reduceIte, if_true, if_false, eq_self, ite_true, ite_false]; and_intros <;> first | omega | simp
            · simp only [J0, JS, JP, JA, sb0, te0, sa0, preM, bI, h1, not_true_eq_false, not_false_eq_true, hm, hv, hv2, ha, up, Int.reduceAdd, Int.reduceSub, Int.reduceMul, Int.reduceNeg, Int.reduceEq, Int.reduceLT, Int.reduceLE, reduceIte, if_true, if_false, eq_self, ite_true, ite_false]; and_intros <;> first | omega | simp
            · simp only [J0, JS, JP, JA, sb0, te0, sa0, preM, bI, h1, not_true_eq_false, not_false_eq_true, hm, hv, hv2, ha, up, Int.reduceAdd, Int.reduceSub, Int.reduceMul, Int.reduceNeg, Int.reduceEq, Int.reduceLT, Int.reduceLE, reduceIte, if_true, if_false, eq_self, ite_true, ite_false]; and_intros <;> first | omega | simp
            · rw [show te0 (sa0 n (preM l b e σ)) = _ from if_pos hm]; simp only [sb0, sa0, preM]; repeat rw [up_n (by omega)]
            · simp only [J0, JS, JP, JA, sb0, te0, sa0, preM, bI, h1, not_true_eq_false, not_false_eq_true, hm, hv, hv2, ha, up, Int.reduceAdd, Int.reduceSub, Int.reduceMul, Int.reduceNeg, Int.reduceEq, Int.reduceLT, Int.reduceLE, reduceIte, if_true, if_false, eq_self, ite_true, ite_false]; omega
        · skip
          by_cases ha : n = σ 30
          · skip
            refine ⟨?_, ?_, ?_, ?_, ?_, JR_c hJR (fun j hj => ?_), ?_⟩
            · simp only [J0, JS, JP, JA, sb0, te0, sa0, preM, bI, h1, not_true_eq_false, not_false_eq_true, hm, hv, hv2, ha, up, Int.reduceAdd, Int.reduceSub, Int.reduceMul, Int.reduceNeg, Int.reduceEq, Int.reduceLT, Int.reduceLE, reduceIte, if_true, if_false, eq_self, ite_true, ite_false]; and_intros <;> first | omega | simp
            · simp only [J0, JS, JP, JA, sb0, te0, sa0, preM, bI, h1, not_true_eq_false, not_false_eq_true, hm, hv, hv2, ha, up, Int.reduceAdd, Int.reduceSub, Int.reduceMul, Int.reduceNeg, Int.reduceEq, Int.reduceLT, Int.reduceLE, reduceIte, if_true, if_false, eq_self, ite_true, ite_false]; and_intros <;> first | omega | simp
            · simp only [J0, JS, JP, JA, sb0, te0, sa0, preM, bI, h1, not_true_eq_false, not_false_eq_true, hm, hv, hv2, ha, up, Int.reduceAdd, Int.reduceSub, Int.reduceMul, Int.reduceNeg, Int.reduceEq, Int.reduceLT, Int.reduceLE, reduceIte, if_true, if_false, eq_self, ite_true, ite_false]; and_intros <;> first | omega | simp
            · simp only [J0, JS, JP, JA, sb0, te0, sa0, preM, bI, h1, not_true_eq_false, not_false_eq_true, hm, hv, hv2, ha, up, Int.reduceAdd, Int.reduceSub, Int.reduceMul, Int.reduceNeg, Int.reduceEq, Int.reduceLT, Int.reduceLE, reduceIte, if_true, if_false, eq_self, ite_true, ite_false]; and_intros <;> first | omega | simp
            · simp only [J0, JS, JP, JA, sb0, te0, sa0, preM, bI, h1, not_true_eq_false, not_false_eq_true, hm, hv, hv2, ha, up, Int.reduceAdd, Int.reduceSub, Int.reduceMul, Int.reduceNeg, Int.reduceEq, Int.reduceLT, Int.reduceLE, reduceIte, if_true, if_false, eq_self, ite_true, ite_false]; and_intros <;> first | omega | simp
            · rw [show te0 (sa0 n (preM l b e σ)) = _ from if_pos hm]; simp only [sb0, sa0, preM]; repeat rw [up_n (by omega)]
            · simp only [J0, JS, JP, JA, sb0, te0, sa0, preM, bI, h1, not_true_eq_false, not_false_eq_true, hm, hv, hv2, ha, up, Int.reduceAdd, Int.reduceSub, Int.reduceMul, Int.reduceNeg, Int.reduceEq, Int.reduceLT, Int.reduceLE, reduceIte, if_true, if_false, eq_self, ite_true, ite_false]; omega
          · skip
            refine ⟨?_, ?_, ?_, ?_, ?_, JR_c hJR (fun j hj => ?_), ?_⟩
            · simp only [J0, JS, JP, JA, sb0, te0, sa0, preM, bI, h1, not_true_eq_false, not_false_eq_true, hm, hv, hv2, ha, up, Int.reduceAdd, Int.reduceSub, Int.reduceMul, Int.reduceNeg, Int.reduceEq, Int.reduceLT, Int.reduceLE, reduceIte, if_true, if_false, eq_self, ite_true, ite_false]; and_intros <;> first | omega | simp
            · simp only [J0, JS, JP, JA, sb0, te0, sa0, preM, bI, h1, not_true_eq_false, not_false_eq_true, hm, hv, hv2, ha, up, Int.reduceAdd, Int.reduceSub, Int.reduceMul, Int.reduceNeg, Int.reduceEq, Int.reduceLT, Int.reduceLE, reduceIte, if_true, if_false, eq_self, ite_true, ite_false]; and_intros <;> first | omega | simp
            · simp only [J0, JS, JP, JA, sb0, te0, sa0, preM, bI, h1, not_true_eq_false, not_false_eq_true, hm, hv, hv2, ha, up, Int.reduceAdd, Int.reduceSub, Int.reduceMul, Int.reduceNeg, Int.reduceEq, Int.reduceLT, Int.reduceLE, reduceIte, if_true, if_false, eq_self, ite_true, ite_false]; and_intros <;> first | omega | simp
            · simp only [J0, JS, JP, JA, sb0, te0, sa0, preM, bI, h1, not_true_eq_false, not_false_eq_true, hm, hv, hv2, ha, up, Int.reduceAdd, Int.reduceSub, Int.reduceMul, Int.reduceNeg, Int.reduceEq, Int.reduceLT, Int.reduceLE, reduceIte, if_true, if_false, eq_self, ite_true, ite_false]; and_intros <;> first | omega | simp
            · simp only [J0, JS, JP, JA, sb0, te0, sa0, preM, bI, h1, not_true_eq_false, not_false_eq_true, hm, hv, hv2, ha, up, Int.reduceAdd, Int.reduceSub, Int.reduceMul, Int.reduceNeg, Int.reduceEq, Int.reduceLT, Int.reduceLE, reduceIte, if_true, if_false, eq_self, ite_true, ite_false]; and_intros <;> first | omega | simp
            · rw [show te0 (sa0 n (preM l b e σ)) = _ from if_pos hm]; simp only [sb0, sa0, preM]; repeat rw [up_n (by omega)]
            · simp only [J0, JS, JP, JA, sb0, te0, sa0, preM, bI, h1, not_true_eq_false, not_false_eq_true, hm, hv, hv2, ha, up, Int.reduceAdd, Int.reduceSub, Int.reduceMul, Int.reduceNeg, Int.reduceEq, Int.reduceLT, Int.reduceLE, reduceIte, if_true, if_false, eq_self, ite_true, ite_false]; omega
      · skip
        by_cases hv2 : n + 1 ≤ σ 26
        · skip
          by_cases ha : n = σ 30
          · skip
            refine ⟨?_, ?_, ?_, ?_, ?_, JR_c hJR (fun j hj => ?_), ?_⟩
            · simp only [J0, JS, JP, JA, sb0, te0, sa0, preM, bI, h1, not_true_eq_false, not_false_eq_true, hm, hv, hv2, ha, up, Int.reduceAdd, Int.reduceSub, Int.reduceMul, Int.reduceNeg, Int.reduceEq, Int.reduceLT, Int.reduceLE, reduceIte, if_true, if_false, eq_self, ite_true, ite_false]; and_intros <;> first | omega | simp
            · simp only [J0, JS, JP, JA, sb0, te0, sa0, preM, bI, h1, not_true_eq_false, not_false_eq_true, hm, hv, hv2, ha, up, Int.reduceAdd, Int.reduceSub, Int.reduceMul, Int.reduceNeg, Int.reduceEq, Int.reduceLT, Int.reduceLE, reduceIte, if_true, if_false, eq_self, ite_true, ite_false]; and_intros <;> first | omega | simp
            · simp only [J0, JS, JP, JA, sb0, te0, sa0, preM, bI, h1, not_true_eq_false, not_false_eq_true, hm, hv, hv2, ha, up, Int.reduceAdd, Int.reduceSub, Int.reduceMul, Int.reduceNeg, Int.reduceEq, Int.reduceLT, Int.reduceLE, reduceIte, if_true, if_false, eq_self, ite_true, ite_false]; and_intros <;> first | omega | simp
            · simp only [J0, JS, JP, JA, sb0, te0, sa0, preM, bI, h1, not_true_eq_false, not_false_eq_true, hm, hv, hv2, ha, up, Int.reduceAdd, Int.reduceSub, Int.reduceMul, Int.reduceNeg, Int.reduceEq, Int.reduceLT, Int.reduceLE, reduceIte, if_true, if_false, eq_self, ite_true, ite_false]; and_intros <;> first | omega | simp
            · simp only [J0, JS, JP, JA, sb0, te0, sa0, preM, bI, h1, not_true_eq_false, not_false_eq_true, hm, hv, hv2, ha, up, Int.reduceAdd, Int.reduceSub, Int.reduceMul, Int.reduceNeg, Int.reduceEq, Int.reduceLT, Int.reduceLE, reduceIte, if_true, if_false, eq_self, ite_true, ite_false]; and_intros <;> first | omega | simp
            · rw [show te0 (sa0 n (preM l b e σ)) = _ from if_pos hm]; simp only [sb0, sa0, preM]; repeat rw [up_n (by omega)]
            · simp only [J0, JS, JP, JA, sb0, te0, sa0, preM, bI, h1, not_true_eq_false, not_false_eq_true, hm, hv, hv2, ha, up, Int.reduceAdd, Int.reduceSub, Int.reduceMul, Int.reduceNeg, Int.reduceEq, Int.reduceLT, Int.reduceLE, reduceIte, if_true, if_false, eq_self, ite_true, ite_false]; omega
          · skip
            refine ⟨?_, ?_, ?_, ?_, ?_, JR_c hJR (fun j hj => ?_), ?_⟩
            · simp only [J0, JS, JP, JA, sb0, te0, sa0, preM, bI, h1, not_true_eq_false, not_false_eq_true, hm, hv, hv2, ha, up, Int.reduceAdd, Int.reduceSub, Int.reduceMul, Int.reduceNeg, Int.reduceEq, Int.reduceLT, Int.reduceLE, reduceIte, if_true, if_false, eq_self, ite_true, ite_false]; and_intros <;> first | omega | simp
            · simp only [J0, JS, JP, JA, sb0, te0, sa0, preM, bI, h1, not_true_eq_false, not_false_eq_true, hm, hv, hv2, ha, up, Int.reduceAdd, Int.reduceSub, Int.reduceMul, Int.reduceNeg, Int.reduceEq, Int.reduceLT, Int.reduceLE, reduceIte, if_true, if_false, eq_self, ite_true, ite_false]; and_intros <;> first | omega | simp
            · simp only [J0, JS, JP, JA, sb0, te0, sa0, preM, bI, h1, not_true_eq_false, not_false_eq_true, hm, hv, hv2, ha, up, Int.reduceAdd, Int.reduceSub, Int.reduceMul, Int.reduceNeg, Int.reduceEq, Int.reduceLT, Int.reduceLE, reduceIte, if_true, if_false, eq_self, ite_true, ite_false]; and_intros <;> first | omega | simp
            · simp only [J0, JS, JP, JA, sb0, te0, sa0, preM, bI, h1, not_true_eq_false, not_false_eq_true, hm, hv, hv2, ha, up, Int.reduceAdd, Int.reduceSub, Int.reduceMul, Int.reduceNeg, Int.reduceEq, Int.reduceLT, Int.reduceLE, reduceIte, if_true, if_false, eq_self, ite_true, ite_false]; and_intros <;> first | omega | simp
            · simp only [J0, JS, JP, JA, sb0, te0, sa0, preM, bI, h1, not_true_eq_false, not_false_eq_true, hm, hv, hv2, ha, up, Int.reduceAdd, Int.reduceSub, Int.reduceMul, Int.reduceNeg, Int.reduceEq, Int.reduceLT, Int.reduceLE, reduceIte, if_true, if_false, eq_self, ite_true, ite_false]; and_intros <;> first | omega | simp
            · rw [show te0 (sa0 n (preM l b e σ)) = _ from if_pos hm]; simp only [sb0, sa0, preM]; repeat rw [up_n (by omega)]
            · simp only [J0, JS, JP, JA, sb0, te0, sa0, preM, bI, h1, not_true_eq_false, not_false_eq_true, hm, hv, hv2, ha, up, Int.reduceAdd, Int.reduceSub, Int.reduceMul, Int.reduceNeg, Int.reduceEq, Int.reduceLT, Int.reduceLE, reduceIte, if_true, if_false, eq_self, ite_true, ite_false]; omega
        · skip
          by_cases ha : n = σ 30
          · skip
            refine ⟨?_, ?_, ?_, ?_, ?_, JR_c hJR (fun j hj => ?_), ?_⟩
            · simp only [J0, JS, JP, JA, sb0, te0, sa0, preM, bI, h1, not_true_eq_false, not_false_eq_true, hm, hv, hv2, ha, up, Int.reduceAdd, Int.reduceSub, Int.reduceMul, Int.reduceNeg, Int.reduceEq, Int.reduceLT, Int.reduceLE, reduceIte, if_true, if_false, eq_self, ite_true, ite_false]; and_intros <;> first | omega | simp
            · simp only [J0, JS, JP, JA, sb0, te0, sa0, preM, bI, h1, not_true_eq_false, not_false_eq_true, hm, hv, hv2, ha, up, Int.reduceAdd, Int.reduceSub, Int.reduceMul, Int.reduceNeg, Int.reduceEq, Int.reduceLT, Int.reduceLE, reduceIte, if_true, if_false, eq_self, ite_true, ite_false]; and_intros <;> first | omega | simp
            · simp only [J0, JS, JP, JA, sb0, te0, sa0, preM, bI, h1, not_true_eq_false, not_false_eq_true, hm, hv, hv2, ha, up, Int.reduceAdd, Int.reduceSub, Int.reduceMul, Int.reduceNeg, Int.reduceEq, Int.reduceLT, Int.reduceLE, reduceIte, if_true, if_false, eq_self, ite_true, ite_false]; and_intros <;> first | omega | simp
            · simp only [J0, JS, JP, JA, sb0, te0, sa0, preM, bI, h1, not_true_eq_false, not_false_eq_true, hm, hv, hv2, ha, up, Int.reduceAdd, Int.reduceSub, Int.reduceMul, Int.reduceNeg, Int.reduceEq, Int.reduceLT, Int.reduceLE, reduceIte, if_true, if_false, eq_self, ite_true, ite_false]; and_intros <;> first | omega | simp
            · simp only [J0, JS, JP, JA, sb0, te0, sa0, preM, bI, h1, not_true_eq_false, not_false_eq_true, hm, hv, hv2, ha, up, Int.reduceAdd, Int.reduceSub, Int.reduceMul, Int.reduceNeg, Int.reduceEq, Int.reduceLT, Int.reduceLE, reduceIte, if_true, if_false, eq_self, ite_true, ite_false]; and_intros <;> first | omega | simp
            · rw [show te0 (sa0 n (preM l b e σ)) = _ from if_pos hm]; simp only [sb0, sa0, preM]; repeat rw [up_n (by omega)]
            · simp only [J0, JS, JP, JA, sb0, te0, sa0, preM, bI, h1, not_true_eq_false, not_false_eq_true, hm, hv, hv2, ha, up, Int.reduceAdd, Int.reduceSub, Int.reduceMul, Int.reduceNeg, Int.reduceEq, Int.reduceLT, Int.reduceLE, reduceIte, if_true, if_false, eq_self, ite_true, ite_false]; omega
          · skip
            refine ⟨?_, ?_, ?_, ?_, ?_, JR_c hJR (fun j hj => ?_), ?_⟩
            · simp only [J0, JS, JP, JA, sb0, te0, sa0, preM, bI, h1, not_true_eq_false, not_false_eq_true, hm, hv, hv2, ha, up, Int.reduceAdd, Int.reduceSub, Int.reduceMul, Int.reduceNeg, Int.reduceEq, Int.reduceLT, Int.reduceLE, reduceIte, if_true, if_false, eq_self, ite_true, ite_false]; and_intros <;> first | omega | simp
            · simp only [J0, JS, JP, JA, sb0, te0, sa0, preM, bI, h1, not_true_eq_false, not_false_eq_true, hm, hv, hv2, ha, up, Int.reduceAdd, Int.reduceSub, Int.reduceMul, Int.reduceNeg, Int.reduceEq, Int.reduceLT, Int.reduceLE, reduceIte, if_true, if_false, eq_self, ite_true, ite_false]; and_intros <;> first | omega | simp
            · simp only [J0, JS, JP, JA, sb0, te0, sa0, preM, bI, h1, not_true_eq_false, not_false_eq_true, hm, hv, hv2, ha, up, Int.reduceAdd, Int.reduceSub, Int.reduceMul, Int.reduceNeg, Int.reduceEq, Int.reduceLT, Int.reduceLE, reduceIte, if_true, if_false, eq_self, ite_true, ite_false]; and_intros <;> first | omega | simp
            · simp only [J0, JS, JP, JA, sb0, te0, sa0, preM, bI, h1, not_true_eq_false, not_false_eq_true, hm, hv, hv2, ha, up, Int.reduceAdd, Int.reduceSub, Int.reduceMul, Int.reduceNeg, Int.reduceEq, Int.reduceLT, Int.reduceLE, reduceIte, if_true, if_false, eq_self, ite_true, ite_false]; and_intros <;> first | omega | simp
            · simp only [J0, JS, JP, JA, sb0, te0, sa0, preM, bI, h1, not_true_eq_false, not_false_eq_true, hm, hv, hv2, ha, up, Int.reduceAdd, Int.reduceSub, Int.reduceMul, Int.reduceNeg, Int.reduceEq, Int.reduceLT, Int.reduceLE, reduceIte, if_true, if_false, eq_self, ite_true, ite_false]; and_intros <;> first | omega | simp
            · rw [show te0 (sa0 n (preM l b e σ)) = _ from if_pos hm]; simp only [sb0, sa0, preM]; repeat rw [up_n (by omega)]
            · simp only [J0, JS, JP, JA, sb0, te0, sa0, preM, bI, h1, not_true_eq_false, not_false_eq_true, hm, hv, hv2, ha, up, Int.reduceAdd, Int.reduceSub, Int.reduceMul, Int.reduceNeg, Int.reduceEq, Int.reduceLT, Int.reduceLE, reduceIte, if_true, if_false, eq_self, ite_true, ite_false]; omega
    · skip
      by_cases hv : n < σ 26
      · skip
        by_cases hv2 : n + 1 ≤ σ 26
        · skip
          by_cases ha : n = σ 30
          · skip
            refine ⟨?_, ?_, ?_, ?_, ?_, JR_c hJR (fun j hj => ?_), ?_⟩
            · simp only [J0, JS, JP, JA, sb0, te0, sa0, preM, bI, h1, not_true_eq_false, not_false_eq_true, hm, hv, hv2, ha, up, Int.reduceAdd, Int.reduceSub, Int.reduceMul, Int.reduceNeg, Int.reduceEq, Int.reduceLT, Int.reduceLE, reduceIte, if_true, if_false, eq_self, ite_true, ite_false]; and_intros <;> first | omega | simp
            · simp only [J0, JS, JP, JA, sb0, te0, sa0, preM, bI, h1, not_true_eq_false, not_false_eq_true, hm, hv, hv2, ha, up, Int.reduceAdd, Int.reduceSub, Int.reduceMul, Int.reduceNeg, Int.reduceEq, Int.reduceLT, Int.reduceLE, reduceIte, if_true, if_false, eq_self, ite_true, ite_false]; and_intros <;> first | omega | simp
            · simp only [J0, JS, JP, JA, sb0, te0, sa0, preM, bI, h1, not_true_eq_false, not_false_eq_true, hm, hv, hv2, ha, up, Int.reduceAdd, Int.reduceSub, Int.reduceMul, Int.reduceNeg, Int.reduceEq, Int.reduceLT, Int.reduceLE, reduceIte, if_true, if_false, eq_self, ite_true, ite_false]; and_intros <;> first | omega | simp
            · simp only [J0, JS, JP, JA, sb0, te0, sa0, preM, bI, h1, not_true_eq_false, not_false_eq_true, hm, hv, hv2, ha, up, Int.reduceAdd, Int.reduceSub, Int.reduceMul, Int.reduceNeg, Int.reduceEq, Int.reduceLT, Int.reduceLE, reduceIte, if_true, if_false, eq_self, ite_true, ite_false]; and_intros <;> first | omega | simp
            · simp only [J0, JS, JP, JA, sb0, te0, sa0, preM, bI, h1, not_true_eq_false, not_false_eq_true, hm, hv, hv2, ha, up, Int.reduceAdd, Int.reduceSub, Int.reduceMul, Int.reduceNeg, Int.reduceEq, Int.reduceLT, Int.reduceLE, reduceIte, if_true, if_false, eq_self, ite_true, ite_false]; and_intros <;> first | omega | simp
            · rw [show te0 (sa0 n (preM l b e σ)) = _ from if_neg hm]; simp only [sb0, sa0, preM]; repeat rw [up_n (by omega)]
            · simp only [J0, JS, JP, JA, sb0, te0, sa0, preM, bI, h1, not_true_eq_false, not_false_eq_true, hm, hv, hv2, ha, up, Int.reduceAdd, Int.reduceSub, Int.reduceMul, Int.reduceNeg, Int.reduceEq, Int.reduceLT, Int.reduceLE, reduceIte, if_true, if_false, eq_self, ite_true, ite_false]; omega
          · skip
            refine ⟨?_, ?_, ?_, ?_, ?_, JR_c hJR (fun j hj => ?_), ?_⟩
            · simp only [J0, JS, JP, JA, sb0, te0, sa0, preM, bI, h1, not_true_eq_false, not_false_eq_true, hm, hv, hv2, ha, up, Int.reduceAdd, Int.reduceSub, Int.reduceMul, Int.reduceNeg, Int.reduceEq, Int.reduceLT, Int.reduceLE, reduceIte, if_true, if_false, eq_self, ite_true, ite_false]; and_intros <;> first | omega | simp
            · simp only [J0, JS, JP, JA, sb0, te0, sa0, preM, bI, h1, not_true_eq_false, not_false_eq_true, hm, hv, hv2, ha, up, Int.reduceAdd, Int.reduceSub, Int.reduceMul, Int.reduceNeg, Int.reduceEq, Int.reduceLT, Int.reduceLE, reduceIte, if_true, if_false, eq_self, ite_true, ite_false]; and_intros <;> first | omega | simp
            · simp only [J0, JS, JP, JA, sb0, te0, sa0, preM, bI, h1, not_true_eq_false, not_false_eq_true, hm, hv, hv2, ha, up, Int.reduceAdd, Int.reduceSub, Int.reduceMul, Int.reduceNeg, Int.reduceEq, Int.reduceLT, Int.reduceLE, reduceIte, if_true, if_false, eq_self, ite_true, ite_false]; and_intros <;> first | omega | simp
            · simp only [J0, JS, JP, JA, sb0, te0, sa0, preM, bI, h1, not_true_eq_false, not_false_eq_true, hm, hv, hv2, ha, up, Int.reduceAdd, Int.reduceSub, Int.reduceMul, Int.reduceNeg, Int.reduceEq, Int.reduceLT, Int.reduceLE, reduceIte, if_true, if_false, eq_self, ite_true, ite_false]; and_intros <;> first | omega | simp
            · simp only [J0, JS, JP, JA, sb0, te0, sa0, preM, bI, h1, not_true_eq_false, not_false_eq_true, hm, hv, hv2, ha, up, Int.reduceAdd, Int.reduceSub, Int.reduceMul, Int.reduceNeg, Int.reduceEq, Int.reduceLT, Int.reduceLE, reduceIte, if_true, if_false, eq_self, ite_true, ite_false]; and_intros <;> first | omega | simp
            · rw [show te0 (sa0 n (preM l b e σ)) = _ from if_neg hm]; simp only [sb0, sa0, preM]; repeat rw [up_n (by omega)]
            · simp only [J0, JS, JP, JA, sb0, te0, sa0, preM, bI, h1, not_true_eq_false, not_false_eq_true, hm, hv, hv2, ha, up, Int.reduceAdd, Int.reduceSub, Int.reduceMul, Int.reduceNeg, Int.reduceEq, Int.reduceLT, Int.reduceLE, reduceIte, if_true, if_false, eq_self, ite_true, ite_false]; omega
        · skip
          by_cases ha : n = σ 30
          · skip
            refine ⟨?_, ?_, ?_, ?_, ?_, JR_c hJR (fun j hj => ?_), ?_⟩
            · simp only [J0, JS, JP, JA, sb0, te0, sa0, preM, bI, h1, not_true_eq_false, not_false_eq_true, hm, hv, hv2, ha, up, Int.reduceAdd, Int.reduceSub, Int.reduceMul, Int.reduceNeg, Int.reduceEq, Int.reduceLT, Int.reduceLE, reduceIte, if_true, if_false, eq_self, ite_true, ite_false]; and_intros <;> first | omega | simp
            · simp only [J0, JS, JP, JA, sb0, te0, sa0, preM, bI, h1, not_true_eq_false, not_false_eq_true, hm, hv, hv2, ha, up, Int.reduceAdd, Int.reduceSub, Int.reduceMul, Int.reduceNeg, Int.reduceEq, Int.reduceLT, Int.reduceLE, reduceIte, if_true, if_false, eq_self, ite_true, ite_false]; and_intros <;> first | omega | simp
            · simp only [J0, JS, JP, JA, sb0, te0, sa0, preM, bI, h1, not_true_eq_false, not_false_eq_true, hm, hv, hv2, ha, up, Int.reduceAdd, Int.reduceSub, Int.reduceMul, Int.reduceNeg, Int.reduceEq, Int.reduceLT, Int.reduceLE, reduceIte, if_true, if_false, eq_self, ite_true, ite_false]; and_intros <;> first | omega | simp
            · simp only [J0, JS, JP, JA, sb0, te0, sa0, preM, bI, h1, not_true_eq_false, not_false_eq_true, hm, hv, hv2, ha, up, Int.reduceAdd, Int.reduceSub, Int.reduceMul, Int.reduceNeg, Int.reduceEq, Int.reduceLT, Int.reduceLE, reduceIte, if_true, if_false, eq_self, ite_true, ite_false]; and_intros <;> first | omega | simp
            · simp only [J0, JS, JP, JA, sb0, te0, sa0, preM, bI, h1, not_true_eq_false, not_false_eq_true, hm, hv, hv2, ha, up, Int.reduceAdd, Int.reduceSub, Int.reduceMul, Int.reduceNeg, Int.reduceEq, Int.reduceLT, Int.reduceLE, reduceIte, if_true, if_false, eq_self, ite_true, ite_false]; and_intros <;> first | omega | simp
            · rw [show te0 (sa0 n (preM l b e σ)) = _ from if_neg hm]; simp only [sb0, sa0, preM]; repeat rw [up_n (by omega)]
            · simp only [J0, JS, JP, JA, sb0, te0, sa0, preM, bI, h1, not_true_eq_false, not_false_eq_true, hm, hv, hv2, ha, up, Int.reduceAdd, Int.reduceSub, Int.reduceMul, Int.reduceNeg, Int.reduceEq, Int.reduceLT, Int.reduceLE, reduceIte, if_true, if_false, eq_self, ite_true, ite_false]; omega
          · skip
            refine ⟨?_, ?_, ?_, ?_, ?_, JR_c hJR (fun j hj => ?_), ?_⟩
            · simp only [J0, JS, JP, JA, sb0, te0, sa0, preM, bI, h1, not_true_eq_false, not_false_eq_true, hm, hv, hv2, ha, up, Int.reduceAdd, Int.reduceSub, Int.reduceMul, Int.reduceNeg, Int.reduceEq, Int.reduceLT, Int.reduceLE, reduceIte, if_true, if_false, eq_self, ite_true, ite_false]; and_intros <;> first | omega | simp
            · simp only [J0, JS, JP, JA, sb0, te0, sa0, preM, bI, h1, not_true_eq_false, not_false_eq_true, hm, hv, hv2, ha, up, Int.reduceAdd, Int.reduceSub, Int.reduceMul, Int.reduceNeg, Int.reduceEq, Int.reduceLT, Int.reduceLE, reduceIte, if_true, if_false, eq_self, ite_true, ite_false]; and_intros <;> first | omega | simp
            · simp only [J0, JS, JP, JA, sb0, te0, sa0, preM, bI, h1, not_true_eq_false, not_false_eq_true, hm, hv, hv2, ha, up, Int.reduceAdd, Int.reduceSub, Int.reduceMul, Int.reduceNeg, Int.reduceEq, Int.reduceLT, Int.reduceLE, reduceIte, if_true, if_false, eq_self, ite_true, ite_false]; and_intros <;> first | omega | simp
            · simp only [J0, JS, JP, JA, sb0, te0, sa0, preM, bI, h1, not_true_eq_false, not_false_eq_true, hm, hv, hv2, ha, up, Int.reduceAdd, Int.reduceSub, Int.reduceMul, Int.reduceNeg, Int.reduceEq, Int.reduceLT, Int.reduceLE, reduceIte, if_true, if_false, eq_self, ite_true, ite_false]; and_intros <;> first | omega | simp
            · simp only [J0, JS, JP, JA, sb0, te0, sa0, preM, bI, h1, not_true_eq_false, not_false_eq_true, hm, hv, hv2, ha, up, Int.reduceAdd, Int.reduceSub, Int.reduceMul, Int.reduceNeg, Int.reduceEq, Int.reduceLT, Int.reduceLE, reduceIte, if_true, if_false, eq_self, ite_true, ite_false]; and_intros <;> first | omega | simp
            · rw [show te0 (sa0 n (preM l b e σ)) = _ from if_neg hm]; simp only [sb0, sa0, preM]; repeat rw [up_n (by omega)]
            · simp only [J0, JS, JP, JA, sb0, te0, sa0, preM, bI, h1, not_true_eq_false, not_false_eq_true, hm, hv, hv2, ha, up, Int.reduceAdd, Int.reduceSub, Int.reduceMul, Int.reduceNeg, Int.reduceEq, Int.reduceLT, Int.reduceLE, reduceIte, if_true, if_false, eq_self, ite_true, ite_false]; omega
      · skip
        by_cases hv2 : n + 1 ≤ σ 26
        · skip
          by_cases ha : n = σ 30
          · skip
            refine ⟨?_, ?_, ?_, ?_, ?_, JR_c hJR (fun j hj => ?_), ?_⟩
            · simp only [J0, JS, JP, JA, sb0, te0, sa0, preM, bI, h1, not_true_eq_false, not_false_eq_true, hm, hv, hv2, ha, up, Int.reduceAdd, Int.reduceSub, Int.reduceMul, Int.reduceNeg, Int.reduceEq, Int.reduceLT, Int.reduceLE, reduceIte, if_true, if_false, eq_self, ite_true, ite_false]; and_intros <;> first | omega | simp
            · simp only [J0, JS, JP, JA, sb0, te0, sa0, preM, bI, h1, not_true_eq_false, not_false_eq_true, hm, hv, hv2, ha, up, Int.reduceAdd, Int.reduceSub, Int.reduceMul, Int.reduceNeg, Int.reduceEq, Int.reduceLT, Int.reduceLE, reduceIte, if_true, if_false, eq_self, ite_true, ite_false]; and_intros <;> first | omega | simp
            · simp only [J0, JS, JP, JA, sb0, te0, sa0, preM, bI, h1, not_true_eq_false, not_false_eq_true, hm, hv, hv2, ha, up, Int.reduceAdd, Int.reduceSub, Int.reduceMul, Int.reduceNeg, Int.reduceEq, Int.reduceLT, Int.reduceLE, reduceIte, if_true, if_false, eq_self, ite_true, ite_false]; and_intros <;> first | omega | simp
            · simp only [J0, JS, JP, JA, sb0, te0, sa0, preM, bI, h1, not_true_eq_false, not_false_eq_true, hm, hv, hv2, ha, up, Int.reduceAdd, Int.reduceSub, Int.reduceMul, Int.reduceNeg, Int.reduceEq, Int.reduceLT, Int.reduceLE, reduceIte, if_true, if_false, eq_self, ite_true, ite_false]; and_intros <;> first | omega | simp
            · simp only [J0, JS, JP, JA, sb0, te0, sa0, preM, bI, h1, not_true_eq_false, not_false_eq_true, hm, hv, hv2, ha, up, Int.reduceAdd, Int.reduceSub, Int.reduceMul, Int.reduceNeg, Int.reduceEq, Int.reduceLT, Int.reduceLE, reduceIte, if_true, if_false, eq_self, ite_true, ite_false]; and_intros <;> first | omega | simp
            · rw [show te0 (sa0 n (preM l b e σ)) = _ from if_neg hm]; simp only [sb0, sa0, preM]; repeat rw [up_n (by omega)]
            · simp only [J0, JS, JP, JA, sb0, te0, sa0, preM, bI, h1, not_true_eq_false, not_false_eq_true, hm, hv, hv2, ha, up, Int.reduceAdd, Int.reduceSub, Int.reduceMul, Int.reduceNeg, Int.reduceEq, Int.reduceLT, Int.reduceLE, reduceIte, if_true, if_false, eq_self, ite_true, ite_false]; omega
          · skip
            refine ⟨?_, ?_, ?_, ?_, ?_, JR_c hJR (fun j hj => ?_), ?_⟩
            · simp only [J0, JS, JP, JA, sb0, te0, sa0, preM, bI, h1, not_true_eq_false, not_false_eq_true, hm, hv, hv2, ha, up, Int.reduceAdd, Int.reduceSub, Int.reduceMul, Int.reduceNeg, Int.reduceEq, Int.reduceLT, Int.reduceLE, reduceIte, if_true, if_false, eq_self, ite_true, ite_false]; and_intros <;> first | omega | simp
            · simp only [J0, JS, JP, JA, sb0, te0, sa0, preM, bI, h1, not_true_eq_false, not_false_eq_true, hm, hv, hv2, ha, up, Int.reduceAdd, Int.reduceSub, Int.reduceMul, Int.reduceNeg, Int.reduceEq, Int.reduceLT, Int.reduceLE, reduceIte, if_true, if_false, eq_self, ite_true, ite_false]; and_intros <;> first | omega | simp
            · simp only [J0, JS, JP, JA, sb0, te0, sa0, preM, bI, h1, not_true_eq_false, not_false_eq_true, hm, hv, hv2, ha, up, Int.reduceAdd, Int.reduceSub, Int.reduceMul, Int.reduceNeg, Int.reduceEq, Int.reduceLT, Int.reduceLE, reduceIte, if_true, if_false, eq_self, ite_true, ite_false]; and_intros <;> first | omega | simp
            · simp only [J0, JS, JP, JA, sb0, te0, sa0, preM, bI, h1, not_true_eq_false, not_false_eq_true, hm, hv, hv2, ha, up, Int.reduceAdd, Int.reduceSub, Int.reduceMul, Int.reduceNeg, Int.reduceEq, Int.reduceLT, Int.reduceLE, reduceIte, if_true, if_false, eq_self, ite_true, ite_false]; and_intros <;> first | omega | simp
            · simp only [J0, JS, JP, JA, sb0, te0, sa0, preM, bI, h1, not_true_eq_false, not_false_eq_true, hm, hv, hv2, ha, up, Int.reduceAdd, Int.reduceSub, Int.reduceMul, Int.reduceNeg, Int.reduceEq, Int.reduceLT, Int.reduceLE, reduceIte, if_true, if_false, eq_self, ite_true, ite_false]; and_intros <;> first | omega | simp
            · rw [show te0 (sa0 n (preM l b e σ)) = _ from if_neg hm]; simp only [sb0, sa0, preM]; repeat rw [up_n (by omega)]
            · simp only [J0, JS, JP, JA, sb0, te0, sa0, preM, bI, h1, not_true_eq_false, not_false_eq_true, hm, hv, hv2, ha, up, Int.reduceAdd, Int.reduceSub, Int.reduceMul, Int.reduceNeg, Int.reduceEq, Int.reduceLT, Int.reduceLE, reduceIte, if_true, if_false, eq_self, ite_true, ite_false]; omega
        · skip
          by_cases ha : n = σ 30
          · skip
            refine ⟨?_, ?_, ?_, ?_, ?_, JR_c hJR (fun j hj => ?_), ?_⟩
            · simp only [J0, JS, JP, JA, sb0, te0, sa0, preM, bI, h1, not_true_eq_false, not_false_eq_true, hm, hv, hv2, ha, up, Int.reduceAdd, Int.reduceSub, Int.reduceMul, Int.reduceNeg, Int.reduceEq, Int.reduceLT, Int.reduceLE, reduceIte, if_true, if_false, eq_self, ite_true, ite_false]; and_intros <;> first | omega | simp
            · simp only [J0, JS, JP, JA, sb0, te0, sa0, preM, bI, h1, not_true_eq_false, not_false_eq_true, hm, hv, hv2, ha, up, Int.reduceAdd, Int.reduceSub, Int.reduceMul, Int.reduceNeg, Int.reduceEq, Int.reduceLT, Int.reduceLE, reduceIte, if_true, if_false, eq_self, ite_true, ite_false]; and_intros <;> first | omega | simp
            · simp only [J0, JS, JP, JA, sb0, te0, sa0, preM, bI, h1, not_true_eq_false, not_false_eq_true, hm, hv, hv2, ha, up, Int.reduceAdd, Int.reduceSub, Int.reduceMul, Int.reduceNeg, Int.reduceEq, Int.reduceLT, Int.reduceLE, reduceIte, if_true, if_false, eq_self, ite_true, ite_false]; and_intros <;> first | omega | simp
            · simp only [J0, JS, JP, JA, sb0, te0, sa0, preM, bI, h1, not_true_eq_false, not_false_eq_true, hm, hv, hv2, ha, up, Int.reduceAdd, Int.reduceSub, Int.reduceMul, Int.reduceNeg, Int.reduceEq, Int.reduceLT, Int.reduceLE, reduceIte, if_true, if_false, eq_self, ite_true, ite_false]; and_intros <;> first | omega | simp
            · simp only [J0, JS, JP, JA, sb0, te0, sa0, preM, bI, h1, not_true_eq_false, not_false_eq_true, hm, hv, hv2, ha, up, Int.reduceAdd, Int.reduceSub, Int.reduceMul, Int.reduceNeg, Int.reduceEq, Int.reduceLT, Int.reduceLE, reduceIte, if_true, if_false, eq_self, ite_true, ite_false]; and_intros <;> first | omega | simp
            · rw [show te0 (sa0 n (preM l b e σ)) = _ from if_neg hm]; simp only [sb0, sa0, preM]; repeat rw [up_n (by omega)]
            · simp only [J0, JS, JP, JA, sb0, te0, sa0, preM, bI, h1, not_true_eq_false, not_false_eq_true, hm, hv, hv2, ha, up, Int.reduceAdd, Int.reduceSub, Int.reduceMul, Int.reduceNeg, Int.reduceEq, Int.reduceLT, Int.reduceLE, reduceIte, if_true, if_false, eq_self, ite_true, ite_false]; omega
          · skip
            refine ⟨?_, ?_, ?_, ?_, ?_, JR_c hJR (fun j hj => ?_), ?_⟩
            · simp only [J0, JS, JP, JA, sb0, te0, sa0, preM, bI, h1, not_true_eq_false, not_false_eq_true, hm, hv, hv2, ha, up, Int.reduceAdd, Int.reduceSub, Int.reduceMul, Int.reduceNeg, Int.reduceEq, Int.reduceLT, Int.reduceLE, reduceIte, if_true, if_false, eq_self, ite_true, ite_false]; and_intros <;> first | omega | simp
            · simp only [J0, JS, JP, JA, sb0, te0, sa0, preM, bI, h1, not_true_eq_false, not_false_eq_true, hm, hv, hv2, ha, up, Int.reduceAdd, Int.reduceSub, Int.reduceMul, Int.reduceNeg, Int.reduceEq, Int.reduceLT, Int.reduceLE, reduceIte, if_true, if_false, eq_self, ite_true, ite_false]; and_intros <;> first | omega | simp
            · simp only [J0, JS, JP, JA, sb0, te0, sa0, preM, bI, h1, not_true_eq_false, not_false_eq_true, hm, hv, hv2, ha, up, Int.reduceAdd, Int.reduceSub, Int.reduceMul, Int.reduceNeg, Int.reduceEq, Int.reduceLT, Int.reduceLE, reduceIte, if_true, if_false, eq_self, ite_true, ite_false]; and_intros <;> first | omega | simp
            · simp only [J0, JS, JP, JA, sb0, te0, sa0, preM, bI, h1, not_true_eq_false, not_false_eq_true, hm, hv, hv2, ha, up, Int.reduceAdd, Int.reduceSub, Int.reduceMul, Int.reduceNeg, Int.reduceEq, Int.reduceLT, Int.reduceLE, reduceIte, if_true, if_false, eq_self, ite_true, ite_false]; and_intros <;> first | omega | simp
            · simp only [J0, JS, JP, JA, sb0, te0, sa0, preM, bI, h1, not_true_eq_false, not_false_eq_true, hm, hv, hv2, ha, up, Int.reduceAdd, Int.reduceSub, Int.reduceMul, Int.reduceNeg, Int.reduceEq, Int.reduceLT, Int.reduceLE, reduceIte, if_true, if_false, eq_self, ite_true, ite_false]; and_intros <;> first | omega | simp
            · rw [show te0 (sa0 n (preM l b e σ)) = _ from if_neg hm]; simp only [sb0, sa0, preM]; repeat rw [up_n (by omega)]
            · simp only [J0, JS, JP, JA, sb0, te0, sa0, preM, bI, h1, not_true_eq_false, not_false_eq_true, hm, hv, hv2, ha, up, Int.reduceAdd, Int.reduceSub, Int.reduceMul, Int.reduceNeg, Int.reduceEq, Int.reduceLT, Int.reduceLE, reduceIte, if_true, if_false, eq_self, ite_true, ite_false]; omega
  · rw [if_neg hz]
    by_cases hv : n < σ 26
    · skip
      by_cases hv2 : n + 1 ≤ σ 26
      · skip
        refine ⟨?_, ?_, ?_, ?_, ?_, JR_c hJR (fun j hj => ?_), ?_⟩
        · simp only [J0, JS, JP, JA, sa0, preM, bI, h1, hv, hv2, up, Int.reduceAdd, Int.reduceSub, Int.reduceMul, Int.reduceNeg, Int.reduceEq, Int.reduceLT, Int.reduceLE, reduceIte, if_true, if_false, eq_self, ite_true, ite_false]; and_intros <;> first | omega | simp
        · simp only [J0, JS, JP, JA, sa0, preM, bI, h1, hv, hv2, up, Int.reduceAdd, Int.reduceSub, Int.reduceMul, Int.reduceNeg, Int.reduceEq, Int.reduceLT, Int.reduceLE, reduceIte, if_true, if_false, eq_self, ite_true, ite_false]; and_intros <;> first | omega | simp
        · simp only [J0, JS, JP, JA, sa0, preM, bI, h1, hv, hv2, up, Int.reduceAdd, Int.reduceSub, Int.reduceMul, Int.reduceNeg, Int.reduceEq, Int.reduceLT, Int.reduceLE, reduceIte, if_true, if_false, eq_self, ite_true, ite_false]; and_intros <;> first | omega | simp
        · simp only [J0, JS, JP, JA, sa0, preM, bI, h1, hv, hv2, up, Int.reduceAdd, Int.reduceSub, Int.reduceMul, Int.reduceNeg, Int.reduceEq, Int.reduceLT, Int.reduceLE, reduceIte, if_true, if_false, eq_self, ite_true, ite_false]; and_intros <;> first | omega | simp
        · simp only [J0, JS, JP, JA, sa0, preM, bI, h1, hv, hv2, up, Int.reduceAdd, Int.reduceSub, Int.reduceMul, Int.reduceNeg, Int.reduceEq, Int.reduceLT, Int.reduceLE, reduceIte, if_true, if_false, eq_self, ite_true, ite_false]; and_intros <;> first | omega | simp
        · simp only [sa0, preM]; repeat rw [up_n (by omega)]
        · simp only [J0, JS, JP, JA, sa0, preM, bI, h1, hv, hv2, up, Int.reduceAdd, Int.reduceSub, Int.reduceMul, Int.reduceNeg, Int.reduceEq, Int.reduceLT, Int.reduceLE, reduceIte, if_true, if_false, eq_self, ite_true, ite_false]; omega
      · skip
        refine ⟨?_, ?_, ?_, ?_, ?_, JR_c hJR (fun j hj => ?_), ?_⟩
        · simp only [J0, JS, JP, JA, sa0, preM, bI, h1, hv, hv2, up, Int.reduceAdd, Int.reduceSub, Int.reduceMul, Int.reduceNeg, Int.reduceEq, Int.reduceLT, Int.reduceLE, reduceIte, if_true, if_false, eq_self, ite_true, ite_false]; and_intros <;> first | omega | simp
        · simp only [J0, JS, JP, JA, sa0, preM, bI, h1, hv, hv2, up, Int.reduceAdd, Int.reduceSub, Int.reduceMul, Int.reduceNeg, Int.reduceEq, Int.reduceLT, Int.reduceLE, reduceIte, if_true, if_false, eq_self, ite_true, ite_false]; and_intros <;> first | omega | simp
        · simp only [J0, JS, JP, JA, sa0, preM, bI, h1, hv, hv2, up, Int.reduceAdd, Int.reduceSub, Int.reduceMul, Int.reduceNeg, Int.reduceEq, Int.reduceLT, Int.reduceLE, reduceIte, if_true, if_false, eq_self, ite_true, ite_false]; and_intros <;> first | omega | simp
        · simp only [J0, JS, JP, JA, sa0, preM, bI, h1, hv, hv2, up, Int.reduceAdd, Int.reduceSub, Int.reduceMul, Int.reduceNeg, Int.reduceEq, Int.reduceLT, Int.reduceLE, reduceIte, if_true, if_false, eq_self, ite_true, ite_false]; and_intros <;> first | omega | simp
        · simp only [J0, JS, JP, JA, sa0, preM, bI, h1, hv, hv2, up, Int.reduceAdd, Int.reduceSub, Int.reduceMul, Int.reduceNeg, Int.reduceEq, Int.reduceLT, Int.reduceLE, reduceIte, if_true, if_false, eq_self, ite_true, ite_false]; and_intros <;> first | omega | simp
        · simp only [sa0, preM]; repeat rw [up_n (by omega)]
        · simp only [J0, JS, JP, JA, sa0, preM, bI, h1, hv, hv2, up, Int.reduceAdd, Int.reduceSub, Int.reduceMul, Int.reduceNeg, Int.reduceEq, Int.reduceLT, Int.reduceLE, reduceIte, if_true, if_false, eq_self, ite_true, ite_false]; omega
    · skip
      by_cases hv2 : n + 1 ≤ σ 26
      · skip
        refine ⟨?_, ?_, ?_, ?_, ?_, JR_c hJR (fun j hj => ?_), ?_⟩
        · simp only [J0, JS, JP, JA, sa0, preM, bI, h1, hv, hv2, up, Int.reduceAdd, Int.reduceSub, Int.reduceMul, Int.reduceNeg, Int.reduceEq, Int.reduceLT, Int.reduceLE, reduceIte, if_true, if_false, eq_self, ite_true, ite_false]; and_intros <;> first | omega | simp
        · simp only [J0, JS, JP, JA, sa0, preM, bI, h1, hv, hv2, up, Int.reduceAdd, Int.reduceSub, Int.reduceMul, Int.reduceNeg, Int.reduceEq, Int.reduceLT, Int.reduceLE, reduceIte, if_true, if_false, eq_self, ite_true, ite_false]; and_intros <;> first | omega | simp
        · simp only [J0, JS, JP, JA, sa0, preM, bI, h1, hv, hv2, up, Int.reduceAdd, Int.reduceSub, Int.reduceMul, Int.reduceNeg, Int.reduceEq, Int.reduceLT, Int.reduceLE, reduceIte, if_true, if_false, eq_self, ite_true, ite_false]; and_intros <;> first | omega | simp
        · simp only [J0, JS, JP, JA, sa0, preM, bI, h1, hv, hv2, up, Int.reduceAdd, Int.reduceSub, Int.reduceMul, Int.reduceNeg, Int.reduceEq, Int.reduceLT, Int.reduceLE, reduceIte, if_true, if_false, eq_self, ite_true, ite_false]; and_intros <;> first | omega | simp
        · simp only [J0, JS, JP, JA, sa0, preM, bI, h1, hv, hv2, up, Int.reduceAdd, Int.reduceSub, Int.reduceMul, Int.reduceNeg, Int.reduceEq, Int.reduceLT, Int.reduceLE, reduceIte, if_true, if_false, eq_self, ite_true, ite_false]; and_intros <;> first | omega | simp
        · simp only [sa0, preM]; repeat rw [up_n (by omega)]
        · simp only [J0, JS, JP, JA, sa0, preM, bI, h1, hv, hv2, up, Int.reduceAdd, Int.reduceSub, Int.reduceMul, Int.reduceNeg, Int.reduceEq, Int.reduceLT, Int.reduceLE, reduceIte, if_true, if_false, eq_self, ite_true, ite_false]; omega
      · skip
        refine ⟨?_, ?_, ?_, ?_, ?_, JR_c hJR (fun j hj => ?_), ?_⟩
        · simp only [J0, JS, JP, JA, sa0, preM, bI, h1, hv, hv2, up, Int.reduceAdd, Int.reduceSub, Int.reduceMul, Int.reduceNeg, Int.reduceEq, Int.reduceLT, Int.reduceLE, reduceIte, if_true, if_false, eq_self, ite_true, ite_false]; and_intros <;> first | omega | simp
        · simp only [J0, JS, JP, JA, sa0, preM, bI, h1, hv, hv2, up, Int.reduceAdd, Int.reduceSub, Int.reduceMul, Int.reduceNeg, Int.reduceEq, Int.reduceLT, Int.reduceLE, reduceIte, if_true, if_false, eq_self, ite_true, ite_false]; and_intros <;> first | omega | simp
        · simp only [J0, JS, JP, JA, sa0, preM, bI, h1, hv, hv2, up, Int.reduceAdd, Int.reduceSub, Int.reduceMul, Int.reduceNeg, Int.reduceEq, Int.reduceLT, Int.reduceLE, reduceIte, if_true, if_false, eq_self, ite_true, ite_false]; and_intros <;> first | omega | simp
        · simp only [J0, JS, JP, JA, sa0, preM, bI, h1, hv, hv2, up, Int.reduceAdd, Int.reduceSub, Int.reduceMul, Int.reduceNeg, Int.reduceEq, Int.reduceLT, Int.reduceLE, reduceIte, if_true, if_false, eq_self, ite_true, ite_false]; and_intros <;> first | omega | simp
        · simp only [J0, JS, JP, JA, sa0, preM, bI, h1, hv, hv2, up, Int.reduceAdd, Int.reduceSub, Int.reduceMul, Int.reduceNeg, Int.reduceEq, Int.reduceLT, Int.reduceLE, reduceIte, if_true, if_false, eq_self, ite_true, ite_false]; and_intros <;> first | omega | simp
        · simp only [sa0, preM]; repeat rw [up_n (by omega)]
        · simp only [J0, JS, JP, JA, sa0, preM, bI, h1, hv, hv2, up, Int.reduceAdd, Int.reduceSub, Int.reduceMul, Int.reduceNeg, Int.reduceEq, Int.reduceLT, Int.reduceLE, reduceIte, if_true, if_false, eq_self, ite_true, ite_false]; omega
set_option maxHeartbeats 4000000 in
theorem J_d1 {σ : Int → Int} {z l b e : Int} (h : J σ) (h1 : σ 1 = 1) (h2 : σ 2 < σ 4) (h3 : σ 35 + σ 2 < σ 29) (hl : 0 ≤ l ∧ l ≤ 1) (hb : 0 ≤ b ∧ b ≤ 32) (he : 0 ≤ e ∧ e ≤ 15) : J (sdF 1 z (preM l b e σ)) := by
  obtain ⟨hJ0, hJS, hJU, hJP, hJA, hJR, hJ3⟩ := h
  simp only [J0, JS, JA, Int.reduceAdd] at hJ0 hJS hJU hJA
  rw [JP, if_neg (by omega)] at hJP
  rw [sdF_1 (show preM l b e σ 1 = 1 from h1), show preM l b e σ 35 + preM l b e σ 2 = σ 35 + σ 2 from rfl]
  generalize hn : σ 35 + σ 2 = n at h3
  by_cases hz : z = 0
  · rw [if_pos hz]
    by_cases hm : 0 < σ 34 - σ 28
    · skip
      by_cases hv : n < σ 37
      · skip
        by_cases hv2 : n + 1 ≤ σ 37
        · skip
          by_cases ha : n = σ 19
          · skip
            refine ⟨?_, ?_, ?_, ?_, ?_, JR_c hJR (fun j hj => ?_), ?_⟩
            · simp only [J0, JS, JP, JA, sb1, te1, sa1, preM, bI, h1, not_true_eq_false, not_false_eq_true, hm, hv, hv2, ha, up, Int.reduceAdd, Int.reduceSub, Int.reduceMul, Int.reduceNeg, Int.reduceEq, Int.reduceLT, Int.reduceLE, reduceIte, if_true, if_false, eq_self, ite_true, ite_false]; and_intros <;> first | omega | simp
            · simp only [J0, JS, JP, JA, sb1, te1, sa1, preM, bI, h1, not_true_eq_false, not_false_eq_true, hm, hv, hv2, ha, up, Int.reduceAdd, Int.reduceSub, Int.reduceMul, Int.reduceNeg, Int.reduceEq, Int.reduceLT, Int.reduceLE, reduceIte, if_true, if_false, eq_self, ite_true, ite_false]; and_intros <;> first | omega | simp
            · simp only [J0, JS, JP, JA, sb1, te1, sa1, preM, bI, h1, not_true_eq_false, not_false_eq_true, hm, hv, hv2, ha, up, Int.reduceAdd, Int.reduceSub, Int.reduceMul, Int.reduceNeg, Int.reduceEq, Int.reduceLT, Int.reduceLE, reduceIte, if_true, if_false, eq_self, ite_true, ite_false]; and_intros <;> first | omega | simp
            · simp only [J0, JS, JP, JA, sb1, te1, sa1, preM, bI, h1, not_true_eq_false, not_false_eq_true, hm, hv, hv2, ha, up, Int.reduceAdd, Int.reduceSub, Int.reduceMul, Int.reduceNeg, Int.reduceEq, Int.reduceLT, Int.reduceLE, reduceIte, if_true, if_false, eq_self, ite_true, ite_false]; and_intros <;> first | omega | simp
            · simp only [J0, JS, JP, JA, sb1, te1, sa1, preM, bI, h1, not_true_eq_false, not_false_eq_true, hm, hv, hv2, ha, up, Int.reduceAdd, Int.reduceSub, Int.reduceMul, Int.reduceNeg, Int.reduceEq, Int.reduceLT, Int.reduceLE, reduceIte, if_true, if_false, eq_self, ite_true, ite_false]; and_intros <;> first | omega | simp
            · rw [show te1 (sa1 n (preM l b e σ)) = _ from if_pos hm]; simp only [sb1, sa1, preM]; repeat rw [up_n (by omega)]
            · simp only [J0, JS, JP, JA, sb1, te1, sa1, preM, bI, h1, not_true_eq_false, not_false_eq_true, hm, hv, hv2, ha, up, Int.reduceAdd, Int.reduceSub, Int.reduceMul, Int.reduceNeg, Int.reduceEq, Int.reduceLT, Int.reduceLE, reduceIte, if_true, if_false, eq_self, ite_true, ite_false]; omega
          · skip
            refine ⟨?_, ?_, ?_, ?_, ?_, JR_c hJR (fun j hj => ?_), ?_⟩
            · simp only [J0, JS, JP, JA, sb1, te1, sa1, preM, bI, h1, not_true_eq_false, not_false_eq_true, hm, hv, hv2, ha, up, Int.reduceAdd, Int.reduceSub, Int.reduceMul, Int.reduceNeg, Int.reduceEq, Int.reduceLT, Int.reduceLE, reduceIte, if_true, if_false, eq_self, ite_true, ite_false]; and_intros <;> first | omega | simp
            · simp only [J0, JS, JP, JA, sb1, te1, sa1, preM, bI, h1, not_true_eq_false, not_false_eq_true, hm, hv, hv2, ha, up, Int.reduceAdd, Int.reduceSub, Int.reduceMul, Int.reduceNeg, Int.reduceEq, Int.reduceLT, Int.reduceLE, reduceIte, if_true, if_false, eq_self, ite_true, ite_false]; and_intros <;> first | omega | simp
            · simp only [J0, JS, JP, JA, sb1, te1, sa1, preM, bI, h1, not_true_eq_false, not_false_eq_true, hm, hv, hv2, ha, up, Int.reduceAdd, Int.reduceSub, Int.reduceMul, Int.reduceNeg, Int.reduceEq, Int.reduceLT, Int.reduceLE, reduceIte, if_true, if_false, eq_self, ite_true, ite_false]; and_intros <;> first | omega | simp
            · simp only [J0, JS, JP, JA, sb1, te1, sa1, preM, bI, h1, not_true_eq_false, not_false_eq_true, hm, hv, hv2, ha, up, Int.reduceAdd, Int.reduceSub, Int.reduceMul, Int.reduceNeg, Int.reduceEq, Int.reduceLT, Int.reduceLE, reduceIte, if_true, if_false, eq_self, ite_true, ite_false]; and_intros <;> first | omega | simp
            · simp only [J0, JS, JP, JA, sb1, te1, sa1, preM, bI, h1, not_true_eq_false, not_false_eq_true, hm, hv, hv2, ha, up, Int.reduceAdd, Int.reduceSub, Int.reduceMul, Int.reduceNeg, Int.reduceEq, Int.reduceLT, Int.reduceLE, reduceIte, if_true, if_false, eq_self, ite_true, ite_false]; and_intros <;> first | omega | simp
            · rw [show te1 (sa1 n (preM l b e σ)) = _ from if_pos hm]; simp only [sb1, sa1, preM]; repeat rw [up_n (by omega)]
            · simp only [J0, JS, JP, JA, sb1, te1, sa1, preM, bI, h1, not_true_eq_false, not_false_eq_true, hm, hv, hv2, ha, up, Int.reduceAdd, Int.reduceSub, Int.reduceMul, Int.reduceNeg, Int.reduceEq, Int.reduceLT, Int.reduceLE, reduceIte, if_true, if_false, eq_self, ite_true, ite_false]; omega
        · skip
          by_cases ha : n = σ 19
          · skip
            refine ⟨?_, ?_, ?_, ?_, ?_, JR_c hJR (fun j hj => ?_), ?_⟩
            · simp only [J0, JS, JP, JA, sb1, te1, sa1, preM, bI, h1, not_true_eq_false, not_false_eq_true, hm, hv, hv2, ha, up, Int.reduceAdd, Int.reduceSub, Int.reduceMul, Int.reduceNeg, Int.reduceEq, Int.reduceLT, Int.reduceLE, reduceIte, if_true, if_false, eq_self, ite_true, ite_false]; and_intros <;> first | omega | simp
            · simp only [J0, JS, JP, JA, sb1, te1, sa1, preM, bI, h1, not_true_eq_false, not_false_eq_true, hm, hv, hv2, ha, up, Int.reduceAdd, Int.reduceSub, Int.reduceMul, Int.reduceNeg, Int.reduceEq, Int.reduceLT, Int.reduceLE, reduceIte, if_true, if_false, eq_self, ite_true, ite_false]; and_intros <;> first | omega | simp
            · simp only [J0, JS, JP, JA, sb1, te1, sa1, preM, bI, h1, not_true_eq_false, not_false_eq_true, hm, hv, hv2, ha, up, Int.reduceAdd, Int.reduceSub, Int.reduceMul, Int.reduceNeg, Int.reduceEq, Int.reduceLT, Int.reduceLE, reduceIte, if_true, if_false, eq_self, ite_true, ite_false]; and_intros <;> first | omega | simp
            · simp only [J0, JS, JP, JA, sb1, te1, sa1, preM, bI, h1, not_true_eq_false, not_false_eq_true, hm, hv, hv2, ha, up, Int.reduceAdd, Int.reduceSub, Int.reduceMul, Int.reduceNeg, Int.reduceEq, Int.reduceLT, Int.reduceLE, reduceIte, if_true, if_false, eq_self, ite_true, ite_false]; and_intros <;> first | omega | simp
            · simp only [J0, JS, JP, JA, sb1, te1, sa1, preM, bI, h1, not_true_eq_false, not_false_eq_true, hm, hv, hv2, ha, up, Int.reduceAdd, Int.reduceSub, Int.reduceMul, Int.reduceNeg, Int.reduceEq, Int.reduceLT, Int.reduceLE, reduceIte, if_true, if_false, eq_self, ite_true, ite_false]; and_intros <;> first | omega | simp
            · rw [show te1 (sa1 n (preM l b e σ)) = _ from if_pos hm]; simp only [sb1, sa1, preM]; repeat rw [up_n (by omega)]
            · simp only [J0, JS, JP, JA, sb1, te1, sa1, preM, bI, h1, not_true_eq_false, not_false_eq_true, hm, hv, hv2, ha, up, Int.reduceAdd, Int.reduceSub, Int.reduceMul, Int.reduceNeg, Int.reduceEq, Int.reduceLT, Int.reduceLE, reduceIte, if_true, if_false, eq_self, ite_true, ite_false]; omega
          · skip
            refine ⟨?_, ?_, ?_, ?_, ?_, JR_c hJR (fun j hj => ?_), ?_⟩
            · simp only [J0, JS, JP, JA, sb1, te1, sa1, preM, bI, h1, not_true_eq_false, not_false_eq_true, hm, hv, hv2, ha, up, Int.reduceAdd, Int.reduceSub, Int.reduceMul, Int.reduceNeg, Int.reduceEq, Int.reduceLT, Int.reduceLE, reduceIte, if_true, if_false, eq_self, ite_true, ite_false]; and_intros <;> first | omega | simp
            · simp only [J0, JS, JP, JA, sb1, te1, sa1, preM, bI, h1, not_true_eq_false, not_false_eq_true, hm, hv, hv2, ha, up, Int.reduceAdd, Int.reduceSub, Int.reduceMul, Int.reduceNeg, Int.reduceEq, Int.reduceLT, Int.reduceLE, reduceIte, if_true, if_false, eq_self, ite_true, ite_false]; and_intros <;> first | omega | simp
            · simp only [J0, JS, JP, JA, sb1, te1, sa1, preM, bI, h1, not_true_eq_false, not_false_eq_true, hm, hv, hv2, ha, up, Int.reduceAdd, Int.reduceSub, Int.reduceMul, Int.reduceNeg, Int.reduceEq, Int.reduceLT, Int.reduceLE, reduceIte, if_true, if_false, eq_self, ite_true, ite_false]; and_intros <;> first | omega | simp
            · simp only [J0, JS, JP, JA, sb1, te1, sa1, preM, bI, h1, not_true_eq_false, not_false_eq_true, hm, hv, hv2, ha, up, Int.reduceAdd, Int.reduceSub, Int.reduceMul, Int.reduceNeg, Int.reduceEq, Int.reduceLT, Int.reduceLE, reduceIte, if_true, if_false, eq_self, ite_true, ite_false]; and_intros <;> first | omega | simp
            · simp only [J0, JS, JP, JA, sb1, te1, sa1, preM, bI, h1, not_true_eq_false, not_false_eq_true, hm, hv, hv2, ha, up, Int.reduceAdd, Int.reduceSub, Int.reduceMul, Int.reduceNeg, Int.reduceEq, Int.reduceLT, Int.reduceLE, reduceIte, if_true, if_false, eq_self, ite_true, ite_false]; and_intros <;> first | omega | simp
            · rw [show te1 (sa1 n (preM l b e σ)) = _ from if_pos hm]; simp only [sb1, sa1, preM]; repeat rw [up_n (by omega)]
            · simp only [J0, JS, JP, JA, sb1, te1, sa1, preM, bI, h1, not_true_eq_false, not_false_eq_true, hm, hv, hv2, ha, up, Int.reduceAdd, Int.reduceSub, Int.reduceMul, Int.reduceNeg, Int.reduceEq, Int.reduceLT, Int.reduceLE, reduceIte, if_true, if_false, eq_self, ite_true, ite_false]; omega
      · skip
        by_cases hv2 : n + 1 ≤ σ 37
        · skip
          by_cases ha : n = σ 19
          · skip
            refine ⟨?_, ?_, ?_, ?_, ?_, JR_c hJR (fun j hj => ?_), ?_⟩
            · simp only [J0, JS, JP, JA, sb1, te1, sa1, preM, bI, h1, not_true_eq_false, not_false_eq_true, hm, hv, hv2, ha, up, Int.reduceAdd, Int.reduceSub, Int.reduceMul, Int.reduceNeg, Int.reduceEq, Int.reduceLT, Int.reduceLE, reduceIte, if_true, if_false, eq_self, ite_true, ite_false]; and_intros <;> first | omega | simp
            · simp only [J0, JS, JP, JA, sb1, te1, sa1, preM, bI, h1, not_true_eq_false, not_false_eq_true, hm, hv, hv2, ha, up, Int.reduceAdd, Int.reduceSub, Int.reduceMul, Int.reduceNeg, Int.reduceEq, Int.reduceLT, Int.reduceLE, reduceIte, if_true, if_false, eq_self, ite_true, ite_false]; and_intros <;> first | omega | simp
            · simp only [J0, JS, JP, JA, sb1, te1, sa1, preM, bI, h1, not_true_eq_false, not_false_eq_true, hm, hv, hv2, ha, up, Int.reduceAdd, Int.reduceSub, Int.reduceMul, Int.reduceNeg, Int.reduceEq, Int.reduceLT, Int.reduceLE, reduceIte, if_true, if_false, eq_self, ite_true, ite_false]; and_intros <;> first | omega | simp
            · simp only [J0, JS, JP, JA, sb1, te1, sa1, preM, bI, h1, not_true_eq_false, not_false_eq_true, hm, hv, hv2, ha, up, Int.reduceAdd, Int.reduceSub, Int.reduceMul, Int.reduceNeg, Int.reduceEq, Int.reduceLT, Int.reduceLE, reduceIte, if_true, if_false, eq_self, ite_true, ite_false]; and_intros <;> first | omega | simp
            · simp only [J0, JS, JP, JA, sb1, te1, sa1, preM, bI, h1, not_true_eq_false, not_false_eq_true, hm, hv, hv2, ha, up, Int.reduceAdd, Int.reduceSub, Int.reduceMul, Int.reduceNeg, Int.reduceEq, Int.reduceLT, Int.reduceLE, reduceIte, if_true, if_false, eq_self, ite_true, ite_false]; and_intros <;> first | omega | simp
            · rw [show te1 (sa1 n (preM l b e σ)) = _ from if_pos hm]; simp only [sb1, sa1, preM]; repeat rw [up_n (by omega)]
            · simp only [J0, JS, JP, JA, sb1, te1, sa1, preM, bI, h1, not_true_eq_false, not_false_eq_true, hm, hv, hv2, ha, up, Int.reduceAdd, Int.reduceSub, Int.reduceMul, Int.reduceNeg, Int.reduceEq, Int.reduceLT, Int.reduceLE, reduceIte, if_true, if_false, eq_self, ite_true, ite_false]; omega
          · skip
            refine ⟨?_, ?_, ?_, ?_, ?_, JR_c hJR (fun j hj => ?_), ?_⟩
            · simp only [J0, JS, JP, JA, sb1, te1, sa1, preM, bI, h1, not_true_eq_false, not_false_eq_true, hm, hv, hv2, ha, up, Int.reduceAdd, Int.reduceSub, Int.reduceMul, Int.reduceNeg, Int.reduceEq, Int.reduceLT, Int.reduceLE, reduceIte, if_true, if_false, eq_self, ite_true, ite_false]; and_intros <;> first | omega | simp
            · simp only [J0, JS, JP, JA, sb1, te1, sa1, preM, bI, h1, not_true_eq_false, not_false_eq_true, hm, hv, hv2, ha, up, Int.reduceAdd, Int.reduceSub, Int.reduceMul, Int.reduceNeg, Int.reduceEq, Int.reduceLT, Int.reduceLE, reduceIte, if_true, if_false, eq_self, ite_true, ite_false]; and_intros <;> first | omega | simp
            · simp only [J0, JS, JP, JA, sb1, te1, sa1, preM, bI, h1, not_true_eq_false, not_false_eq_true, hm, hv, hv2, ha, up, Int.reduceAdd, Int.reduceSub, Int.reduceMul, Int.reduceNeg, Int.reduceEq, Int.reduceLT, Int.reduceLE, reduceIte, if_true, if_false, eq_self, ite_true, ite_false]; and_intros <;> first | omega | simp
            · simp only [J0, JS, JP, JA, sb1, te1, sa1, preM, bI, h1, not_true_eq_false, not_false_eq_true, hm, hv, hv2, ha, up, Int.reduceAdd, Int.reduceSub, Int.reduceMul, Int.reduceNeg, Int.reduceEq, Int.reduceLT, Int.reduceLE, reduceIte, if_true, if_false, eq_self, ite_true, ite_false]; and_intros <;> first | omega | simp
            · simp only [J0, JS, JP, JA, sb1, te1, sa1, preM, bI, h1, not_true_eq_false, not_false_eq_true, hm, hv, hv2, ha, up, Int.reduceAdd, Int.reduceSub, Int.reduceMul, Int.reduceNeg, Int.reduceEq, Int.reduceLT, Int.reduceLE, reduceIte, if_true, if_false, eq_self, ite_true, ite_false]; and_intros <;> first | omega | simp
            · rw [show te1 (sa1 n (preM l b e σ)) = _ from if_pos hm]; simp only [sb1, sa1, preM]; repeat rw [up_n (by omega)]
            · simp only [J0, JS, JP, JA, sb1, te1, sa1, preM, bI, h1, not_true_eq_false, not_false_eq_true, hm, hv, hv2, ha, up, Int.reduceAdd, Int.reduceSub, Int.reduceMul, Int.reduceNeg, Int.reduceEq, Int.reduceLT, Int.reduceLE, reduceIte, if_true, if_false, eq_self, ite_true, ite_false]; omega
        · skip
          by_cases ha : n = σ 19
          · skip
            refine ⟨?_, ?_, ?_, ?_, ?_, JR_c hJR (fun j hj => ?_), ?_⟩
            · simp only [J0, JS, JP, JA, sb1, te1, sa1, preM, bI, h1, not_true_eq_false, not_false_eq_true, hm, hv, hv2, ha, up, Int.reduceAdd, Int.reduceSub, Int.reduceMul, Int.reduceNeg, Int.reduceEq, Int.reduceLT, Int.reduceLE, reduceIte, if_true, if_false, eq_self, ite_true, ite_false]; and_intros <;> first | omega | simp
            · simp only [J0, JS, JP, JA, sb1, te1, sa1, preM, bI, h1, not_true_eq_false, not_false_eq_true, hm, hv, hv2, ha, up, Int.reduceAdd, Int.reduceSub, Int.reduceMul, Int.reduceNeg, Int.reduceEq, Int.reduceLT, Int.reduceLE, reduceIte, if_true, if_false, eq_self, ite_true, ite_false]; and_intros <;> first | omega | simp
            · simp only [J0, JS, JP, JA, sb1, te1, sa1, preM, bI, h1, not_true_eq_false, not_false_eq_true, hm, hv, hv2, ha, up, Int.reduceAdd, Int.reduceSub, Int.reduceMul, Int.reduceNeg, Int.reduceEq, Int.reduceLT, Int.reduceLE, reduceIte, if_true, if_false, eq_self, ite_true, ite_false]; and_intros <;> first | omega | simp
            · simp only [J0, JS, JP, JA, sb1, te1, sa1, preM, bI, h1, not_true_eq_false, not_false_eq_true, hm, hv, hv2, ha, up, Int.reduceAdd, Int.reduceSub, Int.reduceMul, Int.reduceNeg, Int.reduceEq, Int.reduceLT, Int.reduceLE, reduceIte, if_true, if_false, eq_self, ite_true, ite_false]; and_intros <;> first | omega | simp
            · simp only [J0, JS, JP, JA, sb1, te1, sa1, preM, bI, h1, not_true_eq_false, not_false_eq_true, hm, hv, hv2, ha, up, Int.reduceAdd, Int.reduceSub, Int.reduceMul, Int.reduceNeg, Int.reduceEq, Int.reduceLT, Int.reduceLE, reduceIte, if_true, if_false, eq_self, ite_true, ite_false]; and_intros <;> first | omega | simp
            · rw [show te1 (sa1 n (preM l b e σ)) = _ from if_pos hm]; simp only [sb1, sa1, preM]; repeat rw [up_n (by omega)]
            · simp only [J0, JS, JP, JA, sb1, te1, sa1, preM, bI, h1, not_true_eq_false, not_false_eq_true, hm, hv, hv2, ha, up, Int.reduceAdd, Int.reduceSub, Int.reduceMul, Int.reduceNeg, Int.reduceEq, Int.reduceLT, Int.reduceLE, reduceIte, if_true, if_false, eq_self, ite_true, ite_false]; omega
          · skip
            refine ⟨?_, ?_, ?_, ?_, ?_, JR_c hJR (fun j hj => ?_), ?_⟩
            · simp only [J0, JS, JP, JA, sb1, te1, sa1, preM, bI, h1, not_true_eq_false, not_false_eq_true, hm, hv, hv2, ha, up, Int.reduceAdd, Int.reduceSub, Int.reduceMul, Int.reduceNeg, Int.reduceEq, Int.reduceLT, Int.reduceLE, reduceIte, if_true, if_false, eq_self, ite_true, ite_false]; and_intros <;> first | omega | simp
            · simp only [J0, JS, JP, JA, sb1, te1, sa1, preM, bI, h1, not_true_eq_false, not_false_eq_true, hm, hv, hv2, ha, up, Int.reduceAdd, Int.reduceSub, Int.reduceMul, Int.reduceNeg, Int.reduceEq, Int.reduceLT, Int.reduceLE, reduceIte, if_true, if_false, eq_self, ite_true, ite_false]; and_intros <;> first | omega | simp
            · simp only [J0, JS, JP, JA, sb1, te1, sa1, preM, bI, h1, not_true_eq_false, not_false_eq_true, hm, hv, hv2, ha, up, Int.reduceAdd, Int.reduceSub, Int.reduceMul, Int.reduceNeg, Int.reduceEq, Int.reduceLT, Int.reduceLE, reduceIte, if_true, if_false, eq_self, ite_true, ite_false]; and_intros <;> first | omega | simp
            · simp only [J0, JS, JP, JA, sb1, te1, sa1, preM, bI, h1, not_true_eq_false, not_false_eq_true, hm, hv, hv2, ha, up, Int.reduceAdd, Int.reduceSub, Int.reduceMul, Int.reduceNeg, Int.reduceEq, Int.reduceLT, Int.reduceLE, reduceIte, if_true, if_false, eq_self, ite_true, ite_false]; and_intros <;> first | omega | simp
            · simp only [J0, JS, JP, JA, sb1, te1, sa1, preM, bI, h1, not_true_eq_false, not_false_eq_true, hm, hv, hv2, ha, up, Int.reduceAdd, Int.reduceSub, Int.reduceMul, Int.reduceNeg, Int.reduceEq, Int.reduceLT, Int.reduceLE, reduceIte, if_true, if_false, eq_self, ite_true, ite_false]; and_intros <;> first | omega | simp
            · rw [show te1 (sa1 n (preM l b e σ)) = _ from if_pos hm]; simp only [sb1, sa1, preM]; repeat rw [up_n (by omega)]
            · simp only [J0, JS, JP, JA, sb1, te1, sa1, preM, bI, h1, not_true_eq_false, not_false_eq_true, hm, hv, hv2, ha, up, Int.reduceAdd, Int.reduceSub, Int.reduceMul, Int.reduceNeg, Int.reduceEq, Int.reduceLT, Int.reduceLE, reduceIte, if_true, if_false, eq_self, ite_true, ite_false]; omega
    · skip
      by_cases hv : n < σ 37
      · skip
        by_cases hv2 : n + 1 ≤ σ 37
        · skip
          by_cases ha : n = σ 19
          · skip
            refine ⟨?_, ?_, ?_, ?_, ?_, JR_c hJR (fun j hj => ?_), ?_⟩
            · simp only [J0, JS, JP, JA, sb1, te1, sa1, preM, bI, h1, not_true_eq_false, not_false_eq_true, hm, hv, hv2, ha, up, Int.reduceAdd, Int.reduceSub, Int.reduceMul, Int.reduceNeg, Int.reduceEq, Int.reduceLT, Int.reduceLE, reduceIte, if_true, if_false, eq_self, ite_true, ite_false]; and_intros <;> first | omega | simp
            · simp only [J0, JS, JP, JA, sb1, te1, sa1, preM, bI, h1, not_true_eq_false, not_false_eq_true, hm, hv, hv2, ha, up, Int.reduceAdd, Int.reduceSub, Int.reduceMul, Int.reduceNeg, Int.reduceEq, Int.reduceLT, Int.reduceLE, reduceIte, if_true, if_false, eq_self, ite_true, ite_false]; and_intros <;> first | omega | simp
            · simp only [J0, JS, JP, JA, sb1, te1, sa1, preM, bI, h1, not_true_eq_false, not_false_eq_true, hm, hv, hv2, ha, up, Int.reduceAdd, Int.reduceSub, Int.reduceMul, Int.reduceNeg, Int.reduceEq, Int.reduceLT, Int.reduceLE, reduceIte, if_true, if_false, eq_self, ite_true, ite_false]; and_intros <;> first | omega | simp
            · simp only [J0, JS, JP, JA, sb1, te1, sa1, preM, bI, h1, not_true_eq_false, not_false_eq_true, hm, hv, hv2, ha, up, Int.reduceAdd, Int.reduceSub, Int.reduceMul, Int.reduceNeg, Int.reduceEq, Int.reduceLT, Int.reduceLE, reduceIte, if_true, if_false, eq_self, ite_true, ite_false]; and_intros <;> first | omega | simp
            · simp only [J0, JS, JP, JA, sb1, te1, sa1, preM, bI, h1, not_true_eq_false, not_false_eq_true, hm, hv, hv2, ha, up, Int.reduceAdd, Int.reduceSub, Int.reduceMul, Int.reduceNeg, Int.reduceEq, Int.reduceLT, Int.reduceLE, reduceIte, if_true, if_false, eq_self, ite_true, ite_false]; and_intros <;> first | omega | simp
            · rw [show te1 (sa1 n (preM l b e σ)) = _ from if_neg hm]; simp only [sb1, sa1, preM]; repeat rw [up_n (by omega)]
            · simp only [J0, JS, JP, JA, sb1, te1, sa1, preM, bI, h1, not_true_eq_false, not_false_eq_true, hm, hv, hv2, ha, up, Int.reduceAdd, Int.reduceSub, Int.reduceMul, Int.reduceNeg, Int.reduceEq, Int.reduceLT, Int.reduceLE, reduceIte, if_true, if_false, eq_self, ite_true, ite_false]; omega
          · skip
            refine ⟨?_, ?_, ?_, ?_, ?_, JR_c hJR (fun j hj => ?_), ?_⟩
            · simp only [J0, JS, JP, JA, sb1, te1, sa1, preM, bI, h1, not_true_eq_false, not_false_eq_true, hm, hv, hv2, ha, up, Int.reduceAdd, Int.reduceSub, Int.reduceMul, Int.reduceNeg, Int.reduceEq, Int.reduceLT, Int.reduceLE, reduceIte, if_true, if_false, eq_self, ite_true, ite_false]; and_intros <;> first | omega | simp
            · simp only [J0, JS, JP, JA, sb1, te1, sa1, preM, bI, h1, not_true_eq_false, not_false_eq_true, hm, hv, hv2, ha, up, Int.reduceAdd, Int.reduceSub, Int.reduceMul, Int.reduceNeg, Int.reduceEq, Int.reduceLT, Int.reduceLE, reduceIte, if_true, if_false, eq_self, ite_true, ite_false]; and_intros <;> first | omega | simp
            · simp only [J0, JS, JP, JA, sb1, te1, sa1, preM, bI, h1, not_true_eq_false, not_false_eq_true, hm, hv, hv2, ha, up, Int.reduceAdd, Int.reduceSub, Int.reduceMul, Int.reduceNeg, Int.reduceEq, Int.reduceLT, Int.reduceLE, reduceIte, if_true, if_false, eq_self, ite_true, ite_false]; and_intros <;> first | omega | simp
            · simp only [J0, JS, JP, JA, sb1, te1, sa1, preM, bI, h1, not_true_eq_false, not_false_eq_true, hm, hv, hv2, ha, up, Int.reduceAdd, Int.reduceSub, Int.reduceMul, Int.reduceNeg, Int.reduceEq, Int.reduceLT, Int.reduceLE, reduceIte, if_true, if_false, eq_self, ite_true, ite_false]; and_intros <;> first | omega | simp
            · simp only [J0, JS, JP, JA, sb1, te1, sa1, preM, bI, h1, not_true_eq_false, not_false_eq_true, hm, hv, hv2, ha, up, Int.reduceAdd, Int.reduceSub, Int.reduceMul, Int.reduceNeg, Int.reduceEq, Int.reduceLT, Int.reduceLE, reduceIte, if_true, if_false, eq_self, ite_true, ite_false]; and_intros <;> first | omega | simp
            · rw [show te1 (sa1 n (preM l b e σ)) = _ from if_neg hm]; simp only [sb1, sa1, preM]; repeat rw [up_n (by omega)]
            · simp only [J0, JS, JP, JA, sb1, te1, sa1, preM, bI, h1, not_true_eq_false, not_false_eq_true, hm, hv, hv2, ha, up, Int.reduceAdd, Int.reduceSub, Int.reduceMul, Int.reduceNeg, Int.reduceEq, Int.reduceLT, Int.reduceLE, reduceIte, if_true, if_false, eq_self, ite_true, ite_false]; omega
        · skip
          by_cases ha : n = σ 19
          · skip
            refine ⟨?_, ?_, ?_, ?_, ?_, JR_c hJR (fun j hj => ?_), ?_⟩
            · simp only [J0, JS, JP, JA, sb1, te1, sa1, preM, bI, h1, not_true_eq_false, not_false_eq_true, hm, hv, hv2, ha, up, Int.reduceAdd, Int.reduceSub, Int.reduceMul, Int.reduceNeg, Int.reduceEq, Int.reduceLT, Int.reduceLE, reduceIte, if_true, if_false, eq_self, ite_true, ite_false]; and_intros <;> first | omega | simp
            · simp only [J0, JS, JP, JA, sb1, te1, sa1, preM, bI, h1, not_true_eq_false, not_false_eq_true, hm, hv, hv2, ha, up, Int.reduceAdd, Int.reduceSub, Int.reduceMul, Int.reduceNeg, Int.reduceEq, Int.reduceLT, Int.reduceLE, reduceIte, if_true, if_false, eq_self, ite_true, ite_false]; and_intros <;> first | omega | simp
            · simp only [J0, JS, JP, JA, sb1, te1, sa1, preM, bI, h1, not_true_eq_false, not_false_eq_true, hm, hv, hv2, ha, up, Int.reduceAdd, Int.reduceSub, Int.reduceMul, Int.reduceNeg, Int.reduceEq, Int.reduceLT, Int.reduceLE, reduceIte, if_true, if_false, eq_self, ite_true, ite_false]; and_intros <;> first | omega | simp
            · simp only [J0, JS, JP, JA, sb1, te1, sa1, preM, bI, h1, not_true_eq_false, not_false_eq_true, hm, hv, hv2, ha, up, Int.reduceAdd, Int.reduceSub, Int.reduceMul, Int.reduceNeg, Int.reduceEq, Int.reduceLT, Int.reduceLE, reduceIte, if_true, if_false, eq_self, ite_true, ite_false]; and_intros <;> first | omega | simp
            · simp only [J0, JS, JP, JA, sb1, te1, sa1, preM, bI, h1, not_true_eq_false, not_false_eq_true, hm, hv, hv2, ha, up, Int.reduceAdd, Int.reduceSub, Int.reduceMul, Int.reduceNeg, Int.reduceEq, Int.reduceLT, Int.reduceLE, reduceIte, if_true, if_false, eq_self, ite_true, ite_false]; and_intros <;> first | omega | simp
            · rw [show te1 (sa1 n (preM l b e σ)) = _ from if_neg hm]; simp only [sb1, sa1, preM]; repeat rw [up_n (by omega)]
            · simp only [J0, JS, JP, JA, sb1, te1, sa1, preM, bI, h1, not_true_eq_false, not_false_eq_true, hm, hv, hv2, ha, up, Int.reduceAdd, Int.reduceSub, Int.reduceMul, Int.reduceNeg, Int.reduceEq, Int.reduceLT, Int.reduceLE, reduceIte, if_true, if_false, eq_self, ite_true, ite_false]; omega
          · skip
            refine ⟨?_, ?_, ?_, ?_, ?_, JR_c hJR (fun j hj => ?_), ?_⟩
            · simp only [J0, JS, JP, JA, sb1, te1, sa1, preM, bI, h1, not_true_eq_false, not_false_eq_true, hm, hv, hv2, ha, up, Int.reduceAdd, Int.reduceSub, Int.reduceMul, Int.reduceNeg, Int.reduceEq, Int.reduceLT, Int.reduceLE, reduceIte, if_true, if_false, eq_self, ite_true, ite_false]; and_intros <;> first | omega | simp
            · simp only [J0, JS, JP, JA, sb1, te1, sa1, preM, bI, h1, not_true_eq_false, not_false_eq_true, hm, hv, hv2, ha, up, Int.reduceAdd, Int.reduceSub, Int.reduceMul, Int.reduceNeg, Int.reduceEq, Int.reduceLT, Int.reduceLE, reduceIte, if_true, if_false, eq_self, ite_true, ite_false]; and_intros <;> first | omega | simp
            · simp only [J0, JS, JP, JA, sb1, te1, sa1, preM, bI, h1, not_true_eq_false, not_false_eq_true, hm, hv, hv2, ha, up, Int.reduceAdd, Int.reduceSub, Int.reduceMul, Int.reduceNeg, Int.reduceEq, Int.reduceLT, Int.reduceLE, reduceIte, if_true, if_false, eq_self, ite_true, ite_false]; and_intros <;> first | omega | simp
            · simp only [J0, JS, JP, JA, sb1, te1, sa1, preM, bI, h1, not_true_eq_false, not_false_eq_true, hm, hv, hv2, ha, up, Int.reduceAdd, Int.reduceSub, Int.reduceMul, Int.reduceNeg, Int.reduceEq, Int.reduceLT, Int.reduceLE, reduceIte, if_true, if_false, eq_self, ite_true, ite_false]; and_intros <;> first | omega | simp
            · simp only [J0, JS, JP, JA, sb1, te1, sa1, preM, bI, h1, not_true_eq_false, not_false_eq_true, hm, hv, hv2, ha, up, Int.reduceAdd, Int.reduceSub, Int.reduceMul, Int.reduceNeg, Int.reduceEq, Int.reduceLT, Int.reduceLE, reduceIte, if_true, if_false, eq_self, ite_true, ite_false]; and_intros <;> first | omega | simp
            · rw [show te1 (sa1 n (preM l b e σ)) = _ from if_neg hm]; simp only [sb1, sa1, preM]; repeat rw [up_n (by omega)]
            · simp only [J0, JS, JP, JA, sb1, te1, sa1, preM, bI, h1, not_true_eq_false, not_false_eq_true, hm, hv, hv2, ha, up, Int.reduceAdd, Int.reduceSub, Int.reduceMul, Int.reduceNeg, Int.reduceEq, Int.reduceLT, Int.reduceLE, reduceIte, if_true, if_false, eq_self, ite_true, ite_false]; omega
      · skip
        by_cases hv2 : n + 1 ≤ σ 37
        · skip
          by_cases ha : n = σ 19
          · skip
            refine ⟨?_, ?_, ?_, ?_, ?_, JR_c hJR (fun j hj => ?_), ?_⟩
            · simp only [J0, JS, JP, JA, sb1, te1, sa1, preM, bI, h1, not_true_eq_false, not_false_eq_true, hm, hv, hv2, ha, up, Int.reduceAdd, Int.reduceSub, Int.reduceMul, Int.reduceNeg, Int.reduceEq, Int.reduceLT, Int.reduceLE, reduceIte, if_true, if_false, eq_self, ite_true, ite_false]; and_intros <;> first | omega | simp
            · simp only [J0, JS, JP, JA, sb1, te1, sa1, preM, bI, h1, not_true_eq_false, not_false_eq_true, hm, hv, hv2, ha, up, Int.reduceAdd, Int.reduceSub, Int.reduceMul, Int.reduceNeg, Int.reduceEq, Int.reduceLT, Int.reduceLE, reduceIte, if_true, if_false, eq_self, ite_true, ite_false]; and_intros <;> first | omega | simp
            · simp only [J0, JS, JP, JA, sb1, te1, sa1, preM, bI, h1, not_true_eq_false, not_false_eq_true, hm, hv, hv2, ha, up, Int.reduceAdd, Int.reduceSub, Int.reduceMul, Int.reduceNeg, Int.reduceEq, Int.reduceLT, Int.reduceLE, reduceIte, if_true, if_false, eq_self, ite_true, ite_false]; and_intros <;> first | omega | simp
            · simp only [J0, JS, JP, JA, sb1, te1, sa1, preM, bI, h1, not_true_eq_false, not_false_eq_true, hm, hv, hv2, ha, up, Int.reduceAdd, Int.reduceSub, Int.reduceMul, Int.reduceNeg, Int.reduceEq, Int.reduceLT, Int.reduceLE, reduceIte, if_true, if_false, eq_self, ite_true, ite_false]; and_intros <;> first | omega | simp
            · simp only [J0, JS, JP, JA, sb1, te1, sa1, preM, bI, h1, not_true_eq_false, not_false_eq_true, hm, hv, hv2, ha, up, Int.reduceAdd, Int.reduceSub, Int.reduceMul, Int.reduceNeg, Int.reduceEq, Int.reduceLT, Int.reduceLE, reduceIte, if_true, if_false, eq_self, ite_true, ite_false]; and_intros <;> first | omega | simp
            · rw [show te1 (sa1 n (preM l b e σ)) = _ from if_neg hm]; simp only [sb1, sa1, preM]; repeat rw [up_n (by omega)]
            · simp only [J0, JS, JP, JA, sb1, te1, sa1, preM, bI, h1, not_true_eq_false, not_false_eq_true, hm, hv, hv2, ha, up, Int.reduceAdd, Int.reduceSub, Int.reduceMul, Int.reduceNeg, Int.reduceEq, Int.reduceLT, Int.reduceLE, reduceIte, if_true, if_false, eq_self, ite_true, ite_false]; omega
          · skip
            refine ⟨?_, ?_, ?_, ?_, ?_, JR_c hJR (fun j hj => ?_), ?_⟩
            · simp only [J0, JS, JP, JA, sb1, te1, sa1, preM, bI, h1, not_true_eq_false, not_false_eq_true, hm, hv, hv2, ha, up, Int.reduceAdd, Int.reduceSub, Int.reduceMul, Int.reduceNeg, Int.reduceEq, Int.reduceLT, Int.reduceLE, reduceIte, if_true, if_false, eq_self, ite_true, ite_false]; and_intros <;> first | omega | simp
            · simp only [J0, JS, JP, JA, sb1, te1, sa1, preM, bI, h1, not_true_eq_false, not_false_eq_true, hm, hv, hv2, ha, up, Int.reduceAdd, Int.reduceSub, Int.reduceMul, Int.reduceNeg, Int.reduceEq, Int.reduceLT, Int.reduceLE, reduceIte, if_true, if_false, eq_self, ite_true, ite_false]; and_intros <;> first | omega | simp
            · simp only [J0, JS, JP, JA, sb1, te1, sa1, preM, bI, h1, not_true_eq_false, not_false_eq_true, hm, hv, hv2, ha, up, Int.reduceAdd, Int.reduceSub, Int.reduceMul, Int.reduceNeg, Int.reduceEq, Int.reduceLT, Int.reduceLE, reduceIte, if_true, if_false, eq_self, ite_true, ite_false]; and_intros <;> first | omega | simp
            · simp only [J0, JS, JP, JA, sb1, te1, sa1, preM, bI, h1, not_true_eq_false, not_false_eq_true, hm, hv, hv2, ha, up, Int.reduceAdd, Int.reduceSub, Int.reduceMul, Int.reduceNeg, Int.reduceEq, Int.reduceLT, Int.reduceLE, reduceIte, if_true, if_false, eq_self, ite_true, ite_false]; and_intros <;> first | omega | simp
            · simp only [J0, JS, JP, JA, sb1, te1, sa1, preM, bI, h1, not_true_eq_false, not_false_eq_true, hm, hv, hv2, ha, up, Int.reduceAdd, Int.reduceSub, Int.reduceMul, Int.reduceNeg, Int.reduceEq, Int.reduceLT, Int.reduceLE, reduceIte, if_true, if_false, eq_self, ite_true, ite_false]; and_intros <;> first | omega | simp
            · rw [show te1 (sa1 n (preM l b e σ)) = _ from if_neg hm]; simp only [sb1, sa1, preM]; repeat rw [up_n (by omega)]
            · simp only [J0, JS, JP, JA, sb1, te1, sa1, preM, bI, h1, not_true_eq_false, not_false_eq_true, hm, hv, hv2, ha, up, Int.reduceAdd, Int.reduceSub, Int.reduceMul, Int.reduceNeg, Int.reduceEq, Int.reduceLT, Int.reduceLE, reduceIte, if_true, if_false, eq_self, ite_true, ite_false]; omega
        · skip
          by_cases ha : n = σ 19
          · skip
            refine ⟨?_, ?_, ?_, ?_, ?_, JR_c hJR (fun j hj => ?_), ?_⟩
            · simp only [J0, JS, JP, JA, sb1, te1, sa1, preM, bI, h1, not_true_eq_false, not_false_eq_true, hm, hv, hv2, ha, up, Int.reduceAdd, Int.reduceSub, Int.reduceMul, Int.reduceNeg, Int.reduceEq, Int.reduceLT, Int.reduceLE, reduceIte, if_true, if_false, eq_self, ite_true, ite_false]; and_intros <;> first | omega | simp
            · simp only [J0, JS, JP, JA, sb1, te1, sa1, preM, bI, h1, not_true_eq_false, not_false_eq_true, hm, hv, hv2, ha, up, Int.reduceAdd, Int.reduceSub, Int.reduceMul, Int.reduceNeg, Int.reduceEq, Int.reduceLT, Int.reduceLE, reduceIte, if_true, if_false, eq_self, ite_true, ite_false]; and_intros <;> first | omega | simp
            · simp only [J0, JS, JP, JA, sb1, te1, sa1, preM, bI, h1, not_true_eq_false, not_false_eq_true, hm, hv, hv2, ha, up, Int.reduceAdd, Int.reduceSub, Int.reduceMul, Int.reduceNeg, Int.reduceEq, Int.reduceLT, Int.reduceLE, reduceIte, if_true, if_false, eq_self, ite_true, ite_false]; and_intros <;> first | omega | simp
            · simp only [J0, JS, JP, JA, sb1, te1, sa1, preM, bI, h1, not_true_eq_false, not_false_eq_true, hm, hv, hv2, ha, up, Int.reduceAdd, Int.reduceSub, Int.reduceMul, Int.reduceNeg, Int.reduceEq, Int.reduceLT, Int.reduceLE, reduceIte, if_true, if_false, eq_self, ite_true, ite_false]; and_intros <;> first | omega | simp
            · simp only [J0, JS, JP, JA, sb1, te1, sa1, preM, bI, h1, not_true_eq_false, not_false_eq_true, hm, hv, hv2, ha, up, Int.reduceAdd, Int.reduceSub, Int.reduceMul, Int.reduceNeg, Int.reduceEq, Int.reduceLT, Int.reduceLE, reduceIte, if_true, if_false, eq_self, ite_true, ite_false]; and_intros <;> first | omega | simp
            · rw [show te1 (sa1 n (preM l b e σ)) = _ from if_neg hm]; simp only [sb1, sa1, preM]; repeat rw [up_n (by omega)]
            · simp only [J0, JS, JP, JA, sb1, te1, sa1, preM, bI, h1, not_true_eq_false, not_false_eq_true, hm, hv, hv2, ha, up, Int.reduceAdd, Int.reduceSub, Int.reduceMul, Int.reduceNeg, Int.reduceEq, Int.reduceLT, Int.reduceLE, reduceIte, if_true, if_false, eq_self, ite_true, ite_false]; omega
          · skip
            refine ⟨?_, ?_, ?_, ?_, ?_, JR_c hJR (fun j hj => ?_), ?_⟩
            · simp only [J0, JS, JP, JA, sb1, te1, sa1, preM, bI, h1, not_true_eq_false, not_false_eq_true, hm, hv, hv2, ha, up, Int.reduceAdd, Int.reduceSub, Int.reduceMul, Int.reduceNeg, Int.reduceEq, Int.reduceLT, Int.reduceLE, reduceIte, if_true, if_false, eq_self, ite_true, ite_false]; and_intros <;> first | omega | simp
            · simp only [J0, JS, JP, JA, sb1, te1, sa1, preM, bI, h1, not_true_eq_false, not_false_eq_true, hm, hv, hv2, ha, up, Int.reduceAdd, Int.reduceSub, Int.reduceMul, Int.reduceNeg, Int.reduceEq, Int.reduceLT, Int.reduceLE, reduceIte, if_true, if_false, eq_self, ite_true, ite_false]; and_intros <;> first | omega | simp
            · simp only [J0, JS, JP, JA, sb1, te1, sa1, preM, bI, h1, not_true_eq_false, not_false_eq_true, hm, hv, hv2, ha, up, Int.reduceAdd, Int.reduceSub, Int.reduceMul, Int.reduceNeg, Int.reduceEq, Int.reduceLT, Int.reduceLE, reduceIte, if_true, if_false, eq_self, ite_true, ite_false]; and_intros <;> first | omega | simp
            · simp only [J0, JS, JP, JA, sb1, te1, sa1, preM, bI, h1, not_true_eq_false, not_false_eq_true, hm, hv, hv2, ha, up, Int.reduceAdd, Int.reduceSub, Int.reduceMul, Int.reduceNeg, Int.reduceEq, Int.reduceLT, Int.reduceLE, reduceIte, if_true, if_false, eq_self, ite_true, ite_false]; and_intros <;> first | omega | simp
            · simp only [J0, JS, JP, JA, sb1, te1, sa1, preM, bI, h1, not_true_eq_false, not_false_eq_true, hm, hv, hv2, ha, up, Int.reduceAdd, Int.reduceSub, Int.reduceMul, Int.reduceNeg, Int.reduceEq, Int.reduceLT, Int.reduceLE, reduceIte, if_true, if_false, eq_self, ite_true, ite_false]; and_intros <;> first | omega | simp
            · rw [show te1 (sa1 n (preM l b e σ)) = _ from if_neg hm]; simp only [sb1, sa1, preM]; repeat rw [up_n (by omega)]
            · simp only [J0, JS, JP, JA, sb1, te1, sa1, preM, bI, h1, not_true_eq_false, not_false_eq_true, hm, hv, hv2, ha, up, Int.reduceAdd, Int.reduceSub, Int.reduceMul, Int.reduceNeg, Int.reduceEq, Int.reduceLT, Int.reduceLE, reduceIte, if_true, if_false, eq_self, ite_true, ite_false]; omega
  · rw [if_neg hz]
    by_cases hv : n < σ 37
    · skip
      by_cases hv2 : n + 1 ≤ σ 37
      · skip
        refine ⟨?_, ?_, ?_, ?_, ?_, JR_c hJR (fun j hj => ?_), ?_⟩
        · simp only [J0, JS, JP, JA, sa1, preM, bI, h1, hv, hv2, up, Int.reduceAdd, Int.reduceSub, Int.reduceMul, Int.reduceNeg, Int.reduceEq, Int.reduceLT, Int.reduceLE, reduceIte, if_true, if_false, eq_self, ite_true, ite_false]; and_intros <;> first | omega | simp
        · simp only [J0, JS, JP, JA, sa1, preM, bI, h1, hv, hv2, up, Int.reduceAdd, Int.reduceSub, Int.reduceMul, Int.reduceNeg, Int.reduceEq, Int.reduceLT, Int.reduceLE, reduceIte, if_true, if_false, eq_self, ite_true, ite_false]; and_intros <;> first | omega | simp
        · simp only [J0, JS, JP, JA, sa1, preM, bI, h1, hv, hv2, up, Int.reduceAdd, Int.reduceSub, Int.reduceMul, Int.reduceNeg, Int.reduceEq, Int.reduceLT, Int.reduceLE, reduceIte, if_true, if_false, eq_self, ite_true, ite_false]; and_intros <;> first | omega | simp
        · simp only [J0, JS, JP, JA, sa1, preM, bI, h1, hv, hv2, up, Int.reduceAdd, Int.reduceSub, Int.reduceMul, Int.reduceNeg, Int.reduceEq, Int.reduceLT, Int.reduceLE, reduceIte, if_true, if_false, eq_self, ite_true, ite_false]; and_intros <;> first | omega | simp
        · simp only [J0, JS, JP, JA, sa1, preM, bI, h1, hv, hv2, up, Int.reduceAdd, Int.reduceSub, Int.reduceMul, Int.reduceNeg, Int.reduceEq, Int.reduceLT, Int.reduceLE, reduceIte, if_true, if_false, eq_self, ite_true, ite_false]; and_intros <;> first | omega | simp
        · simp only [sa1, preM]; repeat rw [up_n (by omega)]
        · simp only [J0, JS, JP, JA, sa1, preM, bI, h1, hv, hv2, up, Int.reduceAdd, Int.reduceSub, Int.reduceMul, Int.reduceNeg, Int.reduceEq, Int.reduceLT, Int.reduceLE, reduceIte, if_true, if_false, eq_self, ite_true, ite_false]; omega
      · skip
        refine ⟨?_, ?_, ?_, ?_, ?_, JR_c hJR (fun j hj => ?_), ?_⟩
        · simp only [J0, JS, JP, JA, sa1, preM, bI, h1, hv, hv2, up, Int.reduceAdd, Int.reduceSub, Int.reduceMul, Int.reduceNeg, Int.reduceEq, Int.reduceLT, Int.reduceLE, reduceIte, if_true, if_false, eq_self, ite_true, ite_false]; and_intros <;> first | omega | simp
        · simp only [J0, JS, JP, JA, sa1, preM, bI, h1, hv, hv2, up, Int.reduceAdd, Int.reduceSub, Int.reduceMul, Int.reduceNeg, Int.reduceEq, Int.reduceLT, Int.reduceLE, reduceIte, if_true, if_false, eq_self, ite_true, ite_false]; and_intros <;> first | omega | simp
        · simp only [J0, JS, JP, JA, sa1, preM, bI, h1, hv, hv2, up, Int.reduceAdd, Int.reduceSub, Int.reduceMul, Int.reduceNeg, Int.reduceEq, Int.reduceLT, Int.reduceLE, reduceIte, if_true, if_false, eq_self, ite_true, ite_false]; and_intros <;> first | omega | simp
        · simp only [J0, JS, JP, JA, sa1, preM, bI, h1, hv, hv2, up, Int.reduceAdd, Int.reduceSub, Int.reduceMul, Int.reduceNeg, Int.reduceEq, Int.reduceLT, Int.reduceLE, reduceIte, if_true, if_false, eq_self, ite_true, ite_false]; and_intros <;> first | omega | simp
        · simp only [J0, JS, JP, JA, sa1, preM, bI, h1, hv, hv2, up, Int.reduceAdd, Int.reduceSub, Int.reduceMul, Int.reduceNeg, Int.reduceEq, Int.reduceLT, Int.reduceLE, reduceIte, if_true, if_false, eq_self, ite_true, ite_false]; and_intros <;> first | omega | simp
        · simp only [sa1, preM]; repeat rw [up_n (by omega)]
        · simp only [J0, JS, JP, JA, sa1, preM, bI, h1, hv, hv2, up, Int.reduceAdd, Int.reduceSub, Int.reduceMul, Int.reduceNeg, Int.reduceEq, Int.reduceLT, Int.reduceLE, reduceIte, if_true, if_false, eq_self, ite_true, ite_false]; omega
    · skip
      by_cases hv2 : n + 1 ≤ σ 37
      · skip
        refine ⟨?_, ?_, ?_, ?_, ?_, JR_c hJR (fun j hj => ?_), ?_⟩
        · simp only [J0, JS, JP, JA, sa1, preM, bI, h1, hv, hv2, up, Int.reduceAdd, Int.reduceSub, Int.reduceMul, Int.reduceNeg, Int.reduceEq, Int.reduceLT, Int.reduceLE, reduceIte, if_true, if_false, eq_self, ite_true, ite_false]; and_intros <;> first | omega | simp
        · simp only [J0, JS, JP, JA, sa1, preM, bI, h1, hv, hv2, up, Int.reduceAdd, Int.reduceSub, Int.reduceMul, Int.reduceNeg, Int.reduceEq, Int.reduceLT, Int.reduceLE, reduceIte, if_true, if_false, eq_self, ite_true, ite_false]; and_intros <;> first | omega | simp
        · simp only [J0, JS, JP, JA, sa1, preM, bI, h1, hv, hv2, up, Int.reduceAdd, Int.reduceSub, Int.reduceMul, Int.reduceNeg, Int.reduceEq, Int.reduceLT, Int.reduceLE, reduceIte, if_true, if_false, eq_self, ite_true, ite_false]; and_intros <;> first | omega | simp
        · simp only [J0, JS, JP, JA, sa1, preM, bI, h1, hv, hv2, up, Int.reduceAdd, Int.reduceSub, Int.reduceMul, Int.reduceNeg, Int.reduceEq, Int.reduceLT, Int.reduceLE, reduceIte, if_true, if_false, eq_self, ite_true, ite_false]; and_intros <;> first | omega | simp
        · simp only [J0, JS, JP, JA, sa1, preM, bI, h1, hv, hv2, up, Int.reduceAdd, Int.reduceSub, Int.reduceMul, Int.reduceNeg, Int.reduceEq, Int.reduceLT, Int.reduceLE, reduceIte, if_true, if_false, eq_self, ite_true, ite_false]; and_intros <;> first | omega | simp
        · simp only [sa1, preM]; repeat rw [up_n (by omega)]
        · simp only [J0, JS, JP, JA, sa1, preM, bI, h1, hv, hv2, up, Int.reduceAdd, Int.reduceSub, Int.reduceMul, Int.reduceNeg, Int.reduceEq, Int.reduceLT, Int.reduceLE, reduceIte, if_true, if_false, eq_self, ite_true, ite_false]; omega
      · skip
        refine ⟨?_, ?_, ?_, ?_, ?_, JR_c hJR (fun j hj => ?_), ?_⟩
        · simp only [J0, JS, JP, JA, sa1, preM, bI, h1, hv, hv2, up, Int.reduceAdd, Int.reduceSub, Int.reduceMul, Int.reduceNeg, Int.reduceEq, Int.reduceLT, Int.reduceLE, reduceIte, if_true, if_false, eq_self, ite_true, ite_false]; and_intros <;> first | omega | simp
        · simp only [J0, JS, JP, JA, sa1, preM, bI, h1, hv, hv2, up, Int.reduceAdd, Int.reduceSub, Int.reduceMul, Int.reduceNeg, Int.reduceEq, Int.reduceLT, Int.reduceLE, reduceIte, if_true, if_false, eq_self, ite_true, ite_false]; and_intros <;> first | omega | simp
        · simp only [J0, JS, JP, JA, sa1, preM, bI, h1, hv, hv2, up, Int.reduceAdd, Int.reduceSub, Int.reduceMul, Int.reduceNeg, Int.reduceEq, Int.reduceLT, Int.reduceLE, reduceIte, if_true, if_false, eq_self, ite_true, ite_false]; and_intros <;> first | omega | simp
        · simp only [J0, JS, JP, JA, sa1, preM, bI, h1, hv, hv2, up, Int.reduceAdd, Int.reduceSub, Int.reduceMul, Int.reduceNeg, Int.reduceEq, Int.reduceLT, Int.reduceLE, reduceIte, if_true, if_false, eq_self, ite_true, ite_false]; and_intros <;> first | omega | simp
        · simp only [J0, JS, JP, JA, sa1, preM, bI, h1, hv, hv2, up, Int.reduceAdd, Int.reduceSub, Int.reduceMul, Int.reduceNeg, Int.reduceEq, Int.reduceLT, Int.reduceLE, reduceIte, if_true, if_false, eq_self, ite_true, ite_false]; and_intros <;> first | omega | simp
        · simp only [sa1, preM]; repeat rw [up_n (by omega)]
        · simp only [J0, JS, JP, JA, sa1, preM, bI, h1, hv, hv2, up, Int.reduceAdd, Int.reduceSub, Int.reduceMul, Int.reduceNeg, Int.reduceEq, Int.reduceLT, Int.reduceLE, reduceIte, if_true, if_false, eq_self, ite_true, ite_false]; omega
end StepJ
