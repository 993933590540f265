section AppR
/-- the readers of class and reference -/
def RDR (f bu s m : Int → Int) : Prop := RO f ∧ RM s ∧ f 0 = s 2 ∧ sB 129 bu ∧ sB 129 m ∧ ∀ j, 0 ≤ j → j < f 0 → bu j = m j
theorem sh_8 (x : Int32) (k : Nat) (hk : k ≤ 24) : ((x.toUInt32 >>> ((iI (k : Int)).toUInt32 &&& Int32.toUInt32 31)).toInt32).toInt8 = (x >>> (iI (k : Int) &&& 31)).toInt8 := by
  have e1 : ∀ k : Fin 25, ((iI ((k.val : Nat) : Int)).toUInt32 &&& Int32.toUInt32 31).toNat = k.val := by decide +kernel
  have e2 : ∀ k : Fin 25, ((iI ((k.val : Nat) : Int) &&& 31).toBitVec.smod 32).toNat = k.val := by decide +kernel
  have a1 := e1 ⟨k, by omega⟩
  have a2 := e2 ⟨k, by omega⟩
  rw [← Int8.toBitVec_inj]
  apply BitVec.eq_of_getLsbD_eq
  intro i hi
  rw [Int32.toBitVec_toInt8, Int32.toBitVec_toInt8, BitVec.getLsbD_signExtend, BitVec.getLsbD_signExtend, if_pos (by omega), if_pos (by omega)]
  congr 1
  have b1 : ((x.toUInt32 >>> ((iI (k : Int)).toUInt32 &&& Int32.toUInt32 31)).toInt32).toBitVec = x.toBitVec >>> k := by
    apply BitVec.eq_of_toNat_eq
    show (x.toUInt32 >>> ((iI (k : Int)).toUInt32 &&& Int32.toUInt32 31)).toNat = _
    rw [UInt32.toNat_shiftRight, a1, Nat.mod_eq_of_lt (by show k < 32; omega), BitVec.toNat_ushiftRight]
    rfl
  have b2 : (x >>> (iI (k : Int) &&& 31)).toBitVec = x.toBitVec.sshiftRight k := by
    rw [Int32.toBitVec_shiftRight]
    show x.toBitVec.sshiftRight ((iI (k : Int) &&& 31).toBitVec.smod 32).toNat = _
    rw [a2]
  rw [b1, b2, BitVec.getLsbD_ushiftRight, BitVec.getLsbD_sshiftRight]
  rw [if_pos (by omega)]
  simp only [show ¬ 32 ≤ i by omega, decide_false, Bool.not_false, Bool.true_and]
theorem u8_b8 (a : Int) {k : Nat} (hk : k ≤ 24) : u8 a (k : Int) = b8 a (k : Int) := by
  unfold u8 b8
  rw [sh_8 _ k hk]
theorem u8_in (a sh : Int) : -129 < u8 a sh ∧ u8 a sh < 129 := by
  unfold u8
  generalize ((iI a).toUInt32 >>> ((iI sh).toUInt32 &&& Int32.toUInt32 31)).toInt32.toInt8 = x
  rw [Int8.toInt_toInt32]
  have h0 := Int8.le_toInt x
  have h1 := Int8.toInt_lt x
  exact ⟨by omega, by omega⟩
theorem b8_in (a sh : Int) : -129 < b8 a sh ∧ b8 a sh < 129 := by
  unfold b8
  generalize (iI a >>> (iI sh &&& 31)).toInt8 = x
  rw [Int8.toInt_toInt32]
  have h0 := Int8.le_toInt x
  have h1 := Int8.toInt_lt x
  exact ⟨by omega, by omega⟩
theorem ap4 {f bu m : Int → Int} {v n : Int} (hn : f 0 = n) (h : ∀ j, 0 ≤ j → j < n → bu j = m j) : ∀ j, 0 ≤ j → j < n + 4 → afB u8 f v bu j = (up (up (up (up m n (b8 v 24)) (n + 1) (b8 v 16)) (n + 2) (b8 v 8)) (n + 3) (b8 v 0)) j := by
  intro j j0 j1
  have e24 : u8 v 24 = b8 v 24 := u8_b8 v (k := 24) (by decide)
  have e16 : u8 v 16 = b8 v 16 := u8_b8 v (k := 16) (by decide)
  have e8 : u8 v 8 = b8 v 8 := u8_b8 v (k := 8) (by decide)
  have e0 : u8 v 0 = b8 v 0 := u8_b8 v (k := 0) (by decide)
  unfold afB
  rw [hn, e24, e16, e8, e0]
  unfold up
  by_cases c3 : j = n + 3
  · rw [if_pos c3, if_pos c3]
  · rw [if_neg c3, if_neg c3]
    by_cases c2 : j = n + 2
    · rw [if_pos c2, if_pos c2]
    · rw [if_neg c2, if_neg c2]
      by_cases c1 : j = n + 1
      · rw [if_pos c1, if_pos c1]
      · rw [if_neg c1, if_neg c1]
        by_cases c0 : j = n
        · rw [if_pos c0, if_pos c0]
        · rw [if_neg c0, if_neg c0]; exact h j j0 (by omega)
theorem sB_af {f bu : Int → Int} {v : Int} (h : sB 129 bu) : sB 129 (afB u8 f v bu) :=
  sB_up (sB_up (sB_up (sB_up h (u8_in _ _)) (u8_in _ _)) (u8_in _ _)) (u8_in _ _)
theorem af_0 {f : Int → Int} {n : Int} (h : f 0 = n) : afF f 0 = n + 4 := by unfold afF; rw [up_s, h]
theorem RDR_app {f bu s m : Int → Int} (h : RDR f bu s m) (hf : f 0 + 20 ≤ 700) (v1 v2 v3 v4 v5 : Int) :
    RDR (afF (afF (afF (afF (afF f))))) (afB u8 (afF (afF (afF (afF f)))) v5 (afB u8 (afF (afF (afF f))) v4 (afB u8 (afF (afF f)) v3 (afB u8 (afF f) v2 (afB u8 f v1 bu)))))
      (up (up s 0 0) 2 ((((((s 2) + 4) + 4) + 4) + 4) + 4))
      (up (up (up (up (up (up (up (up (up (up (up (up (up (up (up (up (up (up (up (up m (s 2) (b8 v1 24)) ((s 2) + 1) (b8 v1 16)) ((s 2) + 2) (b8 v1 8)) ((s 2) + 3) (b8 v1 0)) ((s 2) + 4) (b8 v2 24)) (((s 2) + 4) + 1) (b8 v2 16)) (((s 2) + 4) + 2) (b8 v2 8)) (((s 2) + 4) + 3) (b8 v2 0)) (((s 2) + 4) + 4) (b8 v3 24)) ((((s 2) + 4) + 4) + 1) (b8 v3 16)) ((((s 2) + 4) + 4) + 2) (b8 v3 8)) ((((s 2) + 4) + 4) + 3) (b8 v3 0)) ((((s 2) + 4) + 4) + 4) (b8 v4 24)) (((((s 2) + 4) + 4) + 4) + 1) (b8 v4 16)) (((((s 2) + 4) + 4) + 4) + 2) (b8 v4 8)) (((((s 2) + 4) + 4) + 4) + 3) (b8 v4 0)) (((((s 2) + 4) + 4) + 4) + 4) (b8 v5 24)) ((((((s 2) + 4) + 4) + 4) + 4) + 1) (b8 v5 16)) ((((((s 2) + 4) + 4) + 4) + 4) + 2) (b8 v5 8)) ((((((s 2) + 4) + 4) + 4) + 4) + 3) (b8 v5 0)) := by
  obtain ⟨ho, hm, hl, hb1, hb2, he⟩ := h
  have g1 := af_0 hl
  have g2 := af_0 g1
  have g3 := af_0 g2
  have g4 := af_0 g3
  have g5 := af_0 g4
  have af : ∀ (f : Int → Int) j, j ≠ 0 → afF f j = f j := fun f j c => up_n c
  refine ⟨?_, ?_, ?_, ?_, ?_, ?_⟩
  · unfold RO at ho ⊢
    rw [g5]
    rw [af _ 1 (by decide), af _ 1 (by decide), af _ 1 (by decide), af _ 1 (by decide), af _ 1 (by decide)]
    rw [af _ 2 (by decide), af _ 2 (by decide), af _ 2 (by decide), af _ 2 (by decide), af _ 2 (by decide)]
    rw [af _ 3 (by decide), af _ 3 (by decide), af _ 3 (by decide), af _ 3 (by decide), af _ 3 (by decide)]
    rw [af _ 4 (by decide), af _ 4 (by decide), af _ 4 (by decide), af _ 4 (by decide), af _ 4 (by decide)]
    rw [af _ 5 (by decide), af _ 5 (by decide), af _ 5 (by decide), af _ 5 (by decide), af _ 5 (by decide)]
    rw [af _ 6 (by decide), af _ 6 (by decide), af _ 6 (by decide), af _ 6 (by decide), af _ 6 (by decide)]
    rw [af _ 7 (by decide), af _ 7 (by decide), af _ 7 (by decide), af _ 7 (by decide), af _ 7 (by decide)]
    rw [af _ 8 (by decide), af _ 8 (by decide), af _ 8 (by decide), af _ 8 (by decide), af _ 8 (by decide)]
    rw [af _ 9 (by decide), af _ 9 (by decide), af _ 9 (by decide), af _ 9 (by decide), af _ 9 (by decide)]
    exact ⟨ho.1, ho.2.1, ho.2.2.1, ho.2.2.2.1, ho.2.2.2.2.1, ho.2.2.2.2.2.1, ho.2.2.2.2.2.2.1, by omega, by omega⟩
  · exact hm
  · rw [g5, up_s]
  · exact sB_af (sB_af (sB_af (sB_af (sB_af hb1))))
  · repeat' (refine sB_up ?_ (b8_in _ _))
    exact hb2
  · rw [g5]
    rw [hl] at he
    exact ap4 g4 (ap4 g3 (ap4 g2 (ap4 g1 (ap4 hl he))))
end AppR
