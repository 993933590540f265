section Pairs
/-- both worlds hold the same; k: what was thrown -/
def LIk (G : GG) (A : Nat → Nat) (B : Nat → Nat → Nat) (ad : Nat → Nat) (k : Int) (w1 w2 : va_W) : Prop := ∃ (lads : Nat → Nat → Nat) (f bu cf cp ff fp : Int → Int) (Q : Nat → Int → Int → Int) (R : Nat → Int → Int → Int64) (LF : Nat → Int → Int → Int) (LK : Nat → Int → Int → Int64) (z : Int → Int) (M : Int → Int → Int), TI f bu Q R LF LK z M ∧ M 0 0 = k ∧ w1 = tlW G A B lads f bu cf cp ff fp Q R LF LK z ∧ w2 = mW G ad M
/-- a call of the law's helper and one of the reference -/
def PH (G : GG) (A : Nat → Nat) (B : Nat → Nat → Nat) (ad : Nat → Nat) (Po : Option Value → va_W → Prop) (PX : String → va_W → Prop) (cd : String → Int → Prop) (Pm : Option Value → va_W → Prop) : Prop :=
  (∀ (z0 : Int) (w1 : va_W) (r : Option Value) (w2 : va_W), Po (some (vI z0)) w1 → Pm r w2 → ∃ v : Int, r = some (vI v) ∧ iI z0 = iI v ∧ LIk G A B ad 0 w1 w2) ∧
  (∀ (E : String) (k : Int) (w1 : va_W) (r : Option Value) (w2 : va_W), PX E w1 → cd E k → Pm r w2 → ∃ v : Int, r = some (vI v) ∧ LIk G A B ad k w1 w2) ∧ ∀ (E : String) (k : Int), cd E k → 1 ≤ k ∧ k ≤ 3
/-- a call of the class and one of the reference -/
def PD (G : GG) (A : Nat → Nat) (B : Nat → Nat → Nat) (ad : Nat → Nat) (Po : Option Value → va_W → Prop) (Pm : Option Value → va_W → Prop) : Prop :=
  ∀ (r1 : Option Value) (w1 : va_W) (r2 : Option Value) (w2 : va_W), Po r1 w1 → Pm r2 w2 → ∃ v : Int, sm v ∧ r1 = some (vI v) ∧ r2 = some (vI v) ∧ ∃ k, LIk G A B ad k w1 w2
theorem so_i {a b : Int} (h : some (vI a) = some (vI b)) : iI a = iI b := Value.int.inj (Option.some.inj h)
theorem so_v {a b : Int} {r1 r2 : Option Value} (h1 : r1 = some (vI a)) (h2 : r2 = some (vI b)) (e : a = b) : ∃ v : Int, sm v ∧ r1 = some (vI v) ∧ r2 = some (vI v) := by
  refine ⟨(iI a).toInt, sm_of _, ?_, ?_⟩
  · rw [h1]; show _ = some (Value.int (iI (iI a).toInt)); rw [iI_of]
  · rw [h2, ← e]; show _ = some (Value.int (iI (iI a).toInt)); rw [iI_of]
section
variable {G : GG} {A : Nat → Nat} {B : Nat → Nat → Nat} {ad : Nat → Nat} {lads : Nat → Nat → Nat} {f bu cf cp ff fp : Int → Int} {Q Q' : Nat → Int → Int → Int} {R R' : Nat → Int → Int → Int64} {LF : Nat → Int → Int → Int} {LK : Nat → Int → Int → Int64} {z : Int → Int} {M M' : Int → Int → Int}
theorem LI_x (T : TI f bu Q R LF LK z M) (k : Int) (hq : ∀ n : Nat, n = 0 ∨ n = 1 ∨ n = 5 ∨ n = 6 → Q' n = Q n ∧ R' n = R n) (hm : ∀ i : Int, i = 1 ∨ i = 2 ∨ i = 5 ∨ i = 6 ∨ i = 7 → M' i = M i) (h0 : ∀ j : Int, (2 ≤ j ∧ j ≤ 9) ∨ j = 14 ∨ j = 17 ∨ j = 18 ∨ j = 24 → M' 0 j = M 0 j) (hk : M' 0 0 = k) : LIk G A B ad k (tlW G A B lads f bu cf cp ff fp Q' R' LF LK z) (mW G ad M') :=
  ⟨lads, f, bu, cf, cp, ff, fp, Q', R', LF, LK, z, M', TI_sc T hq ⟨rfl, rfl, rfl⟩ hm h0, hk, rfl, rfl⟩
theorem LI_t (T : TI f bu Q R LF LK z M) (k : Int) : LIk G A B ad k (tlW G A B lads f bu cf cp ff fp Q R LF LK z) (mW G ad (up M 0 (up (M 0) 0 k))) :=
  LI_x T k (fun _ _ => ⟨rfl, rfl⟩) (fun i hi => up_n (by omega)) (fun j hj => by rw [up_s, up_n (by omega)]) (by rw [up_s, up_s])
/-- .. with the scratch of a frame that is laid -/
theorem LI_y (T : TI f bu Q R LF LK z M) (k x y w : Int) (f8 f9 : Int → Int) : LIk G A B ad k (tlW G A B lads f bu cf cp ff fp Q R LF LK z) (mW G ad (up (up (up M 0 (up (up (up (up (M 0) 0 k) 20 x) 22 y) 23 w)) 8 f8) 9 f9)) :=
  LI_x T k (fun _ _ => ⟨rfl, rfl⟩) (fun i hi => by rw [up_n (by omega), up_n (by omega), up_n (by omega)]) (fun j hj => by rw [up_n (by decide), up_n (by decide), up_s, up_n (by omega), up_n (by omega), up_n (by omega), up_n (by omega)]) (by rw [up_n (by decide), up_n (by decide), up_s, up_n (by decide), up_n (by decide), up_n (by decide), up_s])
/-- .. of a forecast -/
theorem LI_z (T : TI f bu Q R LF LK z M) (x y w a b : Int) (f4 f8 f9 : Int → Int) (hq : ∀ n : Nat, n = 0 ∨ n = 1 ∨ n = 5 ∨ n = 6 → Q' n = Q n ∧ R' n = R n) : LIk G A B ad 0 (tlW G A B lads f bu cf cp ff fp Q' R' LF LK z) (mW G ad (up (up (up (up M 0 (up (up (up (up (up (up (up (M 0) 0 0) 20 x) 22 y) 23 w) 24 0) 25 a) 26 b)) 4 f4) 8 f8) 9 f9)) :=
  LI_x T 0 hq (fun i hi => by rw [up_n (by omega), up_n (by omega), up_n (by omega), up_n (by omega)]) (fun j hj => by
    rw [up_n (by decide), up_n (by decide), up_n (by decide), up_s, up_n (by omega), up_n (by omega)]
    by_cases c : j = 24
    · rw [c, up_s]; exact T.2.2.2.2.2.2.2.2.2.2.symm
    · rw [up_n c, up_n (by omega), up_n (by omega), up_n (by omega), up_n (by omega)]) (by rw [up_n (by decide), up_n (by decide), up_n (by decide), up_s, up_n (by decide), up_n (by decide), up_n (by decide), up_n (by decide), up_n (by decide), up_n (by decide), up_s])
theorem LI_kp (T : TI f bu Q R LF LK z M) {F1 : Int → Int → Int} {K1 : Int → Int → Int64} {σ1 : Int → Int} (g : GOOD F1 K1 σ1) : LIk G A B ad 0 (tlW G A B lads f bu cf cp ff fp (upN Q 0 F1) (upN R 0 K1) (kpS (z 0) LF (Q 0)) (kpS (z 0) LK (R 0)) (up z 0 (kpC (z 0)))) (mW G ad (up (up (up M 0 (up (up (M 0) 0 0) 14 (kpD (M 0 14) + 1))) 2 σ1) 5 (cpF (M 2) (kpH (M 0 14) (M 5)) 0 (kpD (M 0 14)) 441))) :=
  ⟨lads, f, bu, cf, cp, ff, fp, _, _, _, _, _, _, TI_kp T g ⟨rfl, rfl⟩ (fun n hn => ⟨if_neg (by omega), if_neg (by omega)⟩) ⟨up_s, up_n (by decide), up_n (by decide)⟩ (by rw [up_n (by decide), up_s]) up_s (fun i hi => by rw [up_n (by omega), up_n (by omega), up_n (by omega)]) (by rw [up_n (by decide), up_n (by decide), up_s, up_s]) (fun j hj => by rw [up_n (by decide), up_n (by decide), up_s, up_n (by omega), up_n (by omega)]), by rw [up_n (by decide), up_n (by decide), up_s, up_n (by decide), up_s], rfl, rfl⟩
/-- .. with the scratch of frames -/
theorem LI_kq (T : TI f bu Q R LF LK z M) {F1 : Int → Int → Int} {K1 : Int → Int → Int64} {σ1 : Int → Int} (g : GOOD F1 K1 σ1) (x y w : Int) (f8 f9 : Int → Int) : LIk G A B ad 0 (tlW G A B lads f bu cf cp ff fp (upN Q 0 F1) (upN R 0 K1) (kpS (z 0) LF (Q 0)) (kpS (z 0) LK (R 0)) (up z 0 (kpC (z 0)))) (mW G ad (up (up (up (up (up M 0 (up (up (up (up (up (M 0) 0 0) 14 (kpD (M 0 14) + 1)) 20 x) 22 y) 23 w)) 2 σ1) 5 (cpF (M 2) (kpH (M 0 14) (M 5)) 0 (kpD (M 0 14)) 441)) 8 f8) 9 f9)) :=
  ⟨lads, f, bu, cf, cp, ff, fp, _, _, _, _, _, _, TI_kp T g ⟨rfl, rfl⟩ (fun n hn => ⟨if_neg (by omega), if_neg (by omega)⟩) ⟨up_s, up_n (by decide), up_n (by decide)⟩ (by rw [up_n (by decide), up_n (by decide), up_n (by decide), up_s]) (by rw [up_n (by decide), up_n (by decide), up_s]) (fun i hi => by rw [up_n (by omega), up_n (by omega), up_n (by omega), up_n (by omega), up_n (by omega)]) (by rw [up_n (by decide), up_n (by decide), up_n (by decide), up_n (by decide), up_s, up_n (by decide), up_n (by decide), up_n (by decide), up_s]) (fun j hj => by rw [up_n (by decide), up_n (by decide), up_n (by decide), up_n (by decide), up_s, up_n (by omega), up_n (by omega), up_n (by omega), up_n (by omega), up_n (by omega)]), by rw [up_n (by decide), up_n (by decide), up_n (by decide), up_n (by decide), up_s, up_n (by decide), up_n (by decide), up_n (by decide), up_n (by decide), up_s], rfl, rfl⟩
end
theorem cd_1 {E : String} {k : Int} {a : String} (h : (E = a ∧ k = 1)) : 1 ≤ k ∧ k ≤ 3 := by omega
theorem cd_2 {E : String} {k : Int} {a b : String} (h : (E = a ∧ k = 1) ∨ (E = b ∧ k = 2)) : 1 ≤ k ∧ k ≤ 3 := by omega
theorem cd_3 {E : String} {k : Int} {a b c : String} (h : (E = a ∧ k = 1) ∨ (E = b ∧ k = 2) ∨ (E = c ∧ k = 3)) : 1 ≤ k ∧ k ≤ 3 := by omega
theorem ph_size {G : GG} {A : Nat → Nat} {B : Nat → Nat → Nat} {ad : Nat → Nat} {lads : Nat → Nat → Nat} {f bu cf cp ff fp : Int → Int} {Q : Nat → Int → Int → Int} {R : Nat → Int → Int → Int64} {LF : Nat → Int → Int → Int} {LK : Nat → Int → Int → Int64} {z : Int → Int} {M : Int → Int → Int} (T : TI f bu Q R LF LK z M) (q : Int) : PH G A B ad (fun r w => r = some (vI (szC (Q 0) (z 0) q)) ∧ w = (tlW G A B lads f bu cf cp ff fp Q R LF LK z) ∧ (0 ≤ q ∧ q ≤ 6)) (fun E w => E = "java/lang/IllegalArgumentException" ∧ w = (tlW G A B lads f bu cf cp ff fp Q R LF LK z) ∧ ¬ (0 ≤ q ∧ q ≤ 6)) (fun E k => (E = "java/lang/IllegalArgumentException" ∧ k = 1)) (fun r w => ∃ v : Int, r = some (vI v) ∧ (((¬ (0 ≤ q ∧ q ≤ 6)) ∧ w = mW G ad (up M 0 (up (M 0) 0 1))) ∨ ((0 ≤ q ∧ q ≤ 6) ∧ v = szF (M 2) (M 0 14) q ∧ w = mW G ad (up M 0 (up (M 0) 0 0))))) := by
  refine ⟨?_, ?_, fun E k h => cd_1 h⟩
  · intro z0 w1 r w2 hc hm
    obtain ⟨h1, rfl, hq⟩ := hc
    obtain ⟨v, rfl, ⟨c, rfl⟩ | ⟨c, rfl, rfl⟩⟩ := hm
    · exfalso; omega
    · refine ⟨_, rfl, ?_, LI_t T 0⟩
      rw [so_i h1, sz_eq T.1, T.2.2.1.2.1]
  · intro E k w1 r w2 hc hk hm
    obtain ⟨rfl, rfl, hq⟩ := hc
    · obtain ⟨_, rfl⟩ := hk
      obtain ⟨v, rfl, ⟨c, rfl⟩ | ⟨c, rfl, rfl⟩⟩ := hm
      · exact ⟨_, rfl, LI_t T 1⟩
      · exfalso; omega
theorem ph_account {G : GG} {A : Nat → Nat} {B : Nat → Nat → Nat} {ad : Nat → Nat} {lads : Nat → Nat → Nat} {f bu cf cp ff fp : Int → Int} {Q : Nat → Int → Int → Int} {R : Nat → Int → Int → Int64} {LF : Nat → Int → Int → Int} {LK : Nat → Int → Int → Int64} {z : Int → Int} {M : Int → Int → Int} (T : TI f bu Q R LF LK z M) (q : Int) : PH G A B ad (fun r w => r = some (vI (Q 0 5 q)) ∧ w = (tlW G A B lads f bu cf cp ff fp Q R LF LK z) ∧ (0 ≤ q ∧ q ≤ 9)) (fun E w => E = "java/lang/IllegalArgumentException" ∧ w = (tlW G A B lads f bu cf cp ff fp Q R LF LK z) ∧ ¬ (0 ≤ q ∧ q ≤ 9)) (fun E k => (E = "java/lang/IllegalArgumentException" ∧ k = 1)) (fun r w => ∃ v : Int, r = some (vI v) ∧ (((¬ (0 ≤ q ∧ q ≤ 9)) ∧ w = mW G ad (up M 0 (up (M 0) 0 1))) ∨ ((0 ≤ q ∧ q ≤ 9) ∧ v = (M 2 (8 + q)) ∧ w = (mW G ad (up M 0 (up (M 0) 0 0)))))) := by
  refine ⟨?_, ?_, fun E k h => cd_1 h⟩
  · intro z0 w1 r w2 hc hm
    obtain ⟨h1, rfl, hq⟩ := hc
    obtain ⟨v, rfl, ⟨c, rfl⟩ | ⟨c, rfl, rfl⟩⟩ := hm
    · exfalso; omega
    · refine ⟨_, rfl, ?_, LI_t T 0⟩
      rw [so_i h1, acc_eq T.1 hq]
  · intro E k w1 r w2 hc hk hm
    obtain ⟨rfl, rfl, hq⟩ := hc
    · obtain ⟨_, rfl⟩ := hk
      obtain ⟨v, rfl, ⟨c, rfl⟩ | ⟨c, rfl, rfl⟩⟩ := hm
      · exact ⟨_, rfl, LI_t T 1⟩
      · exfalso; omega
theorem ph_station {G : GG} {A : Nat → Nat} {B : Nat → Nat → Nat} {ad : Nat → Nat} {lads : Nat → Nat → Nat} {f bu cf cp ff fp : Int → Int} {Q : Nat → Int → Int → Int} {R : Nat → Int → Int → Int64} {LF : Nat → Int → Int → Int} {LK : Nat → Int → Int → Int64} {z : Int → Int} {M : Int → Int → Int} (T : TI f bu Q R LF LK z M) (s q : Int) : PH G A B ad (fun r w => r = some (vI (Q 0 (1 + s) q)) ∧ w = (tlW G A B lads f bu cf cp ff fp Q R LF LK z) ∧ (0 ≤ s ∧ s ≤ 1) ∧ (0 ≤ q ∧ q ≤ 9)) (fun E w => w = (tlW G A B lads f bu cf cp ff fp Q R LF LK z) ∧ ((E = "java/lang/IndexOutOfBoundsException" ∧ ¬ (0 ≤ s ∧ s ≤ 1)) ∨ (E = "java/lang/IllegalArgumentException" ∧ (0 ≤ s ∧ s ≤ 1) ∧ ¬ (0 ≤ q ∧ q ≤ 9)))) (fun E k => (E = "java/lang/IndexOutOfBoundsException" ∧ k = 1) ∨ (E = "java/lang/IllegalArgumentException" ∧ k = 2)) (fun r w => ∃ v : Int, r = some (vI v) ∧ (((¬ (0 ≤ s ∧ s ≤ 1)) ∧ w = mW G ad (up M 0 (up (M 0) 0 1))) ∨ (((0 ≤ s ∧ s ≤ 1) ∧ ¬ (0 ≤ q ∧ q ≤ 9)) ∧ w = mW G ad (up M 0 (up (M 0) 0 2))) ∨ (((0 ≤ s ∧ s ≤ 1) ∧ 0 ≤ q ∧ q ≤ 9) ∧ v = (M 2 ((18 + (11 * s)) + q)) ∧ w = (mW G ad (up M 0 (up (M 0) 0 0)))))) := by
  refine ⟨?_, ?_, fun E k h => cd_2 h⟩
  · intro z0 w1 r w2 hc hm
    obtain ⟨h1, rfl, hs, hq⟩ := hc
    obtain ⟨v, rfl, ⟨c, rfl⟩ | ⟨c, rfl⟩ | ⟨c, rfl, rfl⟩⟩ := hm
    · exfalso; omega
    · exfalso; omega
    · refine ⟨_, rfl, ?_, LI_t T 0⟩
      rw [so_i h1, sta_eq T.1 hs ⟨hq.1, by omega⟩]
  · intro E k w1 r w2 hc hk hm
    obtain ⟨rfl, ⟨rfl, h1⟩ | ⟨rfl, h1, h2⟩⟩ := hc
    · obtain rfl : k = 1 := by
        rcases hk with ⟨e, e2⟩ | ⟨e, e2⟩
        · exact e2
        · exact absurd e (by decide)
      obtain ⟨v, rfl, ⟨c, rfl⟩ | ⟨c, rfl⟩ | ⟨c, rfl, rfl⟩⟩ := hm
      · exact ⟨_, rfl, LI_t T 1⟩
      · exfalso; omega
      · exfalso; omega
    · obtain rfl : k = 2 := by
        rcases hk with ⟨e, e2⟩ | ⟨e, e2⟩
        · exact absurd e (by decide)
        · exact e2
      obtain ⟨v, rfl, ⟨c, rfl⟩ | ⟨c, rfl⟩ | ⟨c, rfl, rfl⟩⟩ := hm
      · exfalso; omega
      · exact ⟨_, rfl, LI_t T 2⟩
      · exfalso; omega
theorem ph_messageByte {G : GG} {A : Nat → Nat} {B : Nat → Nat → Nat} {ad : Nat → Nat} {lads : Nat → Nat → Nat} {f bu cf cp ff fp : Int → Int} {Q : Nat → Int → Int → Int} {R : Nat → Int → Int → Int64} {LF : Nat → Int → Int → Int} {LK : Nat → Int → Int → Int64} {z : Int → Int} {M : Int → Int → Int} (T : TI f bu Q R LF LK z M) (s m j : Int) : PH G A B ad (fun r w => r = some (vI (if ((0 ≤ m ∧ m < Q 0 (1 + s) 0) ∧ m < 20) ∧ 0 ≤ j ∧ j < Q 0 (3 + s) m then cB0 (R 0 s m) j % 256 else -1)) ∧ w = (tlW G A B lads f bu cf cp ff fp Q R LF LK z) ∧ ((0 ≤ s ∧ s ≤ 1) ∧ ((0 ≤ m ∧ m < Q 0 (1 + s) 0) ∧ m < 20))) (fun E w => w = (tlW G A B lads f bu cf cp ff fp Q R LF LK z) ∧ E = "java/lang/IndexOutOfBoundsException" ∧ ¬ ((0 ≤ s ∧ s ≤ 1) ∧ ((0 ≤ m ∧ m < Q 0 (1 + s) 0) ∧ m < 20))) (fun E k => (E = "java/lang/IndexOutOfBoundsException" ∧ k = 1)) (fun r w => ∃ v : Int, r = some (vI v) ∧ (((¬ ((0 ≤ s ∧ s ≤ 1) ∧ 0 ≤ m ∧ m ≤ M 2 (18 + 11 * s + 0) - 1)) ∧ v = 0 ∧ w = mW G ad (up M 0 (up (M 0) 0 1))) ∨ ((((0 ≤ s ∧ s ≤ 1) ∧ 0 ≤ m ∧ m ≤ M 2 (18 + 11 * s + 0) - 1) ∧ (0 ≤ j ∧ j ≤ M 2 (40 + 20 * s + m) - 1)) ∧ v = (M 2 ((80 + (8 * ((20 * s) + m))) + j)) ∧ w = (mW G ad (up M 0 (up (M 0) 0 0)))) ∨ ((((0 ≤ s ∧ s ≤ 1) ∧ 0 ≤ m ∧ m ≤ M 2 (18 + 11 * s + 0) - 1) ∧ ¬ (0 ≤ j ∧ j ≤ M 2 (40 + 20 * s + m) - 1)) ∧ v = (-1) ∧ w = (mW G ad (up M 0 (up (M 0) 0 0)))))) := by
  have hn : (0 ≤ s ∧ s ≤ 1) → Q 0 (1 + s) 0 = M 2 (18 + 11 * s + 0) := fun hs => sta_eq T.1 hs (by decide)
  have hn20 : (0 ≤ s ∧ s ≤ 1) → M 2 (18 + 11 * s + 0) ≤ 20 := fun hs => by
    rcases (show s = 0 ∨ s = 1 by omega) with rfl | rfl
    · exact T.1.2.1.2.1.1.2
    · exact T.1.2.1.2.2.1.1.2
  refine ⟨?_, ?_, fun E k h => cd_1 h⟩
  · intro z0 w1 r w2 hc hm
    obtain ⟨h1, rfl, hs, hm1, hm2⟩ := hc
    obtain ⟨v, rfl, ⟨c, rfl, rfl⟩ | ⟨⟨c, d⟩, rfl, rfl⟩ | ⟨⟨c, d⟩, rfl, rfl⟩⟩ := hm
    · exfalso
      have e := hn hs
      omega
    · refine ⟨_, rfl, ?_, LI_t T 0⟩
      have e := len_eq T.1 hs hm1
      rw [so_i h1, if_pos ⟨⟨hm1, hm2⟩, d.1, by omega⟩, (mb_eq T.1 hs hm1 d.1 (by omega)).2]
    · refine ⟨_, rfl, ?_, LI_t T 0⟩
      have e := len_eq T.1 hs hm1
      rw [so_i h1, if_neg (by omega)]
  · intro E k w1 r w2 hc hk hm
    obtain ⟨rfl, rfl, h1⟩ := hc
    · obtain ⟨_, rfl⟩ := hk
      obtain ⟨v, rfl, ⟨c, rfl, rfl⟩ | ⟨⟨c, d⟩, rfl, rfl⟩ | ⟨⟨c, d⟩, rfl, rfl⟩⟩ := hm
      · exact ⟨_, rfl, LI_t T 1⟩
      · exfalso
        have e := hn c.1
        have e2 := hn20 c.1
        omega
      · exfalso
        have e := hn c.1
        have e2 := hn20 c.1
        omega
theorem ph_next {G : GG} {A : Nat → Nat} {B : Nat → Nat → Nat} {ad : Nat → Nat} {lads : Nat → Nat → Nat} {f bu cf cp ff fp : Int → Int} {Q : Nat → Int → Int → Int} {R : Nat → Int → Int → Int64} {LF : Nat → Int → Int → Int} {LK : Nat → Int → Int → Int64} {z : Int → Int} {M : Int → Int → Int} (T : TI f bu Q R LF LK z M) (q : Int) : PH G A B ad (fun r w => ∃ f2 p2 : Int → Int, r = some (vI (nxC (R 0) (Q 0) q)) ∧ w = (tlW G A B lads f bu f2 p2 ff fp Q R LF LK z) ∧ (0 ≤ q ∧ q ≤ 5)) (fun E w => ∃ f2 p2 : Int → Int, w = (tlW G A B lads f bu f2 p2 ff fp Q R LF LK z) ∧ E = "java/lang/IllegalArgumentException" ∧ ¬ (0 ≤ q ∧ q ≤ 5)) (fun E k => (E = "java/lang/IllegalArgumentException" ∧ k = 1)) (fun r w => ∃ v : Int, r = some (vI v) ∧ (((¬ (0 ≤ q ∧ q ≤ 5)) ∧ v = 0 ∧ w = mW G ad (up M 0 (up (M 0) 0 1))) ∨ (((0 ≤ q ∧ q ≤ 5)) ∧ v = nxF (M 2) q ∧ ∃ (x y z : Int) (f8 f9 : Int → Int), w = mW G ad (up (up (up M 0 (up (up (up (up (M 0) 0 0) 20 x) 22 y) 23 z)) 8 f8) 9 f9)))) := by
  refine ⟨?_, ?_, fun E k h => cd_1 h⟩
  · intro z0 w1 r w2 hc hm
    obtain ⟨f2, p2, h1, rfl, hq⟩ := hc
    obtain ⟨v, rfl, ⟨c, rfl, rfl⟩ | ⟨c, rfl, x, y, w, f8, f9, rfl⟩⟩ := hm
    · exfalso; omega
    · refine ⟨_, rfl, ?_, LI_y T 0 x y w f8 f9⟩
      rw [so_i h1, nx_eq T.1]
  · intro E k w1 r w2 hc hk hm
    obtain ⟨f2, p2, rfl, rfl, hq⟩ := hc
    · obtain ⟨_, rfl⟩ := hk
      obtain ⟨v, rfl, ⟨c, rfl, rfl⟩ | ⟨c, rfl, x, y, w, f8, f9, rfl⟩⟩ := hm
      · exact ⟨_, rfl, LI_t T 1⟩
      · exfalso; omega
theorem ph_until {G : GG} {A : Nat → Nat} {B : Nat → Nat → Nat} {ad : Nat → Nat} {lads : Nat → Nat → Nat} {f bu cf cp ff fp : Int → Int} {Q : Nat → Int → Int → Int} {R : Nat → Int → Int → Int64} {LF : Nat → Int → Int → Int} {LK : Nat → Int → Int → Int64} {z : Int → Int} {M : Int → Int → Int} (T : TI f bu Q R LF LK z M) (rd q : Int) (hrd : rd = 0 ∨ rd = 1) : PH G A B ad (fun r w => (0 ≤ q ∧ q ≤ 1) ∧ ∃ (F1 : Int → Int → Int) (f2 p2 : Int → Int), r = some (vI (if q = 0 then tkL rd (R 0) (Q 0) else enV rd (R 0) (Q 0) 600)) ∧ w = (tlW G A B lads f bu cf cp f2 p2 (upN Q 3 F1) (upN R 3 (R 0)) LF LK z)) (fun E w => E = "java/lang/IllegalArgumentException" ∧ w = (tlW G A B lads f bu cf cp ff fp Q R LF LK z) ∧ ¬ (0 ≤ q ∧ q ≤ 1)) (fun E k => (E = "java/lang/IllegalArgumentException" ∧ k = 1)) (fun r w => ∃ v : Int, r = some (vI v) ∧ ((¬ (0 ≤ q ∧ q ≤ 1) ∧ w = mW G ad (up M 0 (up (M 0) 0 1))) ∨ ((0 ≤ q ∧ q ≤ 1) ∧ v = (if goO rd (-1) (M 2 4) (M 2) then (if q = 0 then goT rd (-1) (M 2 4) (M 2) else goN rd (-1) (M 2 4) (M 2)) else -1) ∧ ∃ (x y z a b : Int) (f4 f8 f9 : Int → Int), w = mW G ad (up (up (up (up M 0 (up (up (up (up (up (up (up (M 0) 0 0) 20 x) 22 y) 23 z) 24 0) 25 a) 26 b)) 4 f4) 8 f8) 9 f9)))) := by
  refine ⟨?_, ?_, fun E k h => cd_1 h⟩
  · intro z0 w1 r w2 hc hm
    obtain ⟨hq, F1, f2, p2, h1, rfl⟩ := hc
    obtain ⟨v, rfl, ⟨c, rfl⟩ | ⟨c, rfl, x, y, w, a, b, f4, f8, f9, rfl⟩⟩ := hm
    · exfalso; omega
    · refine ⟨_, rfl, ?_, LI_z T x y w a b f4 f8 f9 (fun n hn => ⟨if_neg (by omega), if_neg (by omega)⟩)⟩
      rw [so_i h1, until_eq hrd T.1 q]
  · intro E k w1 r w2 hc hk hm
    obtain ⟨rfl, rfl, hq⟩ := hc
    · obtain ⟨_, rfl⟩ := hk
      obtain ⟨v, rfl, ⟨c, rfl⟩ | ⟨c, rfl, x, y, w, a, b, f4, f8, f9, rfl⟩⟩ := hm
      · exact ⟨_, rfl, LI_t T 1⟩
      · exfalso; omega
theorem ph_delay {G : GG} {A : Nat → Nat} {B : Nat → Nat → Nat} {ad : Nat → Nat} {lads : Nat → Nat → Nat} {f bu cf cp ff fp : Int → Int} {Q : Nat → Int → Int → Int} {R : Nat → Int → Int → Int64} {LF : Nat → Int → Int → Int} {LK : Nat → Int → Int → Int64} {z : Int → Int} {M : Int → Int → Int} (T : TI f bu Q R LF LK z M) (q : Int) : PH G A B ad (fun r w => (0 ≤ q ∧ q < 2000) ∧ ∃ (F1 : Int → Int → Int) (f2 p2 : Int → Int), r = some (vI (dyL (R 0) (Q 0) q)) ∧ w = (tlW G A B lads f bu cf cp f2 p2 (upN Q 3 F1) (upN R 3 (R 0)) LF LK z)) (fun E w => E = "java/lang/IllegalArgumentException" ∧ w = (tlW G A B lads f bu cf cp ff fp Q R LF LK z) ∧ ¬ (0 ≤ q ∧ q < 2000)) (fun E k => (E = "java/lang/IllegalArgumentException" ∧ k = 1)) (fun r w => ∃ v : Int, r = some (vI v) ∧ ((¬ (0 ≤ q ∧ q ≤ 1999) ∧ w = mW G ad (up M 0 (up (M 0) 0 1))) ∨ ((0 ≤ q ∧ q ≤ 1999) ∧ v = deF q (M 2) ∧ ∃ (x y z a b : Int) (f4 f8 f9 : Int → Int), w = mW G ad (up (up (up (up M 0 (up (up (up (up (up (up (up (M 0) 0 0) 20 x) 22 y) 23 z) 24 0) 25 a) 26 b)) 4 f4) 8 f8) 9 f9)))) := by
  refine ⟨?_, ?_, fun E k h => cd_1 h⟩
  · intro z0 w1 r w2 hc hm
    obtain ⟨hq, F1, f2, p2, h1, rfl⟩ := hc
    obtain ⟨v, rfl, ⟨c, rfl⟩ | ⟨c, rfl, x, y, w, a, b, f4, f8, f9, rfl⟩⟩ := hm
    · exfalso; omega
    · refine ⟨_, rfl, ?_, LI_z T x y w a b f4 f8 f9 (fun n hn => ⟨if_neg (by omega), if_neg (by omega)⟩)⟩
      rw [so_i h1, delay_eq T.1 ⟨by omega, by omega⟩]
  · intro E k w1 r w2 hc hk hm
    obtain ⟨rfl, rfl, hq⟩ := hc
    · obtain ⟨_, rfl⟩ := hk
      obtain ⟨v, rfl, ⟨c, rfl⟩ | ⟨c, rfl, x, y, w, a, b, f4, f8, f9, rfl⟩⟩ := hm
      · exact ⟨_, rfl, LI_t T 1⟩
      · exfalso; omega
theorem ph_read {G : GG} {A : Nat → Nat} {B : Nat → Nat → Nat} {ad : Nat → Nat} {lads : Nat → Nat → Nat} {f bu cf cp ff fp : Int → Int} {Q : Nat → Int → Int → Int} {R : Nat → Int → Int → Int64} {LF : Nat → Int → Int → Int} {LK : Nat → Int → Int → Int64} {z : Int → Int} {M : Int → Int → Int} (T : TI f bu Q R LF LK z M) (s q : Int) : PH G A B ad (fun r w => ∃ (lads2 : Nat → Nat → Nat) (F1 : Int → Int → Int) (K1 : Int → Int → Int64), F1 = up (Q 0) (1 + s) (up (Q 0 (1 + s)) 2 (Q 0 (1 + s) 2 + q)) ∧ K1 = R 0 ∧ r = some (vI (Q 0 (1 + s) 1 - (Q 0 (1 + s) 2 + q))) ∧ w = (tlW G A B lads2 f bu cf cp ff fp (upN Q 0 F1) (upN R 0 K1) (kpS (z 0) LF (Q 0)) (kpS (z 0) LK (R 0)) (up z 0 (kpC (z 0)))) ∧ (0 ≤ s ∧ s ≤ 1) ∧ (1 ≤ q ∧ q ≤ 20) ∧ q ≤ Q 0 (1 + s) 1 - Q 0 (1 + s) 2) (fun E w => w = (tlW G A B lads f bu cf cp ff fp Q R LF LK z) ∧ ((E = "java/lang/IndexOutOfBoundsException" ∧ ¬ (0 ≤ s ∧ s ≤ 1)) ∨ (E = "java/lang/IllegalArgumentException" ∧ (0 ≤ s ∧ s ≤ 1) ∧ ¬ (1 ≤ q ∧ q ≤ 20)) ∨ (E = "java/lang/IllegalStateException" ∧ (0 ≤ s ∧ s ≤ 1) ∧ (1 ≤ q ∧ q ≤ 20) ∧ ¬ (q ≤ Q 0 (1 + s) 1 - Q 0 (1 + s) 2)))) (fun E k => (E = "java/lang/IndexOutOfBoundsException" ∧ k = 1) ∨ (E = "java/lang/IllegalArgumentException" ∧ k = 2) ∨ (E = "java/lang/IllegalStateException" ∧ k = 3)) (fun r w => ∃ v : Int, r = some (vI v) ∧ (((¬ (0 ≤ s ∧ s ≤ 1)) ∧ w = mW G ad (up M 0 (up (M 0) 0 1))) ∨ (((0 ≤ s ∧ s ≤ 1) ∧ ¬ (1 ≤ q ∧ q ≤ 20)) ∧ w = mW G ad (up M 0 (up (M 0) 0 2))) ∨ (((0 ≤ s ∧ s ≤ 1) ∧ (1 ≤ q ∧ q ≤ 20) ∧ M 2 (18 + 11 * s + 1) - M 2 (18 + 11 * s + 2) < q) ∧ w = mW G ad (up M 0 (up (M 0) 0 3))) ∨ (((0 ≤ s ∧ s ≤ 1) ∧ (1 ≤ q ∧ q ≤ 20) ∧ q ≤ M 2 (18 + 11 * s + 1) - M 2 (18 + 11 * s + 2)) ∧ v = ((M 2 ((18 + (11 * s)) + 1)) - ((M 2 ((18 + (11 * s)) + 2)) + q)) ∧ w = (mW G ad (up (up (up M 0 (up (up (M 0) 0 0) 14 (kpD (M 0 14) + 1))) 2 (up (M 2) ((18 + (11 * s)) + 2) ((M 2 ((18 + (11 * s)) + 2)) + q))) 5 (cpF (M 2) (kpH (M 0 14) (M 5)) 0 (kpD (M 0 14)) 441)))))) := by
  have e1 : (0 ≤ s ∧ s ≤ 1) → Q 0 (1 + s) 1 = M 2 (18 + 11 * s + 1) := fun hs => sta_eq T.1 hs (by decide)
  have e2 : (0 ≤ s ∧ s ≤ 1) → Q 0 (1 + s) 2 = M 2 (18 + 11 * s + 2) := fun hs => sta_eq T.1 hs (by decide)
  refine ⟨?_, ?_, fun E k h => cd_3 h⟩
  · intro z0 w1 r w2 hc hm
    obtain ⟨lads2, F1, K1, rfl, rfl, h1, rfl, hs, hq, hr⟩ := hc
    obtain ⟨v, rfl, ⟨c, rfl⟩ | ⟨c, rfl⟩ | ⟨⟨c, d, g⟩, rfl⟩ | ⟨⟨c, d, g⟩, rfl, rfl⟩⟩ := hm
    · exfalso; omega
    · exfalso; omega
    · exfalso
      have a1 := e1 hs
      have a2 := e2 hs
      omega
    · have a1 := e1 hs
      have a2 := e2 hs
      refine ⟨_, rfl, ?_, LI_kp T (GOOD_rd T.1 hs hq.1 (by omega))⟩
      rw [so_i h1]
      congr 1
      omega
  · intro E k w1 r w2 hc hk hm
    obtain ⟨rfl, ⟨rfl, h1⟩ | ⟨rfl, h1, h2⟩ | ⟨rfl, h1, h2, h3⟩⟩ := hc
    · obtain rfl : k = 1 := by
        rcases hk with ⟨e, e2⟩ | ⟨e, e2⟩ | ⟨e, e2⟩
        · exact e2
        · exact absurd e (by decide)
        · exact absurd e (by decide)
      obtain ⟨v, rfl, ⟨c, rfl⟩ | ⟨c, rfl⟩ | ⟨⟨c, d, g⟩, rfl⟩ | ⟨⟨c, d, g⟩, rfl, rfl⟩⟩ := hm
      · exact ⟨_, rfl, LI_t T 1⟩
      · exfalso; omega
      · exfalso; omega
      · exfalso; omega
    · obtain rfl : k = 2 := by
        rcases hk with ⟨e, e2⟩ | ⟨e, e2⟩ | ⟨e, e2⟩
        · exact absurd e (by decide)
        · exact e2
        · exact absurd e (by decide)
      obtain ⟨v, rfl, ⟨c, rfl⟩ | ⟨c, rfl⟩ | ⟨⟨c, d, g⟩, rfl⟩ | ⟨⟨c, d, g⟩, rfl, rfl⟩⟩ := hm
      · exfalso; omega
      · exact ⟨_, rfl, LI_t T 2⟩
      · exfalso; omega
      · exfalso; omega
    · obtain rfl : k = 3 := by
        rcases hk with ⟨e, e2⟩ | ⟨e, e2⟩ | ⟨e, e2⟩
        · exact absurd e (by decide)
        · exact absurd e (by decide)
        · exact e2
      obtain ⟨v, rfl, ⟨c, rfl⟩ | ⟨c, rfl⟩ | ⟨⟨c, d, g⟩, rfl⟩ | ⟨⟨c, d, g⟩, rfl, rfl⟩⟩ := hm
      · exfalso; omega
      · exfalso; omega
      · exact ⟨_, rfl, LI_t T 3⟩
      · exfalso
        have a1 := e1 h1
        have a2 := e2 h1
        omega
theorem ph_askBack {G : GG} {A : Nat → Nat} {B : Nat → Nat → Nat} {ad : Nat → Nat} {lads : Nat → Nat → Nat} {f bu cf cp ff fp : Int → Int} {Q : Nat → Int → Int → Int} {R : Nat → Int → Int → Int64} {LF : Nat → Int → Int → Int} {LK : Nat → Int → Int → Int64} {z : Int → Int} {M : Int → Int → Int} (T : TI f bu Q R LF LK z M) (s q : Int) : PH G A B ad (fun r w => ∃ (lads2 : Nat → Nat → Nat) (F1 : Int → Int → Int) (K1 : Int → Int → Int64), F1 = up (Q 0) (1 + s) (up (Q 0 (1 + s)) 4 (Q 0 (1 + s) 4 + q)) ∧ K1 = R 0 ∧ r = some (vI (Q 0 (1 + s) 4 + q)) ∧ w = (tlW G A B lads2 f bu cf cp ff fp (upN Q 0 F1) (upN R 0 K1) (kpS (z 0) LF (Q 0)) (kpS (z 0) LK (R 0)) (up z 0 (kpC (z 0)))) ∧ (0 ≤ s ∧ s ≤ 1) ∧ (1 ≤ q ∧ q ≤ 9) ∧ 1 ≤ Q 0 (1 + s) 3 - Q 0 (1 + s) 4 - q) (fun E w => w = (tlW G A B lads f bu cf cp ff fp Q R LF LK z) ∧ ((E = "java/lang/IndexOutOfBoundsException" ∧ ¬ (0 ≤ s ∧ s ≤ 1)) ∨ (E = "java/lang/IllegalArgumentException" ∧ (0 ≤ s ∧ s ≤ 1) ∧ ¬ (1 ≤ q ∧ q ≤ 9)) ∨ (E = "java/lang/IllegalStateException" ∧ (0 ≤ s ∧ s ≤ 1) ∧ (1 ≤ q ∧ q ≤ 9) ∧ ¬ (1 ≤ Q 0 (1 + s) 3 - Q 0 (1 + s) 4 - q)))) (fun E k => (E = "java/lang/IndexOutOfBoundsException" ∧ k = 1) ∨ (E = "java/lang/IllegalArgumentException" ∧ k = 2) ∨ (E = "java/lang/IllegalStateException" ∧ k = 3)) (fun r w => ∃ v : Int, r = some (vI v) ∧ (((¬ (0 ≤ s ∧ s ≤ 1)) ∧ w = mW G ad (up M 0 (up (M 0) 0 1))) ∨ (((0 ≤ s ∧ s ≤ 1) ∧ ¬ (1 ≤ q ∧ q ≤ 9)) ∧ w = mW G ad (up M 0 (up (M 0) 0 2))) ∨ (((0 ≤ s ∧ s ≤ 1) ∧ (1 ≤ q ∧ q ≤ 9) ∧ M 2 (18 + 11 * s + 3) - M 2 (18 + 11 * s + 4) - q < 1) ∧ w = mW G ad (up M 0 (up (M 0) 0 3))) ∨ (((0 ≤ s ∧ s ≤ 1) ∧ (1 ≤ q ∧ q ≤ 9) ∧ ¬ M 2 (18 + 11 * s + 3) - M 2 (18 + 11 * s + 4) - q < 1) ∧ v = ((M 2 ((18 + (11 * s)) + 4)) + q) ∧ w = (mW G ad (up (up (up M 0 (up (up (M 0) 0 0) 14 (kpD (M 0 14) + 1))) 2 (up (M 2) ((18 + (11 * s)) + 4) ((M 2 ((18 + (11 * s)) + 4)) + q))) 5 (cpF (M 2) (kpH (M 0 14) (M 5)) 0 (kpD (M 0 14)) 441)))))) := by
  have e3 : (0 ≤ s ∧ s ≤ 1) → Q 0 (1 + s) 3 = M 2 (18 + 11 * s + 3) := fun hs => sta_eq T.1 hs (by decide)
  have e4 : (0 ≤ s ∧ s ≤ 1) → Q 0 (1 + s) 4 = M 2 (18 + 11 * s + 4) := fun hs => sta_eq T.1 hs (by decide)
  refine ⟨?_, ?_, fun E k h => cd_3 h⟩
  · intro z0 w1 r w2 hc hm
    obtain ⟨lads2, F1, K1, rfl, rfl, h1, rfl, hs, hq, hr⟩ := hc
    obtain ⟨v, rfl, ⟨c, rfl⟩ | ⟨c, rfl⟩ | ⟨⟨c, d, g⟩, rfl⟩ | ⟨⟨c, d, g⟩, rfl, rfl⟩⟩ := hm
    · exfalso; omega
    · exfalso; omega
    · exfalso
      have a3 := e3 hs
      have a4 := e4 hs
      omega
    · have a3 := e3 hs
      have a4 := e4 hs
      refine ⟨_, rfl, ?_, LI_kp T (GOOD_ak T.1 hs hq.1 (by omega))⟩
      rw [so_i h1]
      congr 1
      omega
  · intro E k w1 r w2 hc hk hm
    obtain ⟨rfl, ⟨rfl, h1⟩ | ⟨rfl, h1, h2⟩ | ⟨rfl, h1, h2, h3⟩⟩ := hc
    · obtain rfl : k = 1 := by
        rcases hk with ⟨e, e2⟩ | ⟨e, e2⟩ | ⟨e, e2⟩
        · exact e2
        · exact absurd e (by decide)
        · exact absurd e (by decide)
      obtain ⟨v, rfl, ⟨c, rfl⟩ | ⟨c, rfl⟩ | ⟨⟨c, d, g⟩, rfl⟩ | ⟨⟨c, d, g⟩, rfl, rfl⟩⟩ := hm
      · exact ⟨_, rfl, LI_t T 1⟩
      · exfalso; omega
      · exfalso; omega
      · exfalso; omega
    · obtain rfl : k = 2 := by
        rcases hk with ⟨e, e2⟩ | ⟨e, e2⟩ | ⟨e, e2⟩
        · exact absurd e (by decide)
        · exact e2
        · exact absurd e (by decide)
      obtain ⟨v, rfl, ⟨c, rfl⟩ | ⟨c, rfl⟩ | ⟨⟨c, d, g⟩, rfl⟩ | ⟨⟨c, d, g⟩, rfl, rfl⟩⟩ := hm
      · exfalso; omega
      · exact ⟨_, rfl, LI_t T 2⟩
      · exfalso; omega
      · exfalso; omega
    · obtain rfl : k = 3 := by
        rcases hk with ⟨e, e2⟩ | ⟨e, e2⟩ | ⟨e, e2⟩
        · exact absurd e (by decide)
        · exact absurd e (by decide)
        · exact e2
      obtain ⟨v, rfl, ⟨c, rfl⟩ | ⟨c, rfl⟩ | ⟨⟨c, d, g⟩, rfl⟩ | ⟨⟨c, d, g⟩, rfl, rfl⟩⟩ := hm
      · exfalso; omega
      · exfalso; omega
      · exact ⟨_, rfl, LI_t T 3⟩
      · exfalso
        have a3 := e3 h1
        have a4 := e4 h1
        omega
theorem ph_grow {G : GG} {A : Nat → Nat} {B : Nat → Nat → Nat} {ad : Nat → Nat} {lads : Nat → Nat → Nat} {f bu cf cp ff fp : Int → Int} {Q : Nat → Int → Int → Int} {R : Nat → Int → Int → Int64} {LF : Nat → Int → Int → Int} {LK : Nat → Int → Int → Int64} {z : Int → Int} {M : Int → Int → Int} (T : TI f bu Q R LF LK z M) (s q : Int) : PH G A B ad (fun r w => ∃ (lads2 : Nat → Nat → Nat) (F1 : Int → Int → Int) (K1 : Int → Int → Int64), F1 = up (Q 0) (1 + s) (up (Q 0 (1 + s)) 3 (Q 0 (1 + s) 3 + q)) ∧ K1 = R 0 ∧ r = some (vI (Q 0 (1 + s) 3 + q)) ∧ w = (tlW G A B lads2 f bu cf cp ff fp (upN Q 0 F1) (upN R 0 K1) (kpS (z 0) LF (Q 0)) (kpS (z 0) LK (R 0)) (up z 0 (kpC (z 0)))) ∧ (0 ≤ s ∧ s ≤ 1) ∧ (1 ≤ q ∧ q ≤ 9) ∧ Q 0 (1 + s) 3 + q ≤ 9 ∧ Q 0 (1 + s) 4 ≤ 0) (fun E w => w = (tlW G A B lads f bu cf cp ff fp Q R LF LK z) ∧ ((E = "java/lang/IndexOutOfBoundsException" ∧ ¬ (0 ≤ s ∧ s ≤ 1)) ∨ (E = "java/lang/IllegalArgumentException" ∧ (0 ≤ s ∧ s ≤ 1) ∧ ¬ (1 ≤ q ∧ q ≤ 9)) ∨ (E = "java/lang/IllegalStateException" ∧ (0 ≤ s ∧ s ≤ 1) ∧ (1 ≤ q ∧ q ≤ 9) ∧ ¬ (Q 0 (1 + s) 3 + q ≤ 9 ∧ Q 0 (1 + s) 4 ≤ 0)))) (fun E k => (E = "java/lang/IndexOutOfBoundsException" ∧ k = 1) ∨ (E = "java/lang/IllegalArgumentException" ∧ k = 2) ∨ (E = "java/lang/IllegalStateException" ∧ k = 3)) (fun r w => ∃ v : Int, r = some (vI v) ∧ (((¬ (0 ≤ s ∧ s ≤ 1)) ∧ w = mW G ad (up M 0 (up (M 0) 0 1))) ∨ (((0 ≤ s ∧ s ≤ 1) ∧ ¬ (1 ≤ q ∧ q ≤ 9)) ∧ w = mW G ad (up M 0 (up (M 0) 0 2))) ∨ (((0 ≤ s ∧ s ≤ 1) ∧ (1 ≤ q ∧ q ≤ 9) ∧ (9 < M 2 (18 + 11 * s + 3) + q ∨ 0 < M 2 (18 + 11 * s + 4))) ∧ w = mW G ad (up M 0 (up (M 0) 0 3))) ∨ (((0 ≤ s ∧ s ≤ 1) ∧ (1 ≤ q ∧ q ≤ 9) ∧ ¬ (9 < M 2 (18 + 11 * s + 3) + q ∨ 0 < M 2 (18 + 11 * s + 4))) ∧ v = ((M 2 ((18 + (11 * s)) + 3)) + q) ∧ w = (mW G ad (up (up (up M 0 (up (up (M 0) 0 0) 14 (kpD (M 0 14) + 1))) 2 (up (M 2) ((18 + (11 * s)) + 3) ((M 2 ((18 + (11 * s)) + 3)) + q))) 5 (cpF (M 2) (kpH (M 0 14) (M 5)) 0 (kpD (M 0 14)) 441)))))) := by
  have e3 : (0 ≤ s ∧ s ≤ 1) → Q 0 (1 + s) 3 = M 2 (18 + 11 * s + 3) := fun hs => sta_eq T.1 hs (by decide)
  have e4 : (0 ≤ s ∧ s ≤ 1) → Q 0 (1 + s) 4 = M 2 (18 + 11 * s + 4) := fun hs => sta_eq T.1 hs (by decide)
  refine ⟨?_, ?_, fun E k h => cd_3 h⟩
  · intro z0 w1 r w2 hc hm
    obtain ⟨lads2, F1, K1, rfl, rfl, h1, rfl, hs, hq, hr, hr2⟩ := hc
    obtain ⟨v, rfl, ⟨c, rfl⟩ | ⟨c, rfl⟩ | ⟨⟨c, d, g⟩, rfl⟩ | ⟨⟨c, d, g⟩, rfl, rfl⟩⟩ := hm
    · exfalso; omega
    · exfalso; omega
    · exfalso
      have a3 := e3 hs
      have a4 := e4 hs
      omega
    · have a3 := e3 hs
      have a4 := e4 hs
      refine ⟨_, rfl, ?_, LI_kp T (GOOD_gr T.1 hs hq.1 (by omega))⟩
      rw [so_i h1]
      congr 1
      omega
  · intro E k w1 r w2 hc hk hm
    obtain ⟨rfl, ⟨rfl, h1⟩ | ⟨rfl, h1, h2⟩ | ⟨rfl, h1, h2, h3⟩⟩ := hc
    · obtain rfl : k = 1 := by
        rcases hk with ⟨e, e2⟩ | ⟨e, e2⟩ | ⟨e, e2⟩
        · exact e2
        · exact absurd e (by decide)
        · exact absurd e (by decide)
      obtain ⟨v, rfl, ⟨c, rfl⟩ | ⟨c, rfl⟩ | ⟨⟨c, d, g⟩, rfl⟩ | ⟨⟨c, d, g⟩, rfl, rfl⟩⟩ := hm
      · exact ⟨_, rfl, LI_t T 1⟩
      · exfalso; omega
      · exfalso; omega
      · exfalso; omega
    · obtain rfl : k = 2 := by
        rcases hk with ⟨e, e2⟩ | ⟨e, e2⟩ | ⟨e, e2⟩
        · exact absurd e (by decide)
        · exact e2
        · exact absurd e (by decide)
      obtain ⟨v, rfl, ⟨c, rfl⟩ | ⟨c, rfl⟩ | ⟨⟨c, d, g⟩, rfl⟩ | ⟨⟨c, d, g⟩, rfl, rfl⟩⟩ := hm
      · exfalso; omega
      · exact ⟨_, rfl, LI_t T 2⟩
      · exfalso; omega
      · exfalso; omega
    · obtain rfl : k = 3 := by
        rcases hk with ⟨e, e2⟩ | ⟨e, e2⟩ | ⟨e, e2⟩
        · exact absurd e (by decide)
        · exact absurd e (by decide)
        · exact e2
      obtain ⟨v, rfl, ⟨c, rfl⟩ | ⟨c, rfl⟩ | ⟨⟨c, d, g⟩, rfl⟩ | ⟨⟨c, d, g⟩, rfl, rfl⟩⟩ := hm
      · exfalso; omega
      · exfalso; omega
      · exact ⟨_, rfl, LI_t T 3⟩
      · exfalso
        have a3 := e3 h1
        have a4 := e4 h1
        omega
theorem ph_put {G : GG} {A : Nat → Nat} {B : Nat → Nat → Nat} {ad : Nat → Nat} {lads : Nat → Nat → Nat} {f bu cf cp ff fp : Int → Int} {Q : Nat → Int → Int → Int} {R : Nat → Int → Int → Int64} {LF : Nat → Int → Int → Int} {LK : Nat → Int → Int → Int64} {z : Int → Int} {M : Int → Int → Int} (T : TI f bu Q R LF LK z M) (s q : Int) (b0 : Int64) : PH G A B ad (fun r w => ∃ (lads2 : Nat → Nat → Nat) (F1 : Int → Int → Int) (K1 : Int → Int → Int64), F1 = up (up (Q 0) (1 + s) (adF (Q 0 (1 + s)))) (3 + s) (adL (Q 0 (1 + s)) (Q 0 (3 + s)) q) ∧ K1 = up (R 0) s (adC (Q 0 (1 + s)) (R 0 s) b0) ∧ r = some (vI (adF (Q 0 (1 + s)) 0 - 1)) ∧ w = (tlW G A B lads2 f bu cf cp ff fp (upN Q 0 F1) (upN R 0 K1) (kpS (z 0) LF (Q 0)) (kpS (z 0) LK (R 0)) (up z 0 (kpC (z 0)))) ∧ (0 ≤ s ∧ s ≤ 1) ∧ (1 ≤ q ∧ q ≤ 8) ∧ Q 0 (1 + s) 0 < 20) (fun E w => w = (tlW G A B lads f bu cf cp ff fp Q R LF LK z) ∧ ((E = "java/lang/IndexOutOfBoundsException" ∧ ¬ (0 ≤ s ∧ s ≤ 1)) ∨ (E = "java/lang/IllegalArgumentException" ∧ (0 ≤ s ∧ s ≤ 1) ∧ ¬ (1 ≤ q ∧ q ≤ 8)) ∨ (E = "java/lang/IllegalStateException" ∧ (0 ≤ s ∧ s ≤ 1) ∧ (1 ≤ q ∧ q ≤ 8) ∧ ¬ Q 0 (1 + s) 0 < 20))) (fun E k => (E = "java/lang/IndexOutOfBoundsException" ∧ k = 1) ∨ (E = "java/lang/IllegalArgumentException" ∧ k = 2) ∨ (E = "java/lang/IllegalStateException" ∧ k = 3)) (fun r w => ∃ v : Int, r = some (vI v) ∧ ((¬ (0 ≤ s ∧ s ≤ 1) ∧ w = mW G ad (up M 0 (up (M 0) 0 1))) ∨ (((0 ≤ s ∧ s ≤ 1) ∧ ¬ (1 ≤ q ∧ q ≤ 8)) ∧ w = mW G ad (up M 0 (up (M 0) 0 2))) ∨ ((((0 ≤ s ∧ s ≤ 1) ∧ (1 ≤ q ∧ q ≤ 8)) ∧ M 2 (18 + 11 * s + 0) = 20) ∧ w = mW G ad (up M 0 (up (M 0) 0 3))) ∨ ((((0 ≤ s ∧ s ≤ 1) ∧ (1 ≤ q ∧ q ≤ 8)) ∧ ¬ M 2 (18 + 11 * s + 0) = 20) ∧ v = M 2 (18 + 11 * s + 0) ∧ w = mW G ad (up (up (up M 0 (up (up (M 0) 0 0) 14 (kpD (M 0 14) + 1))) 2 (ptF b0 s q (M 2))) 5 (cpF (M 2) (kpH (M 0 14) (M 5)) 0 (kpD (M 0 14)) 441))))) := by
  have e0 : (0 ≤ s ∧ s ≤ 1) → Q 0 (1 + s) 0 = M 2 (18 + 11 * s + 0) := fun hs => sta_eq T.1 hs (by decide)
  have hn20 : (0 ≤ s ∧ s ≤ 1) → 0 ≤ M 2 (18 + 11 * s + 0) ∧ M 2 (18 + 11 * s + 0) ≤ 20 := fun hs => by
    rcases (show s = 0 ∨ s = 1 by omega) with rfl | rfl
    · exact T.1.2.1.2.1.1
    · exact T.1.2.1.2.2.1.1
  refine ⟨?_, ?_, fun E k h => cd_3 h⟩
  · intro z0 w1 r w2 hc hm
    obtain ⟨lads2, F1, K1, rfl, rfl, h1, rfl, hs, hq, hr⟩ := hc
    obtain ⟨v, rfl, ⟨c, rfl⟩ | ⟨c, rfl⟩ | ⟨⟨c, g⟩, rfl⟩ | ⟨⟨c, g⟩, rfl, rfl⟩⟩ := hm
    · exfalso; omega
    · exfalso; omega
    · exfalso
      have a0 := e0 hs
      have a20 := hn20 hs
      omega
    · have a0 := e0 hs
      have a20 := hn20 hs
      refine ⟨_, rfl, ?_, LI_kp T (GOOD_put T.1 hs hq (by rw [show 18 + 11 * s = 18 + 11 * s + 0 by omega, ← a0]; exact hr))⟩
      rw [so_i h1]
      have ad1 : adF (Q 0 (1 + s)) = up (Q 0 (1 + s)) 0 (Q 0 (1 + s) 0 + 1) := if_pos ⟨by omega, hr⟩
      rw [ad1, up_s]
      congr 1
      omega
  · intro E k w1 r w2 hc hk hm
    obtain ⟨rfl, ⟨rfl, h1⟩ | ⟨rfl, h1, h2⟩ | ⟨rfl, h1, h2, h3⟩⟩ := hc
    · obtain rfl : k = 1 := by
        rcases hk with ⟨e, e2⟩ | ⟨e, e2⟩ | ⟨e, e2⟩
        · exact e2
        · exact absurd e (by decide)
        · exact absurd e (by decide)
      obtain ⟨v, rfl, ⟨c, rfl⟩ | ⟨c, rfl⟩ | ⟨⟨c, g⟩, rfl⟩ | ⟨⟨c, g⟩, rfl, rfl⟩⟩ := hm
      · exact ⟨_, rfl, LI_t T 1⟩
      · exfalso; omega
      · exfalso; omega
      · exfalso; omega
    · obtain rfl : k = 2 := by
        rcases hk with ⟨e, e2⟩ | ⟨e, e2⟩ | ⟨e, e2⟩
        · exact absurd e (by decide)
        · exact e2
        · exact absurd e (by decide)
      obtain ⟨v, rfl, ⟨c, rfl⟩ | ⟨c, rfl⟩ | ⟨⟨c, g⟩, rfl⟩ | ⟨⟨c, g⟩, rfl, rfl⟩⟩ := hm
      · exfalso; omega
      · exact ⟨_, rfl, LI_t T 2⟩
      · exfalso; omega
      · exfalso; omega
    · obtain rfl : k = 3 := by
        rcases hk with ⟨e, e2⟩ | ⟨e, e2⟩ | ⟨e, e2⟩
        · exact absurd e (by decide)
        · exact absurd e (by decide)
        · exact e2
      obtain ⟨v, rfl, ⟨c, rfl⟩ | ⟨c, rfl⟩ | ⟨⟨c, g⟩, rfl⟩ | ⟨⟨c, g⟩, rfl, rfl⟩⟩ := hm
      · exfalso; omega
      · exfalso; omega
      · exact ⟨_, rfl, LI_t T 3⟩
      · exfalso
        have a0 := e0 h1
        have a20 := hn20 h1
        omega
theorem ph_lose {G : GG} {A : Nat → Nat} {B : Nat → Nat → Nat} {ad : Nat → Nat} {lads : Nat → Nat → Nat} {f bu cf cp ff fp : Int → Int} {Q : Nat → Int → Int → Int} {R : Nat → Int → Int → Int64} {LF : Nat → Int → Int → Int} {LK : Nat → Int → Int → Int64} {z : Int → Int} {M : Int → Int → Int} (T : TI f bu Q R LF LK z M) (q : Int) : PH G A B ad (fun r w => ∃ (lads2 : Nat → Nat → Nat) (F1 : Int → Int → Int) (K1 : Int → Int → Int64), F1 = tLF (R 0) q (Q 0) ∧ K1 = tLK q (R 0) ∧ r = some (vI (F1 0 7)) ∧ w = (tlW G A B lads2 f bu cf cp ff fp (upN Q 0 F1) (upN R 0 K1) (kpS (z 0) LF (Q 0)) (kpS (z 0) LK (R 0)) (up z 0 (kpC (z 0)))) ∧ (0 ≤ q ∧ q < 2000) ∧ ¬ q < Q 0 5 0 ∧ ¬ tlL (R 0 2) q ∧ Q 0 0 7 < 40) (fun E w => w = (tlW G A B lads f bu cf cp ff fp Q R LF LK z) ∧ ((E = "java/lang/IllegalArgumentException" ∧ ¬ (0 ≤ q ∧ q < 2000)) ∨ (E = "java/lang/IllegalStateException" ∧ (0 ≤ q ∧ q < 2000) ∧ ¬ (¬ q < Q 0 5 0 ∧ ¬ tlL (R 0 2) q ∧ Q 0 0 7 < 40)))) (fun E k => (E = "java/lang/IllegalArgumentException" ∧ k = 1) ∨ (E = "java/lang/IllegalStateException" ∧ k = 2)) (fun r w => ∃ v : Int, r = some (vI v) ∧ (((¬ (0 ≤ q ∧ q ≤ 1999)) ∧ w = mW G ad (up M 0 (up (M 0) 0 1))) ∨ (((0 ≤ q ∧ q ≤ 1999) ∧ (q < M 2 3 ∨ ¬ lz (M 2) q = 0 ∨ M 2 7 = 40)) ∧ w = mW G ad (up M 0 (up (M 0) 0 2))) ∨ (((0 ≤ q ∧ q ≤ 1999) ∧ ¬ (q < M 2 3 ∨ ¬ lz (M 2) q = 0 ∨ M 2 7 = 40)) ∧ v = ((M 2 7) + 1) ∧ w = (mW G ad (up (up (up M 0 (up (up (M 0) 0 0) 14 (kpD (M 0 14) + 1))) 2 (up (up (M 2) (400 + (M 2 7)) q) 7 ((M 2 7) + 1))) 5 (cpF (M 2) (kpH (M 0 14) (M 5)) 0 (kpD (M 0 14)) 441)))))) := by
  have e3 : Q 0 5 0 = M 2 3 := by
    have t := acc_eq T.1 (q := 0) (by decide)
    rw [t]
    exact T.1.2.1.2.2.2.2.1.1
  have e7 : Q 0 0 7 = M 2 7 := T.1.2.2.2.2.2.2.2.1
  have el := T.1.2.2.2.2.2.2.2.2
  have e40 := T.1.2.2.2.1
  refine ⟨?_, ?_, fun E k h => cd_2 h⟩
  · intro z0 w1 r w2 hc hm
    obtain ⟨lads2, F1, K1, rfl, rfl, h1, rfl, hq, h3, hl, h40⟩ := hc
    obtain ⟨v, rfl, ⟨c, rfl⟩ | ⟨⟨c, g⟩, rfl⟩ | ⟨⟨c, g⟩, rfl, rfl⟩⟩ := hm
    · exfalso; omega
    · exfalso
      rcases g with g | g | g
      · omega
      · exact hl ((el q hq.1).mpr g)
      · omega
    · have hl0 : lz (M 2) q = 0 := Classical.byContradiction (fun a => g (Or.inr (Or.inl a)))
      refine ⟨_, rfl, ?_, LI_kp T (GOOD_los T.1 hq (by omega) hl0 (by omega))⟩
      have tF : tLF (R 0) q (Q 0) = up (Q 0) 0 (up (Q 0 0) 7 (Q 0 0 7 + 1)) := if_pos ⟨hq, hl⟩
      rw [so_i h1, tF, up_s, up_s, e7]
  · intro E k w1 r w2 hc hk hm
    obtain ⟨rfl, ⟨rfl, h1⟩ | ⟨rfl, h1, h2⟩⟩ := hc
    · obtain rfl : k = 1 := by
        rcases hk with ⟨e, e2⟩ | ⟨e, e2⟩
        · exact e2
        · exact absurd e (by decide)
      obtain ⟨v, rfl, ⟨c, rfl⟩ | ⟨⟨c, g⟩, rfl⟩ | ⟨⟨c, g⟩, rfl, rfl⟩⟩ := hm
      · exact ⟨_, rfl, LI_t T 1⟩
      · exfalso; omega
      · exfalso; omega
    · obtain rfl : k = 2 := by
        rcases hk with ⟨e, e2⟩ | ⟨e, e2⟩
        · exact absurd e (by decide)
        · exact e2
      obtain ⟨v, rfl, ⟨c, rfl⟩ | ⟨⟨c, g⟩, rfl⟩ | ⟨⟨c, g⟩, rfl, rfl⟩⟩ := hm
      · exfalso; omega
      · exact ⟨_, rfl, LI_t T 2⟩
      · exfalso
        refine h2 ⟨by omega, fun a => (el q h1.1).mp a (Classical.byContradiction (fun b => g (Or.inr (Or.inl b)))), by omega⟩
theorem ph_set {G : GG} {A : Nat → Nat} {B : Nat → Nat → Nat} {ad : Nat → Nat} {lads : Nat → Nat → Nat} {f bu cf cp ff fp : Int → Int} {Q : Nat → Int → Int → Int} {R : Nat → Int → Int → Int64} {LF : Nat → Int → Int → Int} {LK : Nat → Int → Int → Int64} {z : Int → Int} {M : Int → Int → Int} (T : TI f bu Q R LF LK z M) (p q : Int) : PH G A B ad (fun r w => ∃ (lads2 : Nat → Nat → Nat) (F1 : Int → Int → Int) (K1 : Int → Int → Int64), F1 = up (Q 0) 0 (up (up (Q 0 0) 4 p) 5 q) ∧ K1 = R 0 ∧ r = some (vI (Q 0 0 4)) ∧ w = (tlW G A B lads2 f bu cf cp ff fp (upN Q 0 F1) (upN R 0 K1) (kpS (z 0) LF (Q 0)) (kpS (z 0) LK (R 0)) (up z 0 (kpC (z 0)))) ∧ (1 ≤ p ∧ p ≤ 7) ∧ (1 ≤ q ∧ q ≤ 99)) (fun E w => w = (tlW G A B lads f bu cf cp ff fp Q R LF LK z) ∧ (E = "java/lang/IllegalArgumentException" ∧ ¬ ((1 ≤ p ∧ p ≤ 7) ∧ (1 ≤ q ∧ q ≤ 99)))) (fun E k => (E = "java/lang/IllegalArgumentException" ∧ k = 1)) (fun r w => ∃ v : Int, r = some (vI v) ∧ (((¬ ((1 ≤ p ∧ p ≤ 7) ∧ (1 ≤ q ∧ q ≤ 99))) ∧ w = mW G ad (up M 0 (up (M 0) 0 1))) ∨ (((1 ≤ p ∧ p ≤ 7) ∧ (1 ≤ q ∧ q ≤ 99)) ∧ v = (M 2 4) ∧ w = (mW G ad (up (up (up M 0 (up (up (M 0) 0 0) 14 (kpD (M 0 14) + 1))) 2 (up (up (M 2) 4 p) 5 q)) 5 (cpF (M 2) (kpH (M 0 14) (M 5)) 0 (kpD (M 0 14)) 441)))))) := by
  refine ⟨?_, ?_, fun E k h => cd_1 h⟩
  · intro z0 w1 r w2 hc hm
    obtain ⟨lads2, F1, K1, rfl, rfl, h1, rfl, hp, hq⟩ := hc
    obtain ⟨v, rfl, ⟨c, rfl⟩ | ⟨c, rfl, rfl⟩⟩ := hm
    · exact absurd ⟨hp, hq⟩ c
    · refine ⟨_, rfl, ?_, LI_kp T (GOOD_set T.1 hp hq)⟩
      rw [so_i h1, T.1.1.1.1.2.2.1]
  · intro E k w1 r w2 hc hk hm
    obtain ⟨rfl, rfl, h1⟩ := hc
    · obtain ⟨_, rfl⟩ := hk
      obtain ⟨v, rfl, ⟨c, rfl⟩ | ⟨c, rfl, rfl⟩⟩ := hm
      · exact ⟨_, rfl, LI_t T 1⟩
      · exact absurd c h1
theorem ph_run {G : GG} {A : Nat → Nat} {B : Nat → Nat → Nat} {ad : Nat → Nat} {lads : Nat → Nat → Nat} {f bu cf cp ff fp : Int → Int} {Q : Nat → Int → Int → Int} {R : Nat → Int → Int → Int64} {LF : Nat → Int → Int → Int} {LK : Nat → Int → Int → Int64} {z : Int → Int} {M : Int → Int → Int} (T : TI f bu Q R LF LK z M) (q : Int) : PH G A B ad (fun r w => ∃ (lads2 : Nat → Nat → Nat) (F1 : Int → Int → Int) (K1 : Int → Int → Int64) (f2 p2 : Int → Int), F1 = itL 0 (R 0) (Q 0) q.toNat ∧ K1 = R 0 ∧ r = some (vI (tmL F1)) ∧ w = (tlW G A B lads2 f bu f2 p2 ff fp (upN Q 0 F1) (upN R 0 K1) (kpS (z 0) LF (Q 0)) (kpS (z 0) LK (R 0)) (up z 0 (kpC (z 0)))) ∧ (1 ≤ q ∧ q ≤ 100) ∧ Q 0 5 0 + q ≤ 2000) (fun E w => w = (tlW G A B lads f bu cf cp ff fp Q R LF LK z) ∧ ((E = "java/lang/IllegalArgumentException" ∧ ¬ (1 ≤ q ∧ q ≤ 100)) ∨ (E = "java/lang/IllegalStateException" ∧ (1 ≤ q ∧ q ≤ 100) ∧ ¬ (Q 0 5 0 + q ≤ 2000)))) (fun E k => (E = "java/lang/IllegalArgumentException" ∧ k = 1) ∨ (E = "java/lang/IllegalStateException" ∧ k = 2)) (fun r w => ∃ v : Int, r = some (vI v) ∧ ((¬ (1 ≤ q ∧ q ≤ 100) ∧ w = mW G ad (up M 0 (up (M 0) 0 1))) ∨ (((1 ≤ q ∧ q ≤ 100) ∧ 2000 < M 2 3 + q) ∧ w = mW G ad (up M 0 (up (M 0) 0 2))) ∨ (((1 ≤ q ∧ q ≤ 100) ∧ M 2 3 + q ≤ 2000) ∧ v = itF (M 0 24) (M 2) q.toNat 0 ∧ ∃ (x y z : Int) (f8 f9 : Int → Int), w = mW G ad (up (up (up (up (up M 0 (up (up (up (up (up (M 0) 0 0) 14 (kpD (M 0 14) + 1)) 20 x) 22 y) 23 z)) 2 (itF (M 0 24) (M 2) q.toNat)) 5 (cpF (M 2) (kpH (M 0 14) (M 5)) 0 (kpD (M 0 14)) 441)) 8 f8) 9 f9)))) := by
  have e3 : Q 0 5 0 = M 2 3 := by
    have t := acc_eq T.1 (q := 0) (by decide)
    rw [t]
    exact T.1.2.1.2.2.2.2.1.1
  have e24 : M 0 24 = 0 := T.2.2.2.2.2.2.2.2.2.2
  refine ⟨?_, ?_, fun E k h => cd_2 h⟩
  · intro z0 w1 r w2 hc hm
    obtain ⟨lads2, F1, K1, f2, p2, rfl, rfl, h1, rfl, hq, hr⟩ := hc
    obtain ⟨v, rfl, ⟨c, rfl⟩ | ⟨⟨c, g⟩, rfl⟩ | ⟨⟨c, g⟩, rfl, x, y, w, f8, f9, rfl⟩⟩ := hm
    · exfalso; omega
    · exfalso; omega
    · rw [e24]
      have gg := GOOD_run T.1 q.toNat (by omega)
      refine ⟨_, rfl, ?_, LI_kq T gg x y w f8 f9⟩
      rw [so_i h1, tm_eq gg.1 gg.2.1]
  · intro E k w1 r w2 hc hk hm
    obtain ⟨rfl, ⟨rfl, h1⟩ | ⟨rfl, h1, h2⟩⟩ := hc
    · obtain rfl : k = 1 := by
        rcases hk with ⟨e, e2⟩ | ⟨e, e2⟩
        · exact e2
        · exact absurd e (by decide)
      obtain ⟨v, rfl, ⟨c, rfl⟩ | ⟨⟨c, g⟩, rfl⟩ | ⟨⟨c, g⟩, rfl, x, y, w, f8, f9, rfl⟩⟩ := hm
      · exact ⟨_, rfl, LI_t T 1⟩
      · exfalso; omega
      · exfalso; omega
    · obtain rfl : k = 2 := by
        rcases hk with ⟨e, e2⟩ | ⟨e, e2⟩
        · exact absurd e (by decide)
        · exact e2
      obtain ⟨v, rfl, ⟨c, rfl⟩ | ⟨⟨c, g⟩, rfl⟩ | ⟨⟨c, g⟩, rfl, x, y, w, f8, f9, rfl⟩⟩ := hm
      · exfalso; omega
      · exact ⟨_, rfl, LI_t T 2⟩
      · exfalso; omega
end Pairs
