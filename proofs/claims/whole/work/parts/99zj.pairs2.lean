section Pairs2
theorem pd_isTold {G : GG} {A : Nat → Nat} {B : Nat → Nat → Nat} {ad : Nat → Nat} {lads : Nat → Nat → Nat} {f bu cf cp ff fp : Int → Int} {Q : Nat → Int → Int → Int} {R : Nat → Int → Int → Int64} {LF : Nat → Int → Int → Int} {LK : Nat → Int → Int → Int64} {z : Int → Int} {M : Int → Int → Int} (T : TI f bu Q R LF LK z M) (q : Int) : PD G A B ad (fun r w => r = some (vI (bI (tlL (R 0 2) q))) ∧ w = (tlW G A B lads f bu cf cp ff fp Q R LF LK z)) (fun r w => ∃ v : Int, r = some (vI v) ∧ ((v = (lz (M 2) q) ∧ w = (mW G ad (up M 0 (up (M 0) 0 0)))))) := by
  rintro r1 w1 r2 w2 ⟨rfl, rfl⟩ ⟨v, rfl, rfl, rfl⟩
  have e : bI (tlL (R 0 2) q) = lz (M 2) q := by
    by_cases c : 0 ≤ q
    · exact told_eq T.1 c
    · exact told_neg T.1 (by omega)
  obtain ⟨v, a1, a2, a3⟩ := so_v rfl rfl e
  exact ⟨v, a1, a2, a3, 0, LI_t T 0⟩
theorem pd_nextByte {G : GG} {A : Nat → Nat} {B : Nat → Nat → Nat} {ad : Nat → Nat} {lads : Nat → Nat → Nat} {f bu cf cp ff fp : Int → Int} {Q : Nat → Int → Int → Int} {R : Nat → Int → Int → Int64} {LF : Nat → Int → Int → Int} {LK : Nat → Int → Int → Int64} {z : Int → Int} {M : Int → Int → Int} (T : TI f bu Q R LF LK z M) (q : Int) : PD G A B ad (fun r w => ∃ (v : Int) (f2 p2 : Int → Int), r = some (vI v) ∧ w = (tlW G A B lads f bu f2 p2 ff fp Q R LF LK z) ∧ (∀ li : Int → Int, LSp li (pbL (Q 0) (R 0)) (7 + dlL (Q 0)) → li (1 + (7 + dlL (Q 0)) + escI (pbL (Q 0) (R 0)) (7 + dlL (Q 0))) = 126 → v = if 0 ≤ q ∧ q ≤ (1 + (7 + dlL (Q 0)) + escI (pbL (Q 0) (R 0)) (7 + dlL (Q 0))) then li q else -1)) (fun r w => ∃ v : Int, r = some (vI v) ∧ (((0 ≤ q ∧ q ≤ 2 + (7 + dl (M 2)) + escI (pbF (M 2)) (7 + dl (M 2)) - 1) ∧ (∃ f9 : Int → Int, LSp f9 (pbF (M 2)) (7 + dl (M 2)) ∧ f9 (1 + (7 + dl (M 2)) + escI (pbF (M 2)) (7 + dl (M 2))) = 126 ∧ v = f9 q) ∧ ∃ (x y z : Int) (f8 f9 : Int → Int), w = mW G ad (up (up (up M 0 (up (up (up (up (M 0) 0 0) 20 x) 22 y) 23 z)) 8 f8) 9 f9)) ∨ (¬ (0 ≤ q ∧ q ≤ 2 + (7 + dl (M 2)) + escI (pbF (M 2)) (7 + dl (M 2)) - 1) ∧ v = -1 ∧ ∃ (x y z : Int) (f8 f9 : Int → Int), w = mW G ad (up (up (up M 0 (up (up (up (up (M 0) 0 0) 20 x) 22 y) 23 z)) 8 f8) 9 f9)))) := by
  rintro r1 w1 r2 w2 ⟨v, f2, p2, rfl, rfl, hv⟩ ⟨v2, rfl, h⟩
  obtain ⟨n1, n2⟩ := nb_eq T.1 hv
  rcases h with ⟨c, ⟨f9, l1, l2, rfl⟩, x, y, w, f8, f9b, rfl⟩ | ⟨c, rfl, x, y, w, f8, f9b, rfl⟩
  · obtain ⟨u, a1, a2, a3⟩ := so_v rfl rfl (n1 f9 l1 l2 c)
    exact ⟨u, a1, a2, a3, 0, LI_y T 0 x y w f8 f9b⟩
  · obtain ⟨u, a1, a2, a3⟩ := so_v rfl rfl (n2 c)
    exact ⟨u, a1, a2, a3, 0, LI_y T 0 x y w f8 f9b⟩
theorem pd_worstFrame {G : GG} {A : Nat → Nat} {B : Nat → Nat → Nat} {ad : Nat → Nat} {lads : Nat → Nat → Nat} {f bu cf cp ff fp : Int → Int} {Q : Nat → Int → Int → Int} {R : Nat → Int → Int → Int64} {LF : Nat → Int → Int → Int} {LK : Nat → Int → Int → Int64} {z : Int → Int} {M : Int → Int → Int} (T : TI f bu Q R LF LK z M)  : PD G A B ad (fun r w => ∃ (F1 F3 : Int → Int → Int) (K1 K3 : Int → Int → Int64) (f2 p2 : Int → Int), r = some (vI (wsL (R 0) (Q 0))) ∧ w = (tlW G A B lads f bu cf cp f2 p2 (upN (upN Q 3 F1) 4 F3) (upN (upN R 3 K1) 4 K3) LF LK z)) (fun r w => ∃ v : Int, r = some (vI v) ∧ v = wfF (M 2) ∧ ∃ (x y z a b : Int) (f4 f8 f9 : Int → Int), w = mW G ad (up (up (up (up M 0 (up (up (up (up (up (up (up (M 0) 0 0) 20 x) 22 y) 23 z) 24 0) 25 a) 26 b)) 4 f4) 8 f8) 9 f9)) := by
  rintro r1 w1 r2 w2 ⟨F1, F3, K1, K3, f2, p2, rfl, rfl⟩ ⟨v, rfl, rfl, x, y, w, a, b, f4, f8, f9, rfl⟩
  obtain ⟨u, a1, a2, a3⟩ := so_v rfl rfl (worst_eq T.1)
  exact ⟨u, a1, a2, a3, 0, LI_z T x y w a b f4 f8 f9 (fun n hn => ⟨(if_neg (by omega)).trans (if_neg (by omega)), (if_neg (by omega)).trans (if_neg (by omega))⟩)⟩
theorem pd_bestBurst {G : GG} {A : Nat → Nat} {B : Nat → Nat → Nat} {ad : Nat → Nat} {lads : Nat → Nat → Nat} {f bu cf cp ff fp : Int → Int} {Q : Nat → Int → Int → Int} {R : Nat → Int → Int → Int64} {LF : Nat → Int → Int → Int} {LK : Nat → Int → Int → Int64} {z : Int → Int} {M : Int → Int → Int} (T : TI f bu Q R LF LK z M)  : PD G A B ad (fun r w => ∃ (F1 : Int → Int → Int) (K1 : Int → Int → Int64) (f2 p2 : Int → Int), r = some (vI (bbL (R 0) (Q 0) 7).1) ∧ w = (tlW G A B lads f bu cf cp f2 p2 (upN Q 3 F1) (upN R 3 K1) LF LK z)) (fun r w => ∃ v : Int, r = some (vI v) ∧ v = (bbB (M 2) 7).1 ∧ ∃ (x y z a b : Int) (f4 f8 f9 : Int → Int), w = mW G ad (up (up (up (up M 0 (up (up (up (up (up (up (up (M 0) 0 0) 20 x) 22 y) 23 z) 24 0) 25 a) 26 b)) 4 f4) 8 f8) 9 f9)) := by
  rintro r1 w1 r2 w2 ⟨F1, K1, f2, p2, rfl, rfl⟩ ⟨v, rfl, rfl, x, y, w, a, b, f4, f8, f9, rfl⟩
  obtain ⟨u, a1, a2, a3⟩ := so_v rfl rfl (best_eq T.1 7 (by decide)).1
  exact ⟨u, a1, a2, a3, 0, LI_z T x y w a b f4 f8 f9 (fun n hn => ⟨if_neg (by omega), if_neg (by omega)⟩)⟩
theorem pd_undo {G : GG} {A : Nat → Nat} {B : Nat → Nat → Nat} {ad : Nat → Nat} {lads : Nat → Nat → Nat} {f bu cf cp ff fp : Int → Int} {Q : Nat → Int → Int → Int} {R : Nat → Int → Int → Int64} {LF : Nat → Int → Int → Int} {LK : Nat → Int → Int → Int64} {z : Int → Int} {M : Int → Int → Int} (T : TI f bu Q R LF LK z M)  : PD G A B ad (fun r w => ∃ (F1 : Int → Int → Int) (K1 : Int → Int → Int64) (c1 : Int), ((z 0 = 0 ∧ F1 = Q 0 ∧ K1 = R 0 ∧ c1 = z 0 ∧ r = some (vI (-1))) ∨ (1 ≤ z 0 ∧ F1 = LF (z 0 - 1).toNat ∧ K1 = LK (z 0 - 1).toNat ∧ c1 = z 0 - 1 ∧ r = some (vI (z 0 - 1)))) ∧ w = (tlW G A B lads f bu cf cp ff fp (upN Q 0 F1) (upN R 0 K1) LF LK (up z 0 c1))) (fun r w => ∃ v : Int, r = some (vI v) ∧ (((M 0 14 = 0) ∧ v = (-1) ∧ w = (mW G ad (up M 0 (up (M 0) 0 0)))) ∨ ((¬ M 0 14 = 0) ∧ v = ((M 0 14) - 1) ∧ w = (mW G ad (up (up M 0 (up (up (M 0) 0 0) 14 ((M 0 14) - 1))) 2 (cpF (M 5) (M 2) ((M 0 14) - 1) 0 441)))))) := by
  rintro r1 w1 r2 w2 ⟨F1, K1, c1, h, rfl⟩ ⟨v, rfl, h2⟩
  have e14 : M 0 14 = z 0 := T.2.2.1.2.1
  have hc := T.2.2.1.1
  rcases h with ⟨z0, rfl, rfl, rfl, rfl⟩ | ⟨z0, rfl, rfl, rfl, rfl⟩
  · rcases h2 with ⟨g, rfl, rfl⟩ | ⟨g, rfl, rfl⟩
    · obtain ⟨u, a1, a2, a3⟩ := so_v (a := -1) (b := -1) rfl rfl rfl
      refine ⟨u, a1, a2, a3, 0, ⟨lads, f, bu, cf, cp, ff, fp, _, _, _, _, _, _, TI_sc T (fun n hn => ?_) ⟨up_s, up_n (by decide), up_n (by decide)⟩ (fun i hi => up_n (by omega)) (fun j hj => by rw [up_s, up_n (by omega)]), by rw [up_s, up_s], rfl, rfl⟩⟩
      by_cases e : n = 0
      · rw [e]; exact ⟨if_pos rfl, if_pos rfl⟩
      · exact ⟨if_neg e, if_neg e⟩
    · exfalso; omega
  · rcases h2 with ⟨g, rfl, rfl⟩ | ⟨g, rfl, rfl⟩
    · exfalso; omega
    · obtain ⟨u, a1, a2, a3⟩ := so_v (a := z 0 - 1) (b := M 0 14 - 1) rfl rfl (by omega)
      exact ⟨u, a1, a2, a3, 0, ⟨lads, f, bu, cf, cp, ff, fp, _, _, _, _, _, _, TI_un T z0 ⟨if_pos rfl, if_pos rfl⟩ (fun n hn => ⟨if_neg (by omega), if_neg (by omega)⟩) ⟨up_s, up_n (by decide), up_n (by decide)⟩ up_s (fun i hi => by rw [up_n (by omega), up_n (by omega)]) (by rw [up_n (by decide), up_s, up_s]) (fun j hj => by rw [up_n (by decide), up_s, up_n (by omega), up_n (by omega)]), by rw [up_n (by decide), up_s, up_n (by decide), up_s], rfl, rfl⟩⟩
theorem pd_saveSnapshot {G : GG} {A : Nat → Nat} {B : Nat → Nat → Nat} {ad : Nat → Nat} {lads : Nat → Nat → Nat} {f bu cf cp ff fp : Int → Int} {Q : Nat → Int → Int → Int} {R : Nat → Int → Int → Int64} {LF : Nat → Int → Int → Int} {LK : Nat → Int → Int → Int64} {z : Int → Int} {M : Int → Int → Int} (T : TI f bu Q R LF LK z M) (q : Int) : PD G A B ad (fun r w => (q = 0 ∧ r = some (vI 1) ∧ w = (tlW G A B lads f bu cf cp ff fp (upN Q 5 (Q 0)) (upN R 5 (R 0)) LF LK (up z 1 1))) ∨ (q = 1 ∧ r = some (vI 1) ∧ w = (tlW G A B lads f bu cf cp ff fp (upN Q 6 (Q 0)) (upN R 6 (R 0)) LF LK (up z 2 1))) ∨ (¬ (0 ≤ q ∧ q ≤ 1) ∧ r = some (vI 0) ∧ w = (tlW G A B lads f bu cf cp ff fp Q R LF LK z))) (fun r w => ∃ v : Int, r = some (vI v) ∧ (((¬ (0 ≤ q ∧ q ≤ 1)) ∧ v = 0 ∧ w = (mW G ad (up M 0 (up (M 0) 0 0)))) ∨ (((0 ≤ q ∧ q ≤ 1)) ∧ v = 1 ∧ w = (mW G ad (up (up (up M 0 (up (M 0) 0 0)) 6 (cpF (M 2) (M 6) 0 q 441)) 7 (up (M 7) q 1)))))) := by
  rintro r1 w1 r2 w2 h1 ⟨v, rfl, h2⟩
  rcases h1 with ⟨rfl, rfl, rfl⟩ | ⟨rfl, rfl, rfl⟩ | ⟨g, rfl, rfl⟩
  · rcases h2 with ⟨c, rfl, rfl⟩ | ⟨c, rfl, rfl⟩
    · exact absurd (by decide) c
    · obtain ⟨u, a1, a2, a3⟩ := so_v (a := 1) (b := 1) rfl rfl rfl
      exact ⟨u, a1, a2, a3, 0, ⟨lads, f, bu, cf, cp, ff, fp, _, _, _, _, _, _, TI_s0 T ⟨if_pos rfl, if_pos rfl⟩ (fun n hn => ⟨if_neg (by omega), if_neg (by omega)⟩) ⟨up_n (by decide), up_s, up_n (by decide)⟩ (by rw [up_n (by decide), up_s]) up_s (fun i hi => by rw [up_n (by omega), up_n (by omega), up_n (by omega)]) (fun j hj => by rw [up_n (by decide), up_n (by decide), up_s, up_n (by omega)]), by rw [up_n (by decide), up_n (by decide), up_s, up_s], rfl, rfl⟩⟩
  · rcases h2 with ⟨c, rfl, rfl⟩ | ⟨c, rfl, rfl⟩
    · exact absurd (by decide) c
    · obtain ⟨u, a1, a2, a3⟩ := so_v (a := 1) (b := 1) rfl rfl rfl
      exact ⟨u, a1, a2, a3, 0, ⟨lads, f, bu, cf, cp, ff, fp, _, _, _, _, _, _, TI_s1 T ⟨if_pos rfl, if_pos rfl⟩ (fun n hn => ⟨if_neg (by omega), if_neg (by omega)⟩) ⟨up_n (by decide), up_n (by decide), up_s⟩ (by rw [up_n (by decide), up_s]) up_s (fun i hi => by rw [up_n (by omega), up_n (by omega), up_n (by omega)]) (fun j hj => by rw [up_n (by decide), up_n (by decide), up_s, up_n (by omega)]), by rw [up_n (by decide), up_n (by decide), up_s, up_s], rfl, rfl⟩⟩
  · rcases h2 with ⟨c, rfl, rfl⟩ | ⟨c, rfl, rfl⟩
    · obtain ⟨u, a1, a2, a3⟩ := so_v (a := 0) (b := 0) rfl rfl rfl
      exact ⟨u, a1, a2, a3, 0, LI_t T 0⟩
    · exact absurd c g
theorem pd_restoreSnapshot {G : GG} {A : Nat → Nat} {B : Nat → Nat → Nat} {ad : Nat → Nat} {lads : Nat → Nat → Nat} {f bu cf cp ff fp : Int → Int} {Q : Nat → Int → Int → Int} {R : Nat → Int → Int → Int64} {LF : Nat → Int → Int → Int} {LK : Nat → Int → Int → Int64} {z : Int → Int} {M : Int → Int → Int} (T : TI f bu Q R LF LK z M) (q : Int) : PD G A B ad (fun r w => ((q = 0 ∧ z 1 = 1) ∧ r = some (vI 1) ∧ w = (tlW G A B lads f bu cf cp ff fp (upN Q 0 (Q 5)) (upN R 0 (R 5)) LF LK (up z 0 0))) ∨ ((q = 1 ∧ z 2 = 1) ∧ r = some (vI 1) ∧ w = (tlW G A B lads f bu cf cp ff fp (upN Q 0 (Q 6)) (upN R 0 (R 6)) LF LK (up z 0 0))) ∨ ((¬ (q = 0 ∧ z 1 = 1) ∧ ¬ (q = 1 ∧ z 2 = 1)) ∧ r = some (vI 0) ∧ w = (tlW G A B lads f bu cf cp ff fp Q R LF LK z))) (fun r w => ∃ v : Int, r = some (vI v) ∧ (((¬ ((0 ≤ q ∧ q ≤ 1) ∧ M 7 q = 1)) ∧ v = 0 ∧ w = (mW G ad (up M 0 (up (M 0) 0 0)))) ∨ ((((0 ≤ q ∧ q ≤ 1) ∧ M 7 q = 1)) ∧ v = 1 ∧ w = (mW G ad (up (up M 0 (up (up (M 0) 0 0) 14 0)) 2 (cpF (M 6) (M 2) q 0 441)))))) := by
  rintro r1 w1 r2 w2 h1 ⟨v, rfl, h2⟩
  have s1 : z 1 = M 7 0 := T.2.2.2.1.1
  have s2 : z 2 = M 7 1 := T.2.2.2.1.2.1
  rcases h1 with ⟨⟨rfl, zc⟩, rfl, rfl⟩ | ⟨⟨rfl, zc⟩, rfl, rfl⟩ | ⟨g, rfl, rfl⟩
  · rcases h2 with ⟨c, rfl, rfl⟩ | ⟨c, rfl, rfl⟩
    · exact absurd ⟨by decide, by rw [← s1]; exact zc⟩ c
    · obtain ⟨u, a1, a2, a3⟩ := so_v (a := 1) (b := 1) rfl rfl rfl
      exact ⟨u, a1, a2, a3, 0, ⟨lads, f, bu, cf, cp, ff, fp, _, _, _, _, _, _, TI_nw T (by
      show GOOD (Q 5) (R 5) (cpF (M 6) (M 2) 0 0 441)
      rw [cp_blk T.1.2.1]
      exact T.2.2.2.1.2.2.2.1 zc) (fun n hn => ⟨if_neg (by omega), if_neg (by omega)⟩) ⟨up_s, up_n (by decide), up_n (by decide)⟩ (fun i hi => by rw [up_n (by omega), up_n (by omega)]) (by rw [up_n (by decide), up_s, up_s]) (fun j hj => by rw [up_n (by decide), up_s, up_n (by omega), up_n (by omega)]), by rw [up_n (by decide), up_s, up_n (by decide), up_s], rfl, rfl⟩⟩
  · rcases h2 with ⟨c, rfl, rfl⟩ | ⟨c, rfl, rfl⟩
    · exact absurd ⟨by decide, by rw [← s2]; exact zc⟩ c
    · obtain ⟨u, a1, a2, a3⟩ := so_v (a := 1) (b := 1) rfl rfl rfl
      exact ⟨u, a1, a2, a3, 0, ⟨lads, f, bu, cf, cp, ff, fp, _, _, _, _, _, _, TI_nw T (by
      show GOOD (Q 6) (R 6) (cpF (M 6) (M 2) 1 0 441)
      rw [cp_blk T.1.2.1]
      exact T.2.2.2.1.2.2.2.2.1 zc) (fun n hn => ⟨if_neg (by omega), if_neg (by omega)⟩) ⟨up_s, up_n (by decide), up_n (by decide)⟩ (fun i hi => by rw [up_n (by omega), up_n (by omega)]) (by rw [up_n (by decide), up_s, up_s]) (fun j hj => by rw [up_n (by decide), up_s, up_n (by omega), up_n (by omega)]), by rw [up_n (by decide), up_s, up_n (by decide), up_s], rfl, rfl⟩⟩
  · rcases h2 with ⟨c, rfl, rfl⟩ | ⟨c, rfl, rfl⟩
    · obtain ⟨u, a1, a2, a3⟩ := so_v (a := 0) (b := 0) rfl rfl rfl
      exact ⟨u, a1, a2, a3, 0, LI_t T 0⟩
    · exfalso
      rcases (show q = 0 ∨ q = 1 by omega) with rfl | rfl
      · exact g.1 ⟨rfl, by rw [s1]; exact c.2⟩
      · exact g.2 ⟨rfl, by rw [s2]; exact c.2⟩
theorem pd_append {G : GG} {A : Nat → Nat} {B : Nat → Nat → Nat} {ad : Nat → Nat} {lads : Nat → Nat → Nat} {f bu cf cp ff fp : Int → Int} {Q : Nat → Int → Int → Int} {R : Nat → Int → Int → Int64} {LF : Nat → Int → Int → Int} {LK : Nat → Int → Int → Int64} {z : Int → Int} {M : Int → Int → Int} (T : TI f bu Q R LF LK z M) (v1 v2 v3 v4 v5 : Int) : PD G A B ad (fun r w => ∃ f1 b1 : Int → Int, ((f 0 + 20 ≤ 700 ∧ f1 = (afF (afF (afF (afF (afF f))))) ∧ b1 = (afB u8 (afF (afF (afF (afF f)))) v5 (afB u8 (afF (afF (afF f))) v4 (afB u8 (afF (afF f)) v3 (afB u8 (afF f) v2 (afB u8 f v1 bu))))) ∧ r = some (vI (f 0 + 4 + 4 + 4 + 4 + 4))) ∨ (¬ f 0 + 20 ≤ 700 ∧ f1 = f ∧ b1 = bu ∧ r = some (vI (-1)))) ∧ w = (tlW G A B lads f1 b1 cf cp ff fp Q R LF LK z)) (fun r w => ∃ v : Int, r = some (vI v) ∧ (((700 < M 0 2 + 20) ∧ v = (-1) ∧ w = (mW G ad (up M 0 (up (M 0) 0 0)))) ∨ ((M 0 2 + 20 ≤ 700) ∧ v = ((((((M 0 2) + 4) + 4) + 4) + 4) + 4) ∧ w = (mW G ad (up (up M 0 (up (up (M 0) 0 0) 2 ((((((M 0 2) + 4) + 4) + 4) + 4) + 4))) 1 (up (up (up (up (up (up (up (up (up (up (up (up (up (up (up (up (up (up (up (up (M 1) (M 0 2) (b8 v1 24)) ((M 0 2) + 1) (b8 v1 16)) ((M 0 2) + 2) (b8 v1 8)) ((M 0 2) + 3) (b8 v1 0)) ((M 0 2) + 4) (b8 v2 24)) (((M 0 2) + 4) + 1) (b8 v2 16)) (((M 0 2) + 4) + 2) (b8 v2 8)) (((M 0 2) + 4) + 3) (b8 v2 0)) (((M 0 2) + 4) + 4) (b8 v3 24)) ((((M 0 2) + 4) + 4) + 1) (b8 v3 16)) ((((M 0 2) + 4) + 4) + 2) (b8 v3 8)) ((((M 0 2) + 4) + 4) + 3) (b8 v3 0)) ((((M 0 2) + 4) + 4) + 4) (b8 v4 24)) (((((M 0 2) + 4) + 4) + 4) + 1) (b8 v4 16)) (((((M 0 2) + 4) + 4) + 4) + 2) (b8 v4 8)) (((((M 0 2) + 4) + 4) + 4) + 3) (b8 v4 0)) (((((M 0 2) + 4) + 4) + 4) + 4) (b8 v5 24)) ((((((M 0 2) + 4) + 4) + 4) + 4) + 1) (b8 v5 16)) ((((((M 0 2) + 4) + 4) + 4) + 4) + 2) (b8 v5 8)) ((((((M 0 2) + 4) + 4) + 4) + 4) + 3) (b8 v5 0))))))) := by
  rintro r1 w1 r2 w2 ⟨f1, b1, h1, rfl⟩ ⟨v, rfl, h2⟩
  have r := TI_RDR T
  have e0 : f 0 = M 0 2 := r.2.2.1
  rcases h1 with ⟨c1, rfl, rfl, rfl⟩ | ⟨c1, rfl, rfl, rfl⟩
  · rcases h2 with ⟨c, rfl, rfl⟩ | ⟨c, rfl, rfl⟩
    · exfalso; omega
    · obtain ⟨u, a1, a2, a3⟩ := so_v (a := f 0 + 4 + 4 + 4 + 4 + 4) (b := M 0 2 + 4 + 4 + 4 + 4 + 4) rfl rfl (by omega)
      refine ⟨u, a1, a2, a3, 0, ⟨lads, _, _, cf, cp, ff, fp, Q, R, LF, LK, z, _, TI_rd T ?_ (fun i hi => by rw [up_n (by omega), up_n (by omega)]) (fun j hj => by rw [up_n (by decide), up_s, up_n (by omega), up_n (by omega)]), by rw [up_n (by decide), up_s, up_n (by decide), up_s], rfl, rfl⟩⟩
      rw [up_n (by decide), up_s, up_s]
      exact RDR_app r c1 v1 v2 v3 v4 v5
  · rcases h2 with ⟨c, rfl, rfl⟩ | ⟨c, rfl, rfl⟩
    · obtain ⟨u, a1, a2, a3⟩ := so_v (a := -1) (b := -1) rfl rfl rfl
      exact ⟨u, a1, a2, a3, 0, LI_t T 0⟩
    · exfalso; omega
theorem pd_efficiency {G : GG} {A : Nat → Nat} {B : Nat → Nat → Nat} {ad : Nat → Nat} {lads : Nat → Nat → Nat} {f bu cf cp ff fp : Int → Int} {Q : Nat → Int → Int → Int} {R : Nat → Int → Int → Int64} {LF : Nat → Int → Int → Int} {LK : Nat → Int → Int → Int64} {z : Int → Int} {M : Int → Int → Int} (T : TI f bu Q R LF LK z M) : ∀ (r1 : Option Value) (w1 : va_W) (r2 : Option Value) (w2 : va_W), ((fun r w => r = some (.double (efC (Q 0))) ∧ w = (tlW G A B lads f bu cf cp ff fp Q R LF LK z))) r1 w1 → ((fun r w => r = some (.double (efM (M 2))) ∧ w = mW G ad (up M 0 (up (M 0) 0 0)))) r2 w2 → ∃ v : UInt64, r1 = some (.double v) ∧ r2 = some (.double v) ∧ ∃ k, LIk G A B ad k w1 w2 := by
  rintro r1 w1 r2 w2 ⟨rfl, rfl⟩ ⟨rfl, rfl⟩
  exact ⟨_, rfl, by rw [ef_eq T.1], 0, LI_t T 0⟩
theorem TI_pa {f bu : Int → Int} {Q : Nat → Int → Int → Int} {R : Nat → Int → Int → Int64} {LF : Nat → Int → Int → Int} {LK : Nat → Int → Int → Int64} {z : Int → Int} {M : Int → Int → Int} (T : TI f bu Q R LF LK z M) {q : Int} (hq : 0 ≤ q ∧ q ≤ f 0) : TR (paT f bu q (Q 1) (R 1)).1 (paE (M 0) (M 1) (M 2) q).1 ∧ (paE (M 0) (M 1) (M 2) q).1 0 = 0 ∧ ((paT f bu q (Q 1) (R 1)).1 7 = 0 → pdF (paT f bu q (Q 1) (R 1)) 1 0 = (paE (M 0) (M 1) (M 2) q).2 18 ∧ pdF (paT f bu q (Q 1) (R 1)) 2 0 = (paE (M 0) (M 1) (M 2) q).2 29) := by
  obtain ⟨h1, ⟨e1, e2⟩, h3, h4, a, b, c, d, e, i, j⟩ := T
  rw [e1, e2]
  have l7 : f 0 ≤ 700 := a.2.2.2.2.2.2.2.2
  have P := pa_TR (f := f) (s := M 0) (bu := bu) (B := M 1) (σ := M 2) (ln := q) a b (sB_mono (by decide) d) (sB_mono (by decide) e) ⟨d, fun j a b => i j a (by omega)⟩ ⟨hq.1, by omega⟩ ⟨by omega, by omega⟩ (J_B h1.2.1 (by have := h1.2.2.2.2.1; omega)) (fun j hj => J_out h1.2.1 hj)
  have e0 : (paE (M 0) (M 1) (M 2) q).1 0 = 0 := by
    rw [fr_pa (s := M 0) (B := M 1) (σ := M 2) (n := q) (j := 0) (by decide) (by decide) (by decide)]; rfl
  obtain ⟨y, hy⟩ : ∃ y : PX, y = paE (M 0) (M 1) (M 2) q := ⟨_, rfl⟩
  obtain ⟨x, hx⟩ : ∃ x : TX, x = paT f bu q liI (fun _ _ => 0) := ⟨_, rfl⟩
  rw [← hy] at P e0 ⊢
  rw [← hx] at P ⊢
  refine ⟨P.1, e0, fun h7 => ?_⟩
  · have g := P.2.1 h7
    have g1 := g.1.1.2.1 0 (by decide) (by decide)
    have g2 := g.1.1.2.2.1 0 (by decide) (by decide)
    rw [up_n (by decide), up_n (by decide)] at g1 g2
    exact ⟨g1, g2⟩
theorem TI_hT {f bu : Int → Int} {Q : Nat → Int → Int → Int} {R : Nat → Int → Int → Int64} {LF : Nat → Int → Int → Int} {LK : Nat → Int → Int → Int64} {z : Int → Int} {M : Int → Int → Int} (T : TI f bu Q R LF LK z M) {q : Int} : 0 ≤ q ∧ q ≤ f 0 → RO (paT f bu q (Q 1) (R 1)).1 ∧ (pdF (paT f bu q (Q 1) (R 1)) 0 6 = 0 ∨ pdF (paT f bu q (Q 1) (R 1)) 0 6 = 1) := by
  intro hq
  obtain ⟨h1, ⟨e1, e2⟩, h3, h4, a, b, c, d, e, i, j⟩ := T
  rw [e1, e2]
  have l7 : f 0 ≤ 700 := a.2.2.2.2.2.2.2.2
  have P := pa_TR (f := f) (s := M 0) (bu := bu) (B := M 1) (σ := M 2) (ln := q) a b (sB_mono (by decide) d) (sB_mono (by decide) e) ⟨d, fun j a b => i j a (by omega)⟩ ⟨hq.1, by omega⟩ ⟨by omega, by omega⟩ (J_B h1.2.1 (by have := h1.2.2.2.2.1; omega)) (fun j hj => J_out h1.2.1 hj)
  exact ⟨P.2.2.1, Or.inl P.2.2.2.1⟩
theorem liI_B : ∀ i, sB 2000 (liI i) := fun i j => by
  by_cases c : i < 0 ∨ 3 ≤ i
  · have e : liI i = fun _ => 0 := by
      unfold liI
      rw [up_n (by omega), up_n (by omega), up_n (by omega)]
    rw [e]
    exact ⟨show (-2000 : Int) < 0 by decide, show (0 : Int) < 2000 by decide⟩
  · have P0 : ∀ j, liI 0 j = if j = 9 then -1 else if j = 5 then 20 else if j = 4 then 3 else 0 := fun _ => rfl
    have P1 : ∀ j, liI 1 j = if j = 7 then 4 else if j = 3 then 4 else 0 := fun _ => rfl
    have P2 : ∀ j, liI 2 j = if j = 7 then 4 else if j = 3 then 4 else 0 := fun _ => rfl
    rcases (show i = 0 ∨ i = 1 ∨ i = 2 by omega) with rfl | rfl | rfl
    · rw [P0]; (repeat' split) <;> exact ⟨by decide, by decide⟩
    · rw [P1]; (repeat' split) <;> exact ⟨by decide, by decide⟩
    · rw [P2]; (repeat' split) <;> exact ⟨by decide, by decide⟩
theorem ph_parse {G : GG} {A : Nat → Nat} {B : Nat → Nat → Nat} {ad : Nat → Nat} {lads : Nat → Nat → Nat} {f bu cf cp ff fp : Int → Int} {Q : Nat → Int → Int → Int} {R : Nat → Int → Int → Int64} {LF : Nat → Int → Int → Int} {LK : Nat → Int → Int → Int64} {z : Int → Int} {M : Int → Int → Int} (T : TI f bu Q R LF LK z M) (q : Int) : PH G A B ad (fun r w => (0 ≤ q ∧ q ≤ f 0) ∧ ∃ (tx : TX) (F1 F2 : Int → Int → Int) (K1 K2 : Int → Int → Int64) (f1 : Int → Int) (c0 c1 c2 : Int), tx = (paT f bu q (Q 1) (R 1)) ∧ f1 = up tx.1 0 0 ∧ ((¬ tx.1 7 = 0 ∧ F1 = Q 0 ∧ K1 = R 0 ∧ c0 = z 0 ∧ c1 = z 1 ∧ c2 = z 2 ∧ r = some (vI (-2 - tx.1 7))) ∨ (tx.1 7 = 0 ∧ F1 = pdF tx ∧ K1 = tx.2.2 ∧ c0 = 0 ∧ c1 = 0 ∧ c2 = 0 ∧ r = some (vI (F1 1 0 + F1 2 0)))) ∧ w = (tlW G A B lads f1 bu cf cp ff fp (upN (upN Q 0 F1) 2 F2) (upN (upN R 0 K1) 2 K2) LF LK (up (up (up z 0 c0) 1 c1) 2 c2))) (fun E w => w = (tlW G A B lads f bu cf cp ff fp Q R LF LK z) ∧ E = "java/lang/IllegalArgumentException" ∧ ¬ (0 ≤ q ∧ q ≤ f 0)) (fun E k => (E = "java/lang/IllegalArgumentException" ∧ k = 1)) (fun r w9 => ∃ v : Int, r = some (vI v) ∧ ((¬ (0 ≤ q ∧ q ≤ M 0 2) ∧ v = 0 ∧ w9 = mW G ad (up M 0 (up (M 0) 0 1))) ∨ ((0 ≤ q ∧ q ≤ M 0 2) ∧ ¬ (paE (M 0) (M 1) (M 2) q).1 8 = 0 ∧ v = -2 - (8 * (paE (M 0) (M 1) (M 2) q).1 9 + (paE (M 0) (M 1) (M 2) q).1 8) ∧ w9 = mW G ad (up (up M 0 (paE (M 0) (M 1) (M 2) q).1) 3 (cpF (M 2) (M 3) 0 0 441))) ∨ ((0 ≤ q ∧ q ≤ M 0 2) ∧ (paE (M 0) (M 1) (M 2) q).1 8 = 0 ∧ v = (paE (M 0) (M 1) (M 2) q).2 18 + (paE (M 0) (M 1) (M 2) q).2 29 ∧ w9 = mW G ad (up (up (up (up M 0 (up (paE (M 0) (M 1) (M 2) q).1 14 0)) 2 (up (up (paE (M 0) (M 1) (M 2) q).2 25 ((paE (M 0) (M 1) (M 2) q).2 32)) 36 ((paE (M 0) (M 1) (M 2) q).2 21))) 3 (cpF (M 2) (M 3) 0 0 441)) 7 (up (up (M 7) 0 0) 1 0))))) := by
  have hl := (TI_RDR T).2.2.1
  obtain ⟨y, hy⟩ : ∃ y : PX, y = paE (M 0) (M 1) (M 2) q := ⟨_, rfl⟩
  refine ⟨?_, ?_, fun E k h => cd_1 h⟩
  · intro z0 w1 r w2 hc hm
    obtain ⟨hq, tx, F1, F2, K1, K2, f1, c0, c1, c2, htx, hf1, hc, rfl⟩ := hc
    have P := TI_pa T hq
    rw [← htx, ← hy] at P
    rw [← hy] at hm
    obtain ⟨P1, P2, P3⟩ := P
    obtain ⟨v, rfl, ⟨c, rfl, rfl⟩ | ⟨c, h8, rfl, rfl⟩ | ⟨c, h8, rfl, rfl⟩⟩ := hm
    · exfalso; omega
    · rcases hc with ⟨h7, rfl, rfl, rfl, rfl, rfl, h1⟩ | ⟨h7, rfl, rfl, rfl, rfl, rfl, h1⟩
      · rcases P1 with P1 | P1
        · exact absurd P1.1 h7
        · refine ⟨_, rfl, ?_, lads, f1, bu, cf, cp, ff, fp, _, _, LF, LK, _, _, TI_p1 (q := q) T (by rw [hf1, htx]) hq (fun n hn => ?_) ⟨?_, ?_, ?_⟩ (by rw [up_n (by decide), up_s, hy]) (fun i hi => by rw [up_n (by omega), up_n (by omega)]), ?_, rfl, rfl⟩
          · rw [so_i h1, P1.2.2]
          · rcases hn with rfl | rfl | rfl | rfl <;> exact ⟨rfl, rfl⟩
          · rw [up_n (by decide), up_n (by decide), up_s]
          · rw [up_n (by decide), up_s]
          · rw [up_s]
          · rw [up_n (by decide), up_s]; exact P2
      · exfalso
        rcases P1 with P1 | P1
        · exact h8 P1.2.1
        · exact P1.1 h7
    · rcases hc with ⟨h7, rfl, rfl, rfl, rfl, rfl, h1⟩ | ⟨h7, rfl, rfl, rfl, rfl, rfl, h1⟩
      · exfalso
        rcases P1 with P1 | P1
        · exact h7 P1.1
        · exact P1.2.1 h8
      · have p3 := P3 h7
        have h7' : (paT f bu q (Q 1) (R 1)).1 7 = 0 := by rw [← htx]; exact h7
        refine ⟨_, rfl, ?_, lads, f1, bu, cf, cp, ff, fp, _, _, LF, LK, _, _, TI_p2 (q := q) T (by rw [hf1, htx]) hq h7' ⟨?_, ?_⟩ (fun n hn => ?_) ⟨?_, ?_, ?_⟩ ?_ ?_ ?_ (fun i hi => ?_), ?_, rfl, rfl⟩
        · rw [so_i h1, p3.1, p3.2]
        · rw [← htx]; rfl
        · rw [← htx]; rfl
        · rcases hn with rfl | rfl | rfl <;> exact ⟨rfl, rfl⟩
        · rw [up_n (by decide), up_n (by decide), up_s]
        · rw [up_n (by decide), up_s]
        · rw [up_s]
        · rw [up_n (by decide), up_n (by decide), up_n (by decide), up_s, hy]
        · rw [up_n (by decide), up_n (by decide), up_s, hy]
        · rw [up_s]
        · rw [up_n (by omega), up_n (by omega), up_n (by omega), up_n (by omega)]
        · rw [up_n (by decide), up_n (by decide), up_n (by decide), up_s, up_n (by decide)]; exact P2
  · intro E k w1 r w2 hc hk hm
    obtain ⟨rfl, rfl, hq⟩ := hc
    obtain ⟨_, rfl⟩ := hk
    rw [← hy] at hm
    obtain ⟨v, rfl, ⟨c, rfl, rfl⟩ | ⟨c, h8, rfl, rfl⟩ | ⟨c, h8, rfl, rfl⟩⟩ := hm
    · exact ⟨_, rfl, LI_t T 1⟩
    · exfalso; omega
    · exfalso; omega
end Pairs2
