section RefL
set_option maxHeartbeats 1000000 in
set_option maxRecDepth 100000 in
theorem c_L_refuses (G : GG) (l : Launch) (A : Nat → Nat) (B : Nat → Nat → Nat) (F : Int → Int → Int) (K : Int → Int → Int64) (w : va_W) (n : Int) (hst : l.stackTraces = false) (hw : tlS G A B F K w) (hI : IN F n) (hn : 0 ≤ n ∧ n ≤ 60) : Ct G l yL_refuses (Cond.codeWith yL_refuses cL_refuses 2 (some .boolean) [(0, 7, 8, 118)] :: wsL_law) 8 150 2 12 [.ref (A 0)] w (fun r w' => r = some (vI 1)) := by
  obtain ⟨lads, f, bu, cf, cp, ff, fp, Q, R, LF, LK, z, rfl, rfl, rfl, hz0, hz1⟩ := hw
  refine Ct.ofH (own := RL) (cc := cL_refuses) (maxL := 2) (ret := (some .boolean)) (hh := [(0, 7, 8, 118)]) (by decide) rfl rfl (Nat.le_of_ble_eq_true rfl) (fun X C E HT M hG hl => ?_)
  subst hG hl
  refine v_aload_n C dL_refuses_0 rfl 0 rfl ?_
  refine v_iconst C dL_refuses_1 ?_
  refine v_callVC (na := 1) (wy := (Cond.code yX7_run cX7_run 3 (some .int) :: wsL_law)) (wc := (tlW (vG X) A B lads f bu cf cp ff fp Q R LF LK z)) (wr := []) C [vI 0] [] (C_X7_run (vG X) (vL X) A B lads f bu cf cp ff fp Q R LF LK z 0 hst (by decide) (fun j hj => absurd hj (by omega)) (hI.B6 (by omega)) ⟨hz0, hz1⟩ hI.1.2.1) rfl (gwV mw_598 mw_595 mw_596 mw_597 mw_2) rfl (by decide +kernel) 0 rfl rfl rfl rfl Sb.w rfl rfl dL_refuses_2 HT (fun E9 w1 hp9 => ?_) (fun r w1 hp => ?_)
  · skip
    obtain ⟨rfl, hE⟩ := hp9
    have hE9 : E9 = "java/lang/IllegalArgumentException" := by rcases hE with ⟨h, _⟩ | ⟨_, h, _⟩; exact h; exact absurd h (by decide)
    subst hE9
    refine ⟨[], [], ⟨0, 7, 8, 118⟩, "java/lang/IllegalArgumentException", rfl, (fun z hz => absurd hz List.not_mem_nil), rfl, by decide, (List.mem_cons_of_mem _ mw_660), List.mem_of_getElem? (i := 0) rfl, fun q => ?_⟩
    show V X 2 12 8 [(0, .ref (A 0))] [.ref q] ((tlW (vG X) A B lads f bu cf cp ff fp Q R LF LK z ++ []))
    refine v_astore_n C M dL_refuses_8 rfl (by decide) (L' := [(1, .ref q), (0, .ref (A 0))]) rfl ?_
    refine v_iconst C dL_refuses_9 ?_
    exact v_zret C E rfl rfl dL_refuses_10 (by decide) (by decide) rfl
  · skip
    obtain ⟨_, _, _, _, _, _, _, _, _, h, _⟩ := hp
    exact absurd h.1 (by decide)
end RefL
