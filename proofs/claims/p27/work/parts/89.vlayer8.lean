section VLay8
theorem exF_narrow {K : Nat → Nat} {A B : Nat → Prop} {U : State} (hAB : ∀ q, B q → A q) (h : exF K A U) : exF K B U := by
  obtain ⟨h1, h2, h3, h4, h5, h6, h7, h8, h9⟩ := h
  refine ⟨h1, h2.narrow hAB, h3.narrow hAB, h4.narrow hAB, h5.narrow hAB, h6, fun i b hb => ?_, ⟨⟨h8.1.1.narrow hAB, h8.1.2.narrow hAB⟩, h8.2.1.narrow hAB, h8.2.2.narrow hAB⟩, h9.1.narrow hAB, h9.2⟩
  obtain ⟨a1, a2, a3, a4⟩ := h7 i b hb
  exact ⟨a1.narrow hAB, a2.narrow hAB, a3.narrow hAB, a4.narrow hAB⟩
theorem vf_sub {ws wc wr : va_W} {sz : Nat} (hD : va_D (va_A ws sz) (wc ++ wr)) : ∀ q, va_A wc sz q → va_A ws sz q := by
  intro q h
  rcases h with ⟨i, e9, h⟩ | h
  · exact (vD_iff.mp hD).2 _ (List.mem_append_left _ (List.mem_of_getElem? h))
  · exact Or.inr h
theorem vf_left {A : Nat → Prop} {wc wr : va_W} (hD : va_D A (wc ++ wr)) : va_D (fun _ => True) wc :=
  vD_iff.mpr ⟨((List.nodup_append.mp (by have := (vD_iff.mp hD).1; rw [List.map_append] at this; exact this))).1, fun _ _ => trivial⟩
/-- the frame: a contract over fewer cells is one over more -/
theorem Ct.fr {G : GG} {l : Launch} {y : MethodName} {wy : List Cond} {fr lo mc ms : Nat} {args : List Value} {ws wc wr : va_W} {Po Po' : Option Value → va_W → Prop} (hsb : Sb ws (wc ++ wr)) (h : Ct G l y wy fr lo mc ms args wc Po) (hb : ∀ r w1, Po r w1 → ∃ w, Po' r w ∧ Sb (w1 ++ wr) w) : Ct G l y wy fr lo mc ms args ws Po' := by
  intro sz
  refine MetFree.mono (h sz) (fun a U hp => ?_) (fun _ _ _ _ _ h => h) (fun a st oc t hp hq => ?_)
  · obtain ⟨ha, hsz, hP, hK, hD, hE⟩ := hp
    have hA := hsb.2 _ (va_D.self (sz := sz) hD)
    exact ⟨ha, hsz, (vP_app.mp (hsb.1 _ _ _ hP)).1, hK, vf_left hA, exF_narrow (vf_sub hA) hE⟩
  · obtain ⟨ha, hsz, hP, hK, hD, hE⟩ := hp
    have hA := hsb.2 _ (va_D.self (sz := sz) hD)
    obtain ⟨⟨r, w1, e, hp1, hP1, hD1, hF⟩, L, hFE, hL⟩ := hq
    subst hsz
    obtain ⟨w, hw, hs⟩ := hb r w1 hp1
    obtain ⟨j1, j2⟩ := v_join (H0 := st.heap) (locs1 := []) (hsb.1 _ _ _ hP) hA (vf_sub hA) (fun q h1 h2 => hF.2 q h1 h2) hP1 hD1
    exact ⟨⟨r, w, e, hw, hs.1 _ _ _ j1, hs.2 _ j2, hF.1, fun q h1 h2 => hF.2 q h1 (fun h => h2 (vf_sub hA q h))⟩, L, hFE, fun q hq => vf_sub hA _ (hL q hq)⟩
theorem CtX.fr {G : GG} {l : Launch} {y : MethodName} {wy : List Cond} {fr lo mc ms : Nat} {args : List Value} {ws wc wr : va_W} {Po Po' : Option Value → va_W → Prop} {PX PX' : String → va_W → Prop} (hsb : Sb ws (wc ++ wr)) (h : CtX G l y wy fr lo mc ms args wc Po PX) (hb : ∀ r w1, Po r w1 → ∃ w, Po' r w ∧ Sb (w1 ++ wr) w) (hx : ∀ E w1, PX E w1 → ∃ w, PX' E w ∧ Sb (w1 ++ wr) w) : CtX G l y wy fr lo mc ms args ws Po' PX' := by
  intro sz
  refine MetFree.mono (h sz) (fun a U hp => ?_) (fun _ _ _ _ _ h => h) (fun a st oc t hp hq => ?_)
  · obtain ⟨ha, hsz, hP, hK, hD, hE⟩ := hp
    have hA := hsb.2 _ (va_D.self (sz := sz) hD)
    exact ⟨ha, hsz, (vP_app.mp (hsb.1 _ _ _ hP)).1, hK, vf_left hA, exF_narrow (vf_sub hA) hE⟩
  · obtain ⟨ha, hsz, hP, hK, hD, hE⟩ := hp
    have hA := hsb.2 _ (va_D.self (sz := sz) hD)
    subst hsz
    rcases hq with ⟨⟨r, w1, e, hp1, hP1, hD1, hF⟩, L, hFE, hL⟩ | ⟨q, ho, E, ce, L, ⟨w1, hp1, hP1, hD1, hF⟩, h1, h2, h3, h4, h5, hL⟩
    · obtain ⟨w, hw, hs⟩ := hb r w1 hp1
      obtain ⟨j1, j2⟩ := v_join (H0 := st.heap) (locs1 := []) (hsb.1 _ _ _ hP) hA (vf_sub hA) (fun q h1 h2 => hF.2 q h1 h2) hP1 hD1
      exact Or.inl ⟨⟨r, w, e, hw, hs.1 _ _ _ j1, hs.2 _ j2, hF.1, fun q h1 h2 => hF.2 q h1 (fun h => h2 (vf_sub hA q h))⟩, L, hFE, fun q hq => vf_sub hA _ (hL q hq)⟩
    · obtain ⟨w, hw, hs⟩ := hx E w1 hp1
      obtain ⟨j1, j2⟩ := v_join (H0 := st.heap) (locs1 := []) (hsb.1 _ _ _ hP) hA (vf_sub hA) (fun q h1 h2 => hF.2 q h1 h2) hP1 hD1
      exact Or.inr ⟨q, ho, E, ce, L, ⟨w, hw, hs.1 _ _ _ j1, hs.2 _ j2, hF.1, fun q h1 h2 => hF.2 q h1 (fun h => h2 (vf_sub hA q h))⟩, h1, h2, h3, h4, h5, fun q hq => vf_sub hA _ (hL q hq)⟩
end VLay8
