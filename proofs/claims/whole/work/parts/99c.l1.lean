section L1
set_option maxHeartbeats 1000000 in
set_option maxRecDepth 100000 in
theorem c_L_parse (G : GG) (l : Launch) (x o : Nat) (p0 : Int) (w0 : va_W) (fs : List Value) (g : Int → Int64) (Po : Option Value → va_W → Prop) (PX : String → va_W → Prop) (hx : w0[0]? = some (x, .inr (7, fs))) (hM : CtX G l yX7_parse (Cond.code yX7_parse cX7_parse 3 (some .int) :: wsL_law) 7 154 1 6 [.ref x, vI p0] w0 Po PX) (hr : ∀ r w, Po r w → ∃ z : Int, r = some (vI z)) (hE : ∀ E w, PX E w → (E = "java/lang/IllegalArgumentException")) : Ct G l yL_parse (Cond.codeWith yL_parse cL_parse 4 (some .int) [(0, 9, 12, 13)] :: wsL_law) 8 176 1 6 [.ref x, vI p0, .ref o] (w0 ++ [(o, .inl (G.2 2, 1, .inr (.inl (fL g))))]) (fun r w => (∃ (z : Int) (w1 : va_W), Po (some (vI z)) w1 ∧ r = some (vI 0) ∧ w = w1 ++ [(o, .inl (G.2 2, 1, .inr (.inl (fL (up g 0 (iI z).toInt64)))))]) ∨ (∃ (E : String) (w1 : va_W) (k : Int), PX E w1 ∧ ((E = "java/lang/IllegalArgumentException" ∧ k = 1)) ∧ r = some (vI k) ∧ w = w1 ++ [(o, .inl (G.2 2, 1, .inr (.inl (fL g))))])) := by
  refine Ct.ofH (own := RL) (cc := cL_parse) (maxL := 4) (ret := (some .int)) (hh := [(0, 9, 12, 13)]) (by decide) rfl rfl (Nat.le_of_ble_eq_true rfl) (fun X C E HT M hG hl => ?_)
  subst hG hl
  refine v_aload_n C dL_parse_0 rfl 2 rfl ?_
  refine v_iconst C dL_parse_1 ?_
  refine v_aload_n C dL_parse_2 rfl 0 rfl ?_
  refine v_iload_n C dL_parse_3 rfl 1 rfl ?_
  refine v_callVC (na := 1) (wy := (Cond.code yX7_parse cX7_parse 3 (some .int) :: wsL_law)) (wc := w0) (wr := [(o, .inl ((vG X).2 2, 1, .inr (.inl (fL g))))]) C [vI p0] [vI 0, .ref o] hM rfl (gwV mw_161 mw_158 mw_159 mw_160 mw_2) rfl (by decide +kernel) 0 hx rfl rfl rfl Sb.rf rfl rfl dL_parse_4 HT (fun E9 w1 hp9 => ?_) (fun r w1 hp => ?_)
  · rcases hE E9 w1 hp9 with rfl
    · refine ⟨[], [], ⟨0, 9, 12, 13⟩, "java/lang/IllegalArgumentException", rfl, (fun z hz => absurd hz List.not_mem_nil), rfl, by decide, (List.mem_cons_of_mem _ mw_157), List.mem_of_getElem? (i := 0) rfl, fun q => ?_⟩
      show V X 1 6 12 [(0, .ref x), (1, vI p0), (2, .ref o)] [.ref q] (w1 ++ [(o, .inl ((vG X).2 2, 1, .inr (.inl (fL g))))])
      refine v_astore_n C M dL_parse_12 rfl (by decide) (L' := [(3, .ref q), (0, .ref x), (1, vI p0), (2, .ref o)]) rfl ?_
      refine v_iconst C dL_parse_13 ?_
      exact v_iret C E rfl dL_parse_14 (by decide) (by decide) (Or.inr ⟨_, w1, _, hp9, ⟨rfl, rfl⟩, rfl, rfl⟩)
  · obtain ⟨z, rfl⟩ := hr r w1 hp
    refine V.sb (ws' := [(o, .inl ((vG X).2 2, 1, .inr (.inl (fL g))))] ++ w1) (Sb.bl [1, 0] 2 fl2 fl2 rfl rfl (by decide +kernel)) ?_
    refine v_i2l C dL_parse_7 rfl ?_
    refine v_last C 0 rfl (by decide) (by decide) (by decide) dL_parse_8 (ws' := [(o, .inl ((vG X).2 2, 1, .inr (.inl (fL (up g 0 (iI z).toInt64)))))] ++ w1) rfl ?_
    refine V.sb (ws' := w1 ++ [(o, .inl ((vG X).2 2, 1, .inr (.inl (fL (up g 0 (iI z).toInt64)))))]) (Sb.bl [1, 0] 2 fl2 fl2 rfl rfl (by decide +kernel)) ?_
    show V X 1 6 9 [(0, .ref x), (1, vI p0), (2, .ref o)] [] (w1 ++ [(o, .inl ((vG X).2 2, 1, .inr (.inl (fL (up g 0 (iI z).toInt64)))))])
    refine v_goto (tgt := 15) C dL_parse_9 (by decide) ?_
    refine v_iconst C dL_parse_15 ?_
    exact v_iret C E rfl dL_parse_16 (by decide) (by decide) (Or.inl ⟨z, w1, hp, rfl, rfl⟩)
set_option maxHeartbeats 1000000 in
set_option maxRecDepth 100000 in
theorem c_L_size (G : GG) (l : Launch) (x o : Nat) (p0 : Int) (w0 : va_W) (fs : List Value) (g : Int → Int64) (Po : Option Value → va_W → Prop) (PX : String → va_W → Prop) (hx : w0[0]? = some (x, .inr (7, fs))) (hM : CtX G l yX7_size (Cond.code yX7_size cX7_size 2 (some .int) :: wsL_law) 6 90 1 6 [.ref x, vI p0] w0 Po PX) (hr : ∀ r w, Po r w → ∃ z : Int, r = some (vI z)) (hE : ∀ E w, PX E w → (E = "java/lang/IllegalArgumentException")) : Ct G l yL_size (Cond.codeWith yL_size cL_size 4 (some .int) [(0, 9, 12, 13)] :: wsL_law) 7 111 1 6 [.ref x, vI p0, .ref o] (w0 ++ [(o, .inl (G.2 2, 1, .inr (.inl (fL g))))]) (fun r w => (∃ (z : Int) (w1 : va_W), Po (some (vI z)) w1 ∧ r = some (vI 0) ∧ w = w1 ++ [(o, .inl (G.2 2, 1, .inr (.inl (fL (up g 0 (iI z).toInt64)))))]) ∨ (∃ (E : String) (w1 : va_W) (k : Int), PX E w1 ∧ ((E = "java/lang/IllegalArgumentException" ∧ k = 1)) ∧ r = some (vI k) ∧ w = w1 ++ [(o, .inl (G.2 2, 1, .inr (.inl (fL g))))])) := by
  refine Ct.ofH (own := RL) (cc := cL_size) (maxL := 4) (ret := (some .int)) (hh := [(0, 9, 12, 13)]) (by decide) rfl rfl (Nat.le_of_ble_eq_true rfl) (fun X C E HT M hG hl => ?_)
  subst hG hl
  refine v_aload_n C dL_size_0 rfl 2 rfl ?_
  refine v_iconst C dL_size_1 ?_
  refine v_aload_n C dL_size_2 rfl 0 rfl ?_
  refine v_iload_n C dL_size_3 rfl 1 rfl ?_
  refine v_callVC (na := 1) (wy := (Cond.code yX7_size cX7_size 2 (some .int) :: wsL_law)) (wc := w0) (wr := [(o, .inl ((vG X).2 2, 1, .inr (.inl (fL g))))]) C [vI p0] [vI 0, .ref o] hM rfl (gwV mw_419 mw_416 mw_417 mw_418 mw_2) rfl (by decide +kernel) 0 hx rfl rfl rfl Sb.rf rfl rfl dL_size_4 HT (fun E9 w1 hp9 => ?_) (fun r w1 hp => ?_)
  · rcases hE E9 w1 hp9 with rfl
    · refine ⟨[], [], ⟨0, 9, 12, 13⟩, "java/lang/IllegalArgumentException", rfl, (fun z hz => absurd hz List.not_mem_nil), rfl, by decide, (List.mem_cons_of_mem _ mw_157), List.mem_of_getElem? (i := 0) rfl, fun q => ?_⟩
      show V X 1 6 12 [(0, .ref x), (1, vI p0), (2, .ref o)] [.ref q] (w1 ++ [(o, .inl ((vG X).2 2, 1, .inr (.inl (fL g))))])
      refine v_astore_n C M dL_size_12 rfl (by decide) (L' := [(3, .ref q), (0, .ref x), (1, vI p0), (2, .ref o)]) rfl ?_
      refine v_iconst C dL_size_13 ?_
      exact v_iret C E rfl dL_size_14 (by decide) (by decide) (Or.inr ⟨_, w1, _, hp9, ⟨rfl, rfl⟩, rfl, rfl⟩)
  · obtain ⟨z, rfl⟩ := hr r w1 hp
    refine V.sb (ws' := [(o, .inl ((vG X).2 2, 1, .inr (.inl (fL g))))] ++ w1) (Sb.bl [1, 0] 2 fl2 fl2 rfl rfl (by decide +kernel)) ?_
    refine v_i2l C dL_size_7 rfl ?_
    refine v_last C 0 rfl (by decide) (by decide) (by decide) dL_size_8 (ws' := [(o, .inl ((vG X).2 2, 1, .inr (.inl (fL (up g 0 (iI z).toInt64)))))] ++ w1) rfl ?_
    refine V.sb (ws' := w1 ++ [(o, .inl ((vG X).2 2, 1, .inr (.inl (fL (up g 0 (iI z).toInt64)))))]) (Sb.bl [1, 0] 2 fl2 fl2 rfl rfl (by decide +kernel)) ?_
    show V X 1 6 9 [(0, .ref x), (1, vI p0), (2, .ref o)] [] (w1 ++ [(o, .inl ((vG X).2 2, 1, .inr (.inl (fL (up g 0 (iI z).toInt64)))))])
    refine v_goto (tgt := 15) C dL_size_9 (by decide) ?_
    refine v_iconst C dL_size_15 ?_
    exact v_iret C E rfl dL_size_16 (by decide) (by decide) (Or.inl ⟨z, w1, hp, rfl, rfl⟩)
set_option maxHeartbeats 1000000 in
set_option maxRecDepth 100000 in
theorem c_L_station (G : GG) (l : Launch) (x o : Nat) (p0 : Int) (p1 : Int) (w0 : va_W) (fs : List Value) (g : Int → Int64) (Po : Option Value → va_W → Prop) (PX : String → va_W → Prop) (hx : w0[0]? = some (x, .inr (7, fs))) (hM : CtX G l yX7_station (Cond.code yX7_station cX7_station 3 (some .int) :: wsL_law) 7 110 2 12 [.ref x, vI p0, vI p1] w0 Po PX) (hr : ∀ r w, Po r w → ∃ z : Int, r = some (vI z)) (hE : ∀ E w, PX E w → (E = "java/lang/IndexOutOfBoundsException" ∨ E = "java/lang/IllegalArgumentException")) : Ct G l yL_station (Cond.codeWith yL_station cL_station 5 (some .int) [(0, 10, 13, 22), (0, 10, 17, 13)] :: wsL_law) 8 132 2 12 [.ref x, vI p0, vI p1, .ref o] (w0 ++ [(o, .inl (G.2 2, 1, .inr (.inl (fL g))))]) (fun r w => (∃ (z : Int) (w1 : va_W), Po (some (vI z)) w1 ∧ r = some (vI 0) ∧ w = w1 ++ [(o, .inl (G.2 2, 1, .inr (.inl (fL (up g 0 (iI z).toInt64)))))]) ∨ (∃ (E : String) (w1 : va_W) (k : Int), PX E w1 ∧ ((E = "java/lang/IndexOutOfBoundsException" ∧ k = 1) ∨ (E = "java/lang/IllegalArgumentException" ∧ k = 2)) ∧ r = some (vI k) ∧ w = w1 ++ [(o, .inl (G.2 2, 1, .inr (.inl (fL g))))])) := by
  refine Ct.ofH (own := RL) (cc := cL_station) (maxL := 5) (ret := (some .int)) (hh := [(0, 10, 13, 22), (0, 10, 17, 13)]) (by decide) rfl rfl (Nat.le_of_ble_eq_true rfl) (fun X C E HT M hG hl => ?_)
  subst hG hl
  refine v_aload_n C dL_station_0 rfl 3 rfl ?_
  refine v_iconst C dL_station_1 ?_
  refine v_aload_n C dL_station_2 rfl 0 rfl ?_
  refine v_iload_n C dL_station_3 rfl 1 rfl ?_
  refine v_iload_n C dL_station_4 rfl 2 rfl ?_
  refine v_callVC (na := 2) (wy := (Cond.code yX7_station cX7_station 3 (some .int) :: wsL_law)) (wc := w0) (wr := [(o, .inl ((vG X).2 2, 1, .inr (.inl (fL g))))]) C [vI p0, vI p1] [vI 0, .ref o] hM rfl (gwV mw_435 mw_432 mw_433 mw_434 mw_2) rfl (by decide +kernel) 0 hx rfl rfl rfl Sb.rf rfl rfl dL_station_5 HT (fun E9 w1 hp9 => ?_) (fun r w1 hp => ?_)
  · rcases hE E9 w1 hp9 with rfl | rfl
    · refine ⟨[], [⟨0, 10, 17, 13⟩], ⟨0, 10, 13, 22⟩, "java/lang/IndexOutOfBoundsException", rfl, (fun z hz => absurd hz List.not_mem_nil), rfl, by decide, (List.mem_cons_of_mem _ mw_431), List.mem_of_getElem? (i := 1) rfl, fun q => ?_⟩
      show V X 2 12 13 [(0, .ref x), (1, vI p0), (2, vI p1), (3, .ref o)] [.ref q] (w1 ++ [(o, .inl ((vG X).2 2, 1, .inr (.inl (fL g))))])
      refine v_astore C M dL_station_13 (by decide) (L' := [(4, .ref q), (0, .ref x), (1, vI p0), (2, vI p1), (3, .ref o)]) rfl ?_
      refine v_iconst C dL_station_15 ?_
      exact v_iret C E rfl dL_station_16 (by decide) (by decide) (Or.inr ⟨_, w1, _, hp9, Or.inl ⟨rfl, rfl⟩, rfl, rfl⟩)
    · refine ⟨[⟨0, 10, 13, 22⟩], [], ⟨0, 10, 17, 13⟩, "java/lang/IllegalArgumentException", rfl, (fun z hz => (List.mem_cons.mp hz).elim (fun e => by subst e; exact ⟨by decide, "java/lang/IndexOutOfBoundsException", (List.mem_cons_of_mem _ mw_431), List.mem_of_getElem? (i := 0) rfl⟩) (fun hz => absurd hz List.not_mem_nil)), rfl, by decide, (List.mem_cons_of_mem _ mw_157), List.mem_of_getElem? (i := 0) rfl, fun q => ?_⟩
      show V X 2 12 17 [(0, .ref x), (1, vI p0), (2, vI p1), (3, .ref o)] [.ref q] (w1 ++ [(o, .inl ((vG X).2 2, 1, .inr (.inl (fL g))))])
      refine v_astore C M dL_station_17 (by decide) (L' := [(4, .ref q), (0, .ref x), (1, vI p0), (2, vI p1), (3, .ref o)]) rfl ?_
      refine v_iconst C dL_station_19 ?_
      exact v_iret C E rfl dL_station_20 (by decide) (by decide) (Or.inr ⟨_, w1, _, hp9, Or.inr (⟨rfl, rfl⟩), rfl, rfl⟩)
  · obtain ⟨z, rfl⟩ := hr r w1 hp
    refine V.sb (ws' := [(o, .inl ((vG X).2 2, 1, .inr (.inl (fL g))))] ++ w1) (Sb.bl [1, 0] 2 fl2 fl2 rfl rfl (by decide +kernel)) ?_
    refine v_i2l C dL_station_8 rfl ?_
    refine v_last C 0 rfl (by decide) (by decide) (by decide) dL_station_9 (ws' := [(o, .inl ((vG X).2 2, 1, .inr (.inl (fL (up g 0 (iI z).toInt64)))))] ++ w1) rfl ?_
    refine V.sb (ws' := w1 ++ [(o, .inl ((vG X).2 2, 1, .inr (.inl (fL (up g 0 (iI z).toInt64)))))]) (Sb.bl [1, 0] 2 fl2 fl2 rfl rfl (by decide +kernel)) ?_
    show V X 2 12 10 [(0, .ref x), (1, vI p0), (2, vI p1), (3, .ref o)] [] (w1 ++ [(o, .inl ((vG X).2 2, 1, .inr (.inl (fL (up g 0 (iI z).toInt64)))))])
    refine v_goto (tgt := 21) C dL_station_10 (by decide) ?_
    refine v_iconst C dL_station_21 ?_
    exact v_iret C E rfl dL_station_22 (by decide) (by decide) (Or.inl ⟨z, w1, hp, rfl, rfl⟩)
set_option maxHeartbeats 1000000 in
set_option maxRecDepth 100000 in
theorem c_L_messageByte (G : GG) (l : Launch) (x o : Nat) (p0 : Int) (p1 : Int) (p2 : Int) (w0 : va_W) (fs : List Value) (g : Int → Int64) (Po : Option Value → va_W → Prop) (PX : String → va_W → Prop) (hx : w0[0]? = some (x, .inr (7, fs))) (hM : CtX G l yX7_messageByte (Cond.code yX7_messageByte cX7_messageByte 5 (some .int) :: wsL_law) 7 110 2 12 [.ref x, vI p0, vI p1, vI p2] w0 Po PX) (hr : ∀ r w, Po r w → ∃ z : Int, r = some (vI z)) (hE : ∀ E w, PX E w → (E = "java/lang/IndexOutOfBoundsException")) : Ct G l yL_messageByte (Cond.codeWith yL_messageByte cL_messageByte 6 (some .int) [(0, 12, 15, 22)] :: wsL_law) 8 134 2 12 [.ref x, vI p0, vI p1, vI p2, .ref o] (w0 ++ [(o, .inl (G.2 2, 1, .inr (.inl (fL g))))]) (fun r w => (∃ (z : Int) (w1 : va_W), Po (some (vI z)) w1 ∧ r = some (vI 0) ∧ w = w1 ++ [(o, .inl (G.2 2, 1, .inr (.inl (fL (up g 0 (iI z).toInt64)))))]) ∨ (∃ (E : String) (w1 : va_W) (k : Int), PX E w1 ∧ ((E = "java/lang/IndexOutOfBoundsException" ∧ k = 1)) ∧ r = some (vI k) ∧ w = w1 ++ [(o, .inl (G.2 2, 1, .inr (.inl (fL g))))])) := by
  refine Ct.ofH (own := RL) (cc := cL_messageByte) (maxL := 6) (ret := (some .int)) (hh := [(0, 12, 15, 22)]) (by decide) rfl rfl (Nat.le_of_ble_eq_true rfl) (fun X C E HT M hG hl => ?_)
  subst hG hl
  refine v_aload C dL_messageByte_0 4 rfl ?_
  refine v_iconst C dL_messageByte_2 ?_
  refine v_aload_n C dL_messageByte_3 rfl 0 rfl ?_
  refine v_iload_n C dL_messageByte_4 rfl 1 rfl ?_
  refine v_iload_n C dL_messageByte_5 rfl 2 rfl ?_
  refine v_iload_n C dL_messageByte_6 rfl 3 rfl ?_
  refine v_callVC (na := 3) (wy := (Cond.code yX7_messageByte cX7_messageByte 5 (some .int) :: wsL_law)) (wc := w0) (wr := [(o, .inl ((vG X).2 2, 1, .inr (.inl (fL g))))]) C [vI p0, vI p1, vI p2] [vI 0, .ref o] hM rfl (gwV mw_459 mw_456 mw_457 mw_458 mw_2) rfl (by decide +kernel) 0 hx rfl rfl rfl Sb.rf rfl rfl dL_messageByte_7 HT (fun E9 w1 hp9 => ?_) (fun r w1 hp => ?_)
  · rcases hE E9 w1 hp9 with rfl
    · refine ⟨[], [], ⟨0, 12, 15, 22⟩, "java/lang/IndexOutOfBoundsException", rfl, (fun z hz => absurd hz List.not_mem_nil), rfl, by decide, (List.mem_cons_of_mem _ mw_431), List.mem_of_getElem? (i := 1) rfl, fun q => ?_⟩
      show V X 2 12 15 [(0, .ref x), (1, vI p0), (2, vI p1), (3, vI p2), (4, .ref o)] [.ref q] (w1 ++ [(o, .inl ((vG X).2 2, 1, .inr (.inl (fL g))))])
      refine v_astore C M dL_messageByte_15 (by decide) (L' := [(5, .ref q), (0, .ref x), (1, vI p0), (2, vI p1), (3, vI p2), (4, .ref o)]) rfl ?_
      refine v_iconst C dL_messageByte_17 ?_
      exact v_iret C E rfl dL_messageByte_18 (by decide) (by decide) (Or.inr ⟨_, w1, _, hp9, ⟨rfl, rfl⟩, rfl, rfl⟩)
  · obtain ⟨z, rfl⟩ := hr r w1 hp
    refine V.sb (ws' := [(o, .inl ((vG X).2 2, 1, .inr (.inl (fL g))))] ++ w1) (Sb.bl [1, 0] 2 fl2 fl2 rfl rfl (by decide +kernel)) ?_
    refine v_i2l C dL_messageByte_10 rfl ?_
    refine v_last C 0 rfl (by decide) (by decide) (by decide) dL_messageByte_11 (ws' := [(o, .inl ((vG X).2 2, 1, .inr (.inl (fL (up g 0 (iI z).toInt64)))))] ++ w1) rfl ?_
    refine V.sb (ws' := w1 ++ [(o, .inl ((vG X).2 2, 1, .inr (.inl (fL (up g 0 (iI z).toInt64)))))]) (Sb.bl [1, 0] 2 fl2 fl2 rfl rfl (by decide +kernel)) ?_
    show V X 2 12 12 [(0, .ref x), (1, vI p0), (2, vI p1), (3, vI p2), (4, .ref o)] [] (w1 ++ [(o, .inl ((vG X).2 2, 1, .inr (.inl (fL (up g 0 (iI z).toInt64)))))])
    refine v_goto (tgt := 19) C dL_messageByte_12 (by decide) ?_
    refine v_iconst C dL_messageByte_19 ?_
    exact v_iret C E rfl dL_messageByte_20 (by decide) (by decide) (Or.inl ⟨z, w1, hp, rfl, rfl⟩)
set_option maxHeartbeats 1000000 in
set_option maxRecDepth 100000 in
theorem c_L_next (G : GG) (l : Launch) (x o : Nat) (p0 : Int) (w0 : va_W) (fs : List Value) (g : Int → Int64) (Po : Option Value → va_W → Prop) (PX : String → va_W → Prop) (hx : w0[0]? = some (x, .inr (7, fs))) (hM : CtX G l yX7_next (Cond.code yX7_next cX7_next 2 (some .int) :: wsL_law) 6 90 1 6 [.ref x, vI p0] w0 Po PX) (hr : ∀ r w, Po r w → ∃ z : Int, r = some (vI z)) (hE : ∀ E w, PX E w → (E = "java/lang/IllegalArgumentException")) : Ct G l yL_next (Cond.codeWith yL_next cL_next 4 (some .int) [(0, 9, 12, 13)] :: wsL_law) 7 111 1 6 [.ref x, vI p0, .ref o] (w0 ++ [(o, .inl (G.2 2, 1, .inr (.inl (fL g))))]) (fun r w => (∃ (z : Int) (w1 : va_W), Po (some (vI z)) w1 ∧ r = some (vI 0) ∧ w = w1 ++ [(o, .inl (G.2 2, 1, .inr (.inl (fL (up g 0 (iI z).toInt64)))))]) ∨ (∃ (E : String) (w1 : va_W) (k : Int), PX E w1 ∧ ((E = "java/lang/IllegalArgumentException" ∧ k = 1)) ∧ r = some (vI k) ∧ w = w1 ++ [(o, .inl (G.2 2, 1, .inr (.inl (fL g))))])) := by
  refine Ct.ofH (own := RL) (cc := cL_next) (maxL := 4) (ret := (some .int)) (hh := [(0, 9, 12, 13)]) (by decide) rfl rfl (Nat.le_of_ble_eq_true rfl) (fun X C E HT M hG hl => ?_)
  subst hG hl
  refine v_aload_n C dL_next_0 rfl 2 rfl ?_
  refine v_iconst C dL_next_1 ?_
  refine v_aload_n C dL_next_2 rfl 0 rfl ?_
  refine v_iload_n C dL_next_3 rfl 1 rfl ?_
  refine v_callVC (na := 1) (wy := (Cond.code yX7_next cX7_next 2 (some .int) :: wsL_law)) (wc := w0) (wr := [(o, .inl ((vG X).2 2, 1, .inr (.inl (fL g))))]) C [vI p0] [vI 0, .ref o] hM rfl (gwV mw_488 mw_485 mw_486 mw_487 mw_2) rfl (by decide +kernel) 0 hx rfl rfl rfl Sb.rf rfl rfl dL_next_4 HT (fun E9 w1 hp9 => ?_) (fun r w1 hp => ?_)
  · rcases hE E9 w1 hp9 with rfl
    · refine ⟨[], [], ⟨0, 9, 12, 13⟩, "java/lang/IllegalArgumentException", rfl, (fun z hz => absurd hz List.not_mem_nil), rfl, by decide, (List.mem_cons_of_mem _ mw_157), List.mem_of_getElem? (i := 0) rfl, fun q => ?_⟩
      show V X 1 6 12 [(0, .ref x), (1, vI p0), (2, .ref o)] [.ref q] (w1 ++ [(o, .inl ((vG X).2 2, 1, .inr (.inl (fL g))))])
      refine v_astore_n C M dL_next_12 rfl (by decide) (L' := [(3, .ref q), (0, .ref x), (1, vI p0), (2, .ref o)]) rfl ?_
      refine v_iconst C dL_next_13 ?_
      exact v_iret C E rfl dL_next_14 (by decide) (by decide) (Or.inr ⟨_, w1, _, hp9, ⟨rfl, rfl⟩, rfl, rfl⟩)
  · obtain ⟨z, rfl⟩ := hr r w1 hp
    refine V.sb (ws' := [(o, .inl ((vG X).2 2, 1, .inr (.inl (fL g))))] ++ w1) (Sb.bl [1, 0] 2 fl2 fl2 rfl rfl (by decide +kernel)) ?_
    refine v_i2l C dL_next_7 rfl ?_
    refine v_last C 0 rfl (by decide) (by decide) (by decide) dL_next_8 (ws' := [(o, .inl ((vG X).2 2, 1, .inr (.inl (fL (up g 0 (iI z).toInt64)))))] ++ w1) rfl ?_
    refine V.sb (ws' := w1 ++ [(o, .inl ((vG X).2 2, 1, .inr (.inl (fL (up g 0 (iI z).toInt64)))))]) (Sb.bl [1, 0] 2 fl2 fl2 rfl rfl (by decide +kernel)) ?_
    show V X 1 6 9 [(0, .ref x), (1, vI p0), (2, .ref o)] [] (w1 ++ [(o, .inl ((vG X).2 2, 1, .inr (.inl (fL (up g 0 (iI z).toInt64)))))])
    refine v_goto (tgt := 15) C dL_next_9 (by decide) ?_
    refine v_iconst C dL_next_15 ?_
    exact v_iret C E rfl dL_next_16 (by decide) (by decide) (Or.inl ⟨z, w1, hp, rfl, rfl⟩)
set_option maxHeartbeats 1000000 in
set_option maxRecDepth 100000 in
theorem c_L_until (G : GG) (l : Launch) (x o : Nat) (p0 : Int) (p1 : Int) (w0 : va_W) (fs : List Value) (g : Int → Int64) (Po : Option Value → va_W → Prop) (PX : String → va_W → Prop) (hx : w0[0]? = some (x, .inr (7, fs))) (hM : CtX G l yX7_until (Cond.code yX7_until cX7_until 3 (some .int) :: wsL_law) 7 195 1 6 [.ref x, vI p0, vI p1] w0 Po PX) (hr : ∀ r w, Po r w → ∃ z : Int, r = some (vI z)) (hE : ∀ E w, PX E w → (E = "java/lang/IllegalArgumentException")) : Ct G l yL_until (Cond.codeWith yL_until cL_until 5 (some .int) [(0, 10, 13, 13)] :: wsL_law) 8 217 1 6 [.ref x, vI p0, vI p1, .ref o] (w0 ++ [(o, .inl (G.2 2, 1, .inr (.inl (fL g))))]) (fun r w => (∃ (z : Int) (w1 : va_W), Po (some (vI z)) w1 ∧ r = some (vI 0) ∧ w = w1 ++ [(o, .inl (G.2 2, 1, .inr (.inl (fL (up g 0 (iI z).toInt64)))))]) ∨ (∃ (E : String) (w1 : va_W) (k : Int), PX E w1 ∧ ((E = "java/lang/IllegalArgumentException" ∧ k = 1)) ∧ r = some (vI k) ∧ w = w1 ++ [(o, .inl (G.2 2, 1, .inr (.inl (fL g))))])) := by
  refine Ct.ofH (own := RL) (cc := cL_until) (maxL := 5) (ret := (some .int)) (hh := [(0, 10, 13, 13)]) (by decide) rfl rfl (Nat.le_of_ble_eq_true rfl) (fun X C E HT M hG hl => ?_)
  subst hG hl
  refine v_aload_n C dL_until_0 rfl 3 rfl ?_
  refine v_iconst C dL_until_1 ?_
  refine v_aload_n C dL_until_2 rfl 0 rfl ?_
  refine v_iload_n C dL_until_3 rfl 1 rfl ?_
  refine v_iload_n C dL_until_4 rfl 2 rfl ?_
  refine v_callVC (na := 2) (wy := (Cond.code yX7_until cX7_until 3 (some .int) :: wsL_law)) (wc := w0) (wr := [(o, .inl ((vG X).2 2, 1, .inr (.inl (fL g))))]) C [vI p0, vI p1] [vI 0, .ref o] hM rfl (gwV mw_577 mw_574 mw_575 mw_576 mw_2) rfl (by decide +kernel) 0 hx rfl rfl rfl Sb.rf rfl rfl dL_until_5 HT (fun E9 w1 hp9 => ?_) (fun r w1 hp => ?_)
  · rcases hE E9 w1 hp9 with rfl
    · refine ⟨[], [], ⟨0, 10, 13, 13⟩, "java/lang/IllegalArgumentException", rfl, (fun z hz => absurd hz List.not_mem_nil), rfl, by decide, (List.mem_cons_of_mem _ mw_157), List.mem_of_getElem? (i := 0) rfl, fun q => ?_⟩
      show V X 1 6 13 [(0, .ref x), (1, vI p0), (2, vI p1), (3, .ref o)] [.ref q] (w1 ++ [(o, .inl ((vG X).2 2, 1, .inr (.inl (fL g))))])
      refine v_astore C M dL_until_13 (by decide) (L' := [(4, .ref q), (0, .ref x), (1, vI p0), (2, vI p1), (3, .ref o)]) rfl ?_
      refine v_iconst C dL_until_15 ?_
      exact v_iret C E rfl dL_until_16 (by decide) (by decide) (Or.inr ⟨_, w1, _, hp9, ⟨rfl, rfl⟩, rfl, rfl⟩)
  · obtain ⟨z, rfl⟩ := hr r w1 hp
    refine V.sb (ws' := [(o, .inl ((vG X).2 2, 1, .inr (.inl (fL g))))] ++ w1) (Sb.bl [1, 0] 2 fl2 fl2 rfl rfl (by decide +kernel)) ?_
    refine v_i2l C dL_until_8 rfl ?_
    refine v_last C 0 rfl (by decide) (by decide) (by decide) dL_until_9 (ws' := [(o, .inl ((vG X).2 2, 1, .inr (.inl (fL (up g 0 (iI z).toInt64)))))] ++ w1) rfl ?_
    refine V.sb (ws' := w1 ++ [(o, .inl ((vG X).2 2, 1, .inr (.inl (fL (up g 0 (iI z).toInt64)))))]) (Sb.bl [1, 0] 2 fl2 fl2 rfl rfl (by decide +kernel)) ?_
    show V X 1 6 10 [(0, .ref x), (1, vI p0), (2, vI p1), (3, .ref o)] [] (w1 ++ [(o, .inl ((vG X).2 2, 1, .inr (.inl (fL (up g 0 (iI z).toInt64)))))])
    refine v_goto (tgt := 17) C dL_until_10 (by decide) ?_
    refine v_iconst C dL_until_17 ?_
    exact v_iret C E rfl dL_until_18 (by decide) (by decide) (Or.inl ⟨z, w1, hp, rfl, rfl⟩)
set_option maxHeartbeats 1000000 in
set_option maxRecDepth 100000 in
theorem c_L_delay (G : GG) (l : Launch) (x o : Nat) (p0 : Int) (w0 : va_W) (fs : List Value) (g : Int → Int64) (Po : Option Value → va_W → Prop) (PX : String → va_W → Prop) (hx : w0[0]? = some (x, .inr (7, fs))) (hM : CtX G l yX7_delay (Cond.code yX7_delay cX7_delay 2 (some .int) :: wsL_law) 7 197 1 6 [.ref x, vI p0] w0 Po PX) (hr : ∀ r w, Po r w → ∃ z : Int, r = some (vI z)) (hE : ∀ E w, PX E w → (E = "java/lang/IllegalArgumentException")) : Ct G l yL_delay (Cond.codeWith yL_delay cL_delay 4 (some .int) [(0, 9, 12, 13)] :: wsL_law) 8 218 1 6 [.ref x, vI p0, .ref o] (w0 ++ [(o, .inl (G.2 2, 1, .inr (.inl (fL g))))]) (fun r w => (∃ (z : Int) (w1 : va_W), Po (some (vI z)) w1 ∧ r = some (vI 0) ∧ w = w1 ++ [(o, .inl (G.2 2, 1, .inr (.inl (fL (up g 0 (iI z).toInt64)))))]) ∨ (∃ (E : String) (w1 : va_W) (k : Int), PX E w1 ∧ ((E = "java/lang/IllegalArgumentException" ∧ k = 1)) ∧ r = some (vI k) ∧ w = w1 ++ [(o, .inl (G.2 2, 1, .inr (.inl (fL g))))])) := by
  refine Ct.ofH (own := RL) (cc := cL_delay) (maxL := 4) (ret := (some .int)) (hh := [(0, 9, 12, 13)]) (by decide) rfl rfl (Nat.le_of_ble_eq_true rfl) (fun X C E HT M hG hl => ?_)
  subst hG hl
  refine v_aload_n C dL_delay_0 rfl 2 rfl ?_
  refine v_iconst C dL_delay_1 ?_
  refine v_aload_n C dL_delay_2 rfl 0 rfl ?_
  refine v_iload_n C dL_delay_3 rfl 1 rfl ?_
  refine v_callVC (na := 1) (wy := (Cond.code yX7_delay cX7_delay 2 (some .int) :: wsL_law)) (wc := w0) (wr := [(o, .inl ((vG X).2 2, 1, .inr (.inl (fL g))))]) C [vI p0] [vI 0, .ref o] hM rfl (gwV mw_677 mw_674 mw_675 mw_676 mw_2) rfl (by decide +kernel) 0 hx rfl rfl rfl Sb.rf rfl rfl dL_delay_4 HT (fun E9 w1 hp9 => ?_) (fun r w1 hp => ?_)
  · rcases hE E9 w1 hp9 with rfl
    · refine ⟨[], [], ⟨0, 9, 12, 13⟩, "java/lang/IllegalArgumentException", rfl, (fun z hz => absurd hz List.not_mem_nil), rfl, by decide, (List.mem_cons_of_mem _ mw_157), List.mem_of_getElem? (i := 0) rfl, fun q => ?_⟩
      show V X 1 6 12 [(0, .ref x), (1, vI p0), (2, .ref o)] [.ref q] (w1 ++ [(o, .inl ((vG X).2 2, 1, .inr (.inl (fL g))))])
      refine v_astore_n C M dL_delay_12 rfl (by decide) (L' := [(3, .ref q), (0, .ref x), (1, vI p0), (2, .ref o)]) rfl ?_
      refine v_iconst C dL_delay_13 ?_
      exact v_iret C E rfl dL_delay_14 (by decide) (by decide) (Or.inr ⟨_, w1, _, hp9, ⟨rfl, rfl⟩, rfl, rfl⟩)
  · obtain ⟨z, rfl⟩ := hr r w1 hp
    refine V.sb (ws' := [(o, .inl ((vG X).2 2, 1, .inr (.inl (fL g))))] ++ w1) (Sb.bl [1, 0] 2 fl2 fl2 rfl rfl (by decide +kernel)) ?_
    refine v_i2l C dL_delay_7 rfl ?_
    refine v_last C 0 rfl (by decide) (by decide) (by decide) dL_delay_8 (ws' := [(o, .inl ((vG X).2 2, 1, .inr (.inl (fL (up g 0 (iI z).toInt64)))))] ++ w1) rfl ?_
    refine V.sb (ws' := w1 ++ [(o, .inl ((vG X).2 2, 1, .inr (.inl (fL (up g 0 (iI z).toInt64)))))]) (Sb.bl [1, 0] 2 fl2 fl2 rfl rfl (by decide +kernel)) ?_
    show V X 1 6 9 [(0, .ref x), (1, vI p0), (2, .ref o)] [] (w1 ++ [(o, .inl ((vG X).2 2, 1, .inr (.inl (fL (up g 0 (iI z).toInt64)))))])
    refine v_goto (tgt := 15) C dL_delay_9 (by decide) ?_
    refine v_iconst C dL_delay_15 ?_
    exact v_iret C E rfl dL_delay_16 (by decide) (by decide) (Or.inl ⟨z, w1, hp, rfl, rfl⟩)
set_option maxHeartbeats 1000000 in
set_option maxRecDepth 100000 in
theorem c_L_account (G : GG) (l : Launch) (x o : Nat) (p0 : Int) (w0 : va_W) (fs : List Value) (g : Int → Int64) (Po : Option Value → va_W → Prop) (PX : String → va_W → Prop) (hx : w0[0]? = some (x, .inr (7, fs))) (hM : CtX G l yX7_account (Cond.code yX7_account cX7_account 2 (some .int) :: wsL_law) 6 90 1 6 [.ref x, vI p0] w0 Po PX) (hr : ∀ r w, Po r w → ∃ z : Int, r = some (vI z)) (hE : ∀ E w, PX E w → (E = "java/lang/IllegalArgumentException")) : Ct G l yL_account (Cond.codeWith yL_account cL_account 4 (some .int) [(0, 9, 12, 13)] :: wsL_law) 7 111 1 6 [.ref x, vI p0, .ref o] (w0 ++ [(o, .inl (G.2 2, 1, .inr (.inl (fL g))))]) (fun r w => (∃ (z : Int) (w1 : va_W), Po (some (vI z)) w1 ∧ r = some (vI 0) ∧ w = w1 ++ [(o, .inl (G.2 2, 1, .inr (.inl (fL (up g 0 (iI z).toInt64)))))]) ∨ (∃ (E : String) (w1 : va_W) (k : Int), PX E w1 ∧ ((E = "java/lang/IllegalArgumentException" ∧ k = 1)) ∧ r = some (vI k) ∧ w = w1 ++ [(o, .inl (G.2 2, 1, .inr (.inl (fL g))))])) := by
  refine Ct.ofH (own := RL) (cc := cL_account) (maxL := 4) (ret := (some .int)) (hh := [(0, 9, 12, 13)]) (by decide) rfl rfl (Nat.le_of_ble_eq_true rfl) (fun X C E HT M hG hl => ?_)
  subst hG hl
  refine v_aload_n C dL_account_0 rfl 2 rfl ?_
  refine v_iconst C dL_account_1 ?_
  refine v_aload_n C dL_account_2 rfl 0 rfl ?_
  refine v_iload_n C dL_account_3 rfl 1 rfl ?_
  refine v_callVC (na := 1) (wy := (Cond.code yX7_account cX7_account 2 (some .int) :: wsL_law)) (wc := w0) (wr := [(o, .inl ((vG X).2 2, 1, .inr (.inl (fL g))))]) C [vI p0] [vI 0, .ref o] hM rfl (gwV mw_725 mw_722 mw_723 mw_724 mw_2) rfl (by decide +kernel) 0 hx rfl rfl rfl Sb.rf rfl rfl dL_account_4 HT (fun E9 w1 hp9 => ?_) (fun r w1 hp => ?_)
  · rcases hE E9 w1 hp9 with rfl
    · refine ⟨[], [], ⟨0, 9, 12, 13⟩, "java/lang/IllegalArgumentException", rfl, (fun z hz => absurd hz List.not_mem_nil), rfl, by decide, (List.mem_cons_of_mem _ mw_157), List.mem_of_getElem? (i := 0) rfl, fun q => ?_⟩
      show V X 1 6 12 [(0, .ref x), (1, vI p0), (2, .ref o)] [.ref q] (w1 ++ [(o, .inl ((vG X).2 2, 1, .inr (.inl (fL g))))])
      refine v_astore_n C M dL_account_12 rfl (by decide) (L' := [(3, .ref q), (0, .ref x), (1, vI p0), (2, .ref o)]) rfl ?_
      refine v_iconst C dL_account_13 ?_
      exact v_iret C E rfl dL_account_14 (by decide) (by decide) (Or.inr ⟨_, w1, _, hp9, ⟨rfl, rfl⟩, rfl, rfl⟩)
  · obtain ⟨z, rfl⟩ := hr r w1 hp
    refine V.sb (ws' := [(o, .inl ((vG X).2 2, 1, .inr (.inl (fL g))))] ++ w1) (Sb.bl [1, 0] 2 fl2 fl2 rfl rfl (by decide +kernel)) ?_
    refine v_i2l C dL_account_7 rfl ?_
    refine v_last C 0 rfl (by decide) (by decide) (by decide) dL_account_8 (ws' := [(o, .inl ((vG X).2 2, 1, .inr (.inl (fL (up g 0 (iI z).toInt64)))))] ++ w1) rfl ?_
    refine V.sb (ws' := w1 ++ [(o, .inl ((vG X).2 2, 1, .inr (.inl (fL (up g 0 (iI z).toInt64)))))]) (Sb.bl [1, 0] 2 fl2 fl2 rfl rfl (by decide +kernel)) ?_
    show V X 1 6 9 [(0, .ref x), (1, vI p0), (2, .ref o)] [] (w1 ++ [(o, .inl ((vG X).2 2, 1, .inr (.inl (fL (up g 0 (iI z).toInt64)))))])
    refine v_goto (tgt := 15) C dL_account_9 (by decide) ?_
    refine v_iconst C dL_account_15 ?_
    exact v_iret C E rfl dL_account_16 (by decide) (by decide) (Or.inl ⟨z, w1, hp, rfl, rfl⟩)
set_option maxHeartbeats 1000000 in
set_option maxRecDepth 100000 in
theorem c_L_put (G : GG) (l : Launch) (x o : Nat) (p0 : Int) (p1 : Int) (p2 : Int64) (w0 : va_W) (fs : List Value) (g : Int → Int64) (Po : Option Value → va_W → Prop) (PX : String → va_W → Prop) (hx : w0[0]? = some (x, .inr (7, fs))) (hM : CtX G l yX7_put (Cond.code yX7_put cX7_put 6 (some .int) :: wsL_law) 7 124 2 12 [.ref x, vI p0, vI p1, .long p2] w0 Po PX) (hr : ∀ r w, Po r w → ∃ z : Int, r = some (vI z)) (hE : ∀ E w, PX E w → (E = "java/lang/IndexOutOfBoundsException" ∨ E = "java/lang/IllegalArgumentException" ∨ E = "java/lang/IllegalStateException")) : Ct G l yL_put (Cond.codeWith yL_put cL_put 7 (some .int) [(0, 12, 15, 22), (0, 12, 19, 13), (0, 12, 23, 45)] :: wsL_law) 8 149 2 12 [.ref x, vI p0, vI p1, .long p2, .ref o] (w0 ++ [(o, .inl (G.2 2, 1, .inr (.inl (fL g))))]) (fun r w => (∃ (z : Int) (w1 : va_W), Po (some (vI z)) w1 ∧ r = some (vI 0) ∧ w = w1 ++ [(o, .inl (G.2 2, 1, .inr (.inl (fL (up g 0 (iI z).toInt64)))))]) ∨ (∃ (E : String) (w1 : va_W) (k : Int), PX E w1 ∧ ((E = "java/lang/IndexOutOfBoundsException" ∧ k = 1) ∨ (E = "java/lang/IllegalArgumentException" ∧ k = 2) ∨ (E = "java/lang/IllegalStateException" ∧ k = 3)) ∧ r = some (vI k) ∧ w = w1 ++ [(o, .inl (G.2 2, 1, .inr (.inl (fL g))))])) := by
  refine Ct.ofH (own := RL) (cc := cL_put) (maxL := 7) (ret := (some .int)) (hh := [(0, 12, 15, 22), (0, 12, 19, 13), (0, 12, 23, 45)]) (by decide) rfl rfl (Nat.le_of_ble_eq_true rfl) (fun X C E HT M hG hl => ?_)
  subst hG hl
  refine v_aload C dL_put_0 4 rfl ?_
  refine v_iconst C dL_put_2 ?_
  refine v_aload_n C dL_put_3 rfl 0 rfl ?_
  refine v_iload_n C dL_put_4 rfl 1 rfl ?_
  refine v_iload_n C dL_put_5 rfl 2 rfl ?_
  refine v_lload_n C dL_put_6 rfl 3 rfl ?_
  refine v_callVC (na := 3) (wy := (Cond.code yX7_put cX7_put 6 (some .int) :: wsL_law)) (wc := w0) (wr := [(o, .inl ((vG X).2 2, 1, .inr (.inl (fL g))))]) C [vI p0, vI p1, .long p2] [vI 0, .ref o] hM rfl (gwV mw_750 mw_747 mw_748 mw_749 mw_2) rfl (by decide +kernel) 0 hx rfl rfl rfl Sb.rf rfl rfl dL_put_7 HT (fun E9 w1 hp9 => ?_) (fun r w1 hp => ?_)
  · rcases hE E9 w1 hp9 with rfl | rfl | rfl
    · refine ⟨[], [⟨0, 12, 19, 13⟩, ⟨0, 12, 23, 45⟩], ⟨0, 12, 15, 22⟩, "java/lang/IndexOutOfBoundsException", rfl, (fun z hz => absurd hz List.not_mem_nil), rfl, by decide, (List.mem_cons_of_mem _ mw_431), List.mem_of_getElem? (i := 1) rfl, fun q => ?_⟩
      show V X 2 12 15 [(0, .ref x), (1, vI p0), (2, vI p1), (3, .long p2), (5, .ref o)] [.ref q] (w1 ++ [(o, .inl ((vG X).2 2, 1, .inr (.inl (fL g))))])
      refine v_astore C M dL_put_15 (by decide) (L' := [(6, .ref q), (0, .ref x), (1, vI p0), (2, vI p1), (3, .long p2), (5, .ref o)]) rfl ?_
      refine v_iconst C dL_put_17 ?_
      exact v_iret C E rfl dL_put_18 (by decide) (by decide) (Or.inr ⟨_, w1, _, hp9, Or.inl ⟨rfl, rfl⟩, rfl, rfl⟩)
    · refine ⟨[⟨0, 12, 15, 22⟩], [⟨0, 12, 23, 45⟩], ⟨0, 12, 19, 13⟩, "java/lang/IllegalArgumentException", rfl, (fun z hz => (List.mem_cons.mp hz).elim (fun e => by subst e; exact ⟨by decide, "java/lang/IndexOutOfBoundsException", (List.mem_cons_of_mem _ mw_431), List.mem_of_getElem? (i := 0) rfl⟩) (fun hz => absurd hz List.not_mem_nil)), rfl, by decide, (List.mem_cons_of_mem _ mw_157), List.mem_of_getElem? (i := 0) rfl, fun q => ?_⟩
      show V X 2 12 19 [(0, .ref x), (1, vI p0), (2, vI p1), (3, .long p2), (5, .ref o)] [.ref q] (w1 ++ [(o, .inl ((vG X).2 2, 1, .inr (.inl (fL g))))])
      refine v_astore C M dL_put_19 (by decide) (L' := [(6, .ref q), (0, .ref x), (1, vI p0), (2, vI p1), (3, .long p2), (5, .ref o)]) rfl ?_
      refine v_iconst C dL_put_21 ?_
      exact v_iret C E rfl dL_put_22 (by decide) (by decide) (Or.inr ⟨_, w1, _, hp9, Or.inr (Or.inl ⟨rfl, rfl⟩), rfl, rfl⟩)
    · refine ⟨[⟨0, 12, 15, 22⟩, ⟨0, 12, 19, 13⟩], [], ⟨0, 12, 23, 45⟩, "java/lang/IllegalStateException", rfl, (fun z hz => (List.mem_cons.mp hz).elim (fun e => by subst e; exact ⟨by decide, "java/lang/IndexOutOfBoundsException", (List.mem_cons_of_mem _ mw_431), List.mem_of_getElem? (i := 5) rfl⟩) (fun hz => (List.mem_cons.mp hz).elim (fun e => by subst e; exact ⟨by decide, "java/lang/IllegalArgumentException", (List.mem_cons_of_mem _ mw_157), List.mem_of_getElem? (i := 4) rfl⟩) (fun hz => absurd hz List.not_mem_nil))), rfl, by decide, (List.mem_cons_of_mem _ mw_746), List.mem_of_getElem? (i := 2) rfl, fun q => ?_⟩
      show V X 2 12 23 [(0, .ref x), (1, vI p0), (2, vI p1), (3, .long p2), (5, .ref o)] [.ref q] (w1 ++ [(o, .inl ((vG X).2 2, 1, .inr (.inl (fL g))))])
      refine v_astore C M dL_put_23 (by decide) (L' := [(6, .ref q), (0, .ref x), (1, vI p0), (2, vI p1), (3, .long p2), (5, .ref o)]) rfl ?_
      refine v_iconst C dL_put_25 ?_
      exact v_iret C E rfl dL_put_26 (by decide) (by decide) (Or.inr ⟨_, w1, _, hp9, Or.inr (Or.inr (⟨rfl, rfl⟩)), rfl, rfl⟩)
  · obtain ⟨z, rfl⟩ := hr r w1 hp
    refine V.sb (ws' := [(o, .inl ((vG X).2 2, 1, .inr (.inl (fL g))))] ++ w1) (Sb.bl [1, 0] 2 fl2 fl2 rfl rfl (by decide +kernel)) ?_
    refine v_i2l C dL_put_10 rfl ?_
    refine v_last C 0 rfl (by decide) (by decide) (by decide) dL_put_11 (ws' := [(o, .inl ((vG X).2 2, 1, .inr (.inl (fL (up g 0 (iI z).toInt64)))))] ++ w1) rfl ?_
    refine V.sb (ws' := w1 ++ [(o, .inl ((vG X).2 2, 1, .inr (.inl (fL (up g 0 (iI z).toInt64)))))]) (Sb.bl [1, 0] 2 fl2 fl2 rfl rfl (by decide +kernel)) ?_
    show V X 2 12 12 [(0, .ref x), (1, vI p0), (2, vI p1), (3, .long p2), (5, .ref o)] [] (w1 ++ [(o, .inl ((vG X).2 2, 1, .inr (.inl (fL (up g 0 (iI z).toInt64)))))])
    refine v_goto (tgt := 27) C dL_put_12 (by decide) ?_
    refine v_iconst C dL_put_27 ?_
    exact v_iret C E rfl dL_put_28 (by decide) (by decide) (Or.inl ⟨z, w1, hp, rfl, rfl⟩)
set_option maxHeartbeats 1000000 in
set_option maxRecDepth 100000 in
theorem c_L_read (G : GG) (l : Launch) (x o : Nat) (p0 : Int) (p1 : Int) (w0 : va_W) (fs : List Value) (g : Int → Int64) (Po : Option Value → va_W → Prop) (PX : String → va_W → Prop) (hx : w0[0]? = some (x, .inr (7, fs))) (hM : CtX G l yX7_read (Cond.code yX7_read cX7_read 4 (some .int) :: wsL_law) 7 124 3 18 [.ref x, vI p0, vI p1] w0 Po PX) (hr : ∀ r w, Po r w → ∃ z : Int, r = some (vI z)) (hE : ∀ E w, PX E w → (E = "java/lang/IndexOutOfBoundsException" ∨ E = "java/lang/IllegalArgumentException" ∨ E = "java/lang/IllegalStateException")) : Ct G l yL_read (Cond.codeWith yL_read cL_read 5 (some .int) [(0, 10, 13, 22), (0, 10, 17, 13), (0, 10, 21, 45)] :: wsL_law) 8 147 3 18 [.ref x, vI p0, vI p1, .ref o] (w0 ++ [(o, .inl (G.2 2, 1, .inr (.inl (fL g))))]) (fun r w => (∃ (z : Int) (w1 : va_W), Po (some (vI z)) w1 ∧ r = some (vI 0) ∧ w = w1 ++ [(o, .inl (G.2 2, 1, .inr (.inl (fL (up g 0 (iI z).toInt64)))))]) ∨ (∃ (E : String) (w1 : va_W) (k : Int), PX E w1 ∧ ((E = "java/lang/IndexOutOfBoundsException" ∧ k = 1) ∨ (E = "java/lang/IllegalArgumentException" ∧ k = 2) ∨ (E = "java/lang/IllegalStateException" ∧ k = 3)) ∧ r = some (vI k) ∧ w = w1 ++ [(o, .inl (G.2 2, 1, .inr (.inl (fL g))))])) := by
  refine Ct.ofH (own := RL) (cc := cL_read) (maxL := 5) (ret := (some .int)) (hh := [(0, 10, 13, 22), (0, 10, 17, 13), (0, 10, 21, 45)]) (by decide) rfl rfl (Nat.le_of_ble_eq_true rfl) (fun X C E HT M hG hl => ?_)
  subst hG hl
  refine v_aload_n C dL_read_0 rfl 3 rfl ?_
  refine v_iconst C dL_read_1 ?_
  refine v_aload_n C dL_read_2 rfl 0 rfl ?_
  refine v_iload_n C dL_read_3 rfl 1 rfl ?_
  refine v_iload_n C dL_read_4 rfl 2 rfl ?_
  refine v_callVC (na := 2) (wy := (Cond.code yX7_read cX7_read 4 (some .int) :: wsL_law)) (wc := w0) (wr := [(o, .inl ((vG X).2 2, 1, .inr (.inl (fL g))))]) C [vI p0, vI p1] [vI 0, .ref o] hM rfl (gwV mw_783 mw_780 mw_781 mw_782 mw_2) rfl (by decide +kernel) 0 hx rfl rfl rfl Sb.rf rfl rfl dL_read_5 HT (fun E9 w1 hp9 => ?_) (fun r w1 hp => ?_)
  · rcases hE E9 w1 hp9 with rfl | rfl | rfl
    · refine ⟨[], [⟨0, 10, 17, 13⟩, ⟨0, 10, 21, 45⟩], ⟨0, 10, 13, 22⟩, "java/lang/IndexOutOfBoundsException", rfl, (fun z hz => absurd hz List.not_mem_nil), rfl, by decide, (List.mem_cons_of_mem _ mw_431), List.mem_of_getElem? (i := 1) rfl, fun q => ?_⟩
      show V X 3 18 13 [(0, .ref x), (1, vI p0), (2, vI p1), (3, .ref o)] [.ref q] (w1 ++ [(o, .inl ((vG X).2 2, 1, .inr (.inl (fL g))))])
      refine v_astore C M dL_read_13 (by decide) (L' := [(4, .ref q), (0, .ref x), (1, vI p0), (2, vI p1), (3, .ref o)]) rfl ?_
      refine v_iconst C dL_read_15 ?_
      exact v_iret C E rfl dL_read_16 (by decide) (by decide) (Or.inr ⟨_, w1, _, hp9, Or.inl ⟨rfl, rfl⟩, rfl, rfl⟩)
    · refine ⟨[⟨0, 10, 13, 22⟩], [⟨0, 10, 21, 45⟩], ⟨0, 10, 17, 13⟩, "java/lang/IllegalArgumentException", rfl, (fun z hz => (List.mem_cons.mp hz).elim (fun e => by subst e; exact ⟨by decide, "java/lang/IndexOutOfBoundsException", (List.mem_cons_of_mem _ mw_431), List.mem_of_getElem? (i := 0) rfl⟩) (fun hz => absurd hz List.not_mem_nil)), rfl, by decide, (List.mem_cons_of_mem _ mw_157), List.mem_of_getElem? (i := 0) rfl, fun q => ?_⟩
      show V X 3 18 17 [(0, .ref x), (1, vI p0), (2, vI p1), (3, .ref o)] [.ref q] (w1 ++ [(o, .inl ((vG X).2 2, 1, .inr (.inl (fL g))))])
      refine v_astore C M dL_read_17 (by decide) (L' := [(4, .ref q), (0, .ref x), (1, vI p0), (2, vI p1), (3, .ref o)]) rfl ?_
      refine v_iconst C dL_read_19 ?_
      exact v_iret C E rfl dL_read_20 (by decide) (by decide) (Or.inr ⟨_, w1, _, hp9, Or.inr (Or.inl ⟨rfl, rfl⟩), rfl, rfl⟩)
    · refine ⟨[⟨0, 10, 13, 22⟩, ⟨0, 10, 17, 13⟩], [], ⟨0, 10, 21, 45⟩, "java/lang/IllegalStateException", rfl, (fun z hz => (List.mem_cons.mp hz).elim (fun e => by subst e; exact ⟨by decide, "java/lang/IndexOutOfBoundsException", (List.mem_cons_of_mem _ mw_431), List.mem_of_getElem? (i := 5) rfl⟩) (fun hz => (List.mem_cons.mp hz).elim (fun e => by subst e; exact ⟨by decide, "java/lang/IllegalArgumentException", (List.mem_cons_of_mem _ mw_157), List.mem_of_getElem? (i := 4) rfl⟩) (fun hz => absurd hz List.not_mem_nil))), rfl, by decide, (List.mem_cons_of_mem _ mw_746), List.mem_of_getElem? (i := 2) rfl, fun q => ?_⟩
      show V X 3 18 21 [(0, .ref x), (1, vI p0), (2, vI p1), (3, .ref o)] [.ref q] (w1 ++ [(o, .inl ((vG X).2 2, 1, .inr (.inl (fL g))))])
      refine v_astore C M dL_read_21 (by decide) (L' := [(4, .ref q), (0, .ref x), (1, vI p0), (2, vI p1), (3, .ref o)]) rfl ?_
      refine v_iconst C dL_read_23 ?_
      exact v_iret C E rfl dL_read_24 (by decide) (by decide) (Or.inr ⟨_, w1, _, hp9, Or.inr (Or.inr (⟨rfl, rfl⟩)), rfl, rfl⟩)
  · obtain ⟨z, rfl⟩ := hr r w1 hp
    refine V.sb (ws' := [(o, .inl ((vG X).2 2, 1, .inr (.inl (fL g))))] ++ w1) (Sb.bl [1, 0] 2 fl2 fl2 rfl rfl (by decide +kernel)) ?_
    refine v_i2l C dL_read_8 rfl ?_
    refine v_last C 0 rfl (by decide) (by decide) (by decide) dL_read_9 (ws' := [(o, .inl ((vG X).2 2, 1, .inr (.inl (fL (up g 0 (iI z).toInt64)))))] ++ w1) rfl ?_
    refine V.sb (ws' := w1 ++ [(o, .inl ((vG X).2 2, 1, .inr (.inl (fL (up g 0 (iI z).toInt64)))))]) (Sb.bl [1, 0] 2 fl2 fl2 rfl rfl (by decide +kernel)) ?_
    show V X 3 18 10 [(0, .ref x), (1, vI p0), (2, vI p1), (3, .ref o)] [] (w1 ++ [(o, .inl ((vG X).2 2, 1, .inr (.inl (fL (up g 0 (iI z).toInt64)))))])
    refine v_goto (tgt := 25) C dL_read_10 (by decide) ?_
    refine v_iconst C dL_read_25 ?_
    exact v_iret C E rfl dL_read_26 (by decide) (by decide) (Or.inl ⟨z, w1, hp, rfl, rfl⟩)
set_option maxHeartbeats 1000000 in
set_option maxRecDepth 100000 in
theorem c_L_askBack (G : GG) (l : Launch) (x o : Nat) (p0 : Int) (p1 : Int) (w0 : va_W) (fs : List Value) (g : Int → Int64) (Po : Option Value → va_W → Prop) (PX : String → va_W → Prop) (hx : w0[0]? = some (x, .inr (7, fs))) (hM : CtX G l yX7_askBack (Cond.code yX7_askBack cX7_askBack 4 (some .int) :: wsL_law) 7 124 3 18 [.ref x, vI p0, vI p1] w0 Po PX) (hr : ∀ r w, Po r w → ∃ z : Int, r = some (vI z)) (hE : ∀ E w, PX E w → (E = "java/lang/IndexOutOfBoundsException" ∨ E = "java/lang/IllegalArgumentException" ∨ E = "java/lang/IllegalStateException")) : Ct G l yL_askBack (Cond.codeWith yL_askBack cL_askBack 5 (some .int) [(0, 10, 13, 22), (0, 10, 17, 13), (0, 10, 21, 45)] :: wsL_law) 8 147 3 18 [.ref x, vI p0, vI p1, .ref o] (w0 ++ [(o, .inl (G.2 2, 1, .inr (.inl (fL g))))]) (fun r w => (∃ (z : Int) (w1 : va_W), Po (some (vI z)) w1 ∧ r = some (vI 0) ∧ w = w1 ++ [(o, .inl (G.2 2, 1, .inr (.inl (fL (up g 0 (iI z).toInt64)))))]) ∨ (∃ (E : String) (w1 : va_W) (k : Int), PX E w1 ∧ ((E = "java/lang/IndexOutOfBoundsException" ∧ k = 1) ∨ (E = "java/lang/IllegalArgumentException" ∧ k = 2) ∨ (E = "java/lang/IllegalStateException" ∧ k = 3)) ∧ r = some (vI k) ∧ w = w1 ++ [(o, .inl (G.2 2, 1, .inr (.inl (fL g))))])) := by
  refine Ct.ofH (own := RL) (cc := cL_askBack) (maxL := 5) (ret := (some .int)) (hh := [(0, 10, 13, 22), (0, 10, 17, 13), (0, 10, 21, 45)]) (by decide) rfl rfl (Nat.le_of_ble_eq_true rfl) (fun X C E HT M hG hl => ?_)
  subst hG hl
  refine v_aload_n C dL_askBack_0 rfl 3 rfl ?_
  refine v_iconst C dL_askBack_1 ?_
  refine v_aload_n C dL_askBack_2 rfl 0 rfl ?_
  refine v_iload_n C dL_askBack_3 rfl 1 rfl ?_
  refine v_iload_n C dL_askBack_4 rfl 2 rfl ?_
  refine v_callVC (na := 2) (wy := (Cond.code yX7_askBack cX7_askBack 4 (some .int) :: wsL_law)) (wc := w0) (wr := [(o, .inl ((vG X).2 2, 1, .inr (.inl (fL g))))]) C [vI p0, vI p1] [vI 0, .ref o] hM rfl (gwV mw_805 mw_802 mw_803 mw_804 mw_2) rfl (by decide +kernel) 0 hx rfl rfl rfl Sb.rf rfl rfl dL_askBack_5 HT (fun E9 w1 hp9 => ?_) (fun r w1 hp => ?_)
  · rcases hE E9 w1 hp9 with rfl | rfl | rfl
    · refine ⟨[], [⟨0, 10, 17, 13⟩, ⟨0, 10, 21, 45⟩], ⟨0, 10, 13, 22⟩, "java/lang/IndexOutOfBoundsException", rfl, (fun z hz => absurd hz List.not_mem_nil), rfl, by decide, (List.mem_cons_of_mem _ mw_431), List.mem_of_getElem? (i := 1) rfl, fun q => ?_⟩
      show V X 3 18 13 [(0, .ref x), (1, vI p0), (2, vI p1), (3, .ref o)] [.ref q] (w1 ++ [(o, .inl ((vG X).2 2, 1, .inr (.inl (fL g))))])
      refine v_astore C M dL_askBack_13 (by decide) (L' := [(4, .ref q), (0, .ref x), (1, vI p0), (2, vI p1), (3, .ref o)]) rfl ?_
      refine v_iconst C dL_askBack_15 ?_
      exact v_iret C E rfl dL_askBack_16 (by decide) (by decide) (Or.inr ⟨_, w1, _, hp9, Or.inl ⟨rfl, rfl⟩, rfl, rfl⟩)
    · refine ⟨[⟨0, 10, 13, 22⟩], [⟨0, 10, 21, 45⟩], ⟨0, 10, 17, 13⟩, "java/lang/IllegalArgumentException", rfl, (fun z hz => (List.mem_cons.mp hz).elim (fun e => by subst e; exact ⟨by decide, "java/lang/IndexOutOfBoundsException", (List.mem_cons_of_mem _ mw_431), List.mem_of_getElem? (i := 0) rfl⟩) (fun hz => absurd hz List.not_mem_nil)), rfl, by decide, (List.mem_cons_of_mem _ mw_157), List.mem_of_getElem? (i := 0) rfl, fun q => ?_⟩
      show V X 3 18 17 [(0, .ref x), (1, vI p0), (2, vI p1), (3, .ref o)] [.ref q] (w1 ++ [(o, .inl ((vG X).2 2, 1, .inr (.inl (fL g))))])
      refine v_astore C M dL_askBack_17 (by decide) (L' := [(4, .ref q), (0, .ref x), (1, vI p0), (2, vI p1), (3, .ref o)]) rfl ?_
      refine v_iconst C dL_askBack_19 ?_
      exact v_iret C E rfl dL_askBack_20 (by decide) (by decide) (Or.inr ⟨_, w1, _, hp9, Or.inr (Or.inl ⟨rfl, rfl⟩), rfl, rfl⟩)
    · refine ⟨[⟨0, 10, 13, 22⟩, ⟨0, 10, 17, 13⟩], [], ⟨0, 10, 21, 45⟩, "java/lang/IllegalStateException", rfl, (fun z hz => (List.mem_cons.mp hz).elim (fun e => by subst e; exact ⟨by decide, "java/lang/IndexOutOfBoundsException", (List.mem_cons_of_mem _ mw_431), List.mem_of_getElem? (i := 5) rfl⟩) (fun hz => (List.mem_cons.mp hz).elim (fun e => by subst e; exact ⟨by decide, "java/lang/IllegalArgumentException", (List.mem_cons_of_mem _ mw_157), List.mem_of_getElem? (i := 4) rfl⟩) (fun hz => absurd hz List.not_mem_nil))), rfl, by decide, (List.mem_cons_of_mem _ mw_746), List.mem_of_getElem? (i := 2) rfl, fun q => ?_⟩
      show V X 3 18 21 [(0, .ref x), (1, vI p0), (2, vI p1), (3, .ref o)] [.ref q] (w1 ++ [(o, .inl ((vG X).2 2, 1, .inr (.inl (fL g))))])
      refine v_astore C M dL_askBack_21 (by decide) (L' := [(4, .ref q), (0, .ref x), (1, vI p0), (2, vI p1), (3, .ref o)]) rfl ?_
      refine v_iconst C dL_askBack_23 ?_
      exact v_iret C E rfl dL_askBack_24 (by decide) (by decide) (Or.inr ⟨_, w1, _, hp9, Or.inr (Or.inr (⟨rfl, rfl⟩)), rfl, rfl⟩)
  · obtain ⟨z, rfl⟩ := hr r w1 hp
    refine V.sb (ws' := [(o, .inl ((vG X).2 2, 1, .inr (.inl (fL g))))] ++ w1) (Sb.bl [1, 0] 2 fl2 fl2 rfl rfl (by decide +kernel)) ?_
    refine v_i2l C dL_askBack_8 rfl ?_
    refine v_last C 0 rfl (by decide) (by decide) (by decide) dL_askBack_9 (ws' := [(o, .inl ((vG X).2 2, 1, .inr (.inl (fL (up g 0 (iI z).toInt64)))))] ++ w1) rfl ?_
    refine V.sb (ws' := w1 ++ [(o, .inl ((vG X).2 2, 1, .inr (.inl (fL (up g 0 (iI z).toInt64)))))]) (Sb.bl [1, 0] 2 fl2 fl2 rfl rfl (by decide +kernel)) ?_
    show V X 3 18 10 [(0, .ref x), (1, vI p0), (2, vI p1), (3, .ref o)] [] (w1 ++ [(o, .inl ((vG X).2 2, 1, .inr (.inl (fL (up g 0 (iI z).toInt64)))))])
    refine v_goto (tgt := 25) C dL_askBack_10 (by decide) ?_
    refine v_iconst C dL_askBack_25 ?_
    exact v_iret C E rfl dL_askBack_26 (by decide) (by decide) (Or.inl ⟨z, w1, hp, rfl, rfl⟩)
set_option maxHeartbeats 1000000 in
set_option maxRecDepth 100000 in
theorem c_L_grow (G : GG) (l : Launch) (x o : Nat) (p0 : Int) (p1 : Int) (w0 : va_W) (fs : List Value) (g : Int → Int64) (Po : Option Value → va_W → Prop) (PX : String → va_W → Prop) (hx : w0[0]? = some (x, .inr (7, fs))) (hM : CtX G l yX7_grow (Cond.code yX7_grow cX7_grow 4 (some .int) :: wsL_law) 7 124 3 18 [.ref x, vI p0, vI p1] w0 Po PX) (hr : ∀ r w, Po r w → ∃ z : Int, r = some (vI z)) (hE : ∀ E w, PX E w → (E = "java/lang/IndexOutOfBoundsException" ∨ E = "java/lang/IllegalArgumentException" ∨ E = "java/lang/IllegalStateException")) : Ct G l yL_grow (Cond.codeWith yL_grow cL_grow 5 (some .int) [(0, 10, 13, 22), (0, 10, 17, 13), (0, 10, 21, 45)] :: wsL_law) 8 147 3 18 [.ref x, vI p0, vI p1, .ref o] (w0 ++ [(o, .inl (G.2 2, 1, .inr (.inl (fL g))))]) (fun r w => (∃ (z : Int) (w1 : va_W), Po (some (vI z)) w1 ∧ r = some (vI 0) ∧ w = w1 ++ [(o, .inl (G.2 2, 1, .inr (.inl (fL (up g 0 (iI z).toInt64)))))]) ∨ (∃ (E : String) (w1 : va_W) (k : Int), PX E w1 ∧ ((E = "java/lang/IndexOutOfBoundsException" ∧ k = 1) ∨ (E = "java/lang/IllegalArgumentException" ∧ k = 2) ∨ (E = "java/lang/IllegalStateException" ∧ k = 3)) ∧ r = some (vI k) ∧ w = w1 ++ [(o, .inl (G.2 2, 1, .inr (.inl (fL g))))])) := by
  refine Ct.ofH (own := RL) (cc := cL_grow) (maxL := 5) (ret := (some .int)) (hh := [(0, 10, 13, 22), (0, 10, 17, 13), (0, 10, 21, 45)]) (by decide) rfl rfl (Nat.le_of_ble_eq_true rfl) (fun X C E HT M hG hl => ?_)
  subst hG hl
  refine v_aload_n C dL_grow_0 rfl 3 rfl ?_
  refine v_iconst C dL_grow_1 ?_
  refine v_aload_n C dL_grow_2 rfl 0 rfl ?_
  refine v_iload_n C dL_grow_3 rfl 1 rfl ?_
  refine v_iload_n C dL_grow_4 rfl 2 rfl ?_
  refine v_callVC (na := 2) (wy := (Cond.code yX7_grow cX7_grow 4 (some .int) :: wsL_law)) (wc := w0) (wr := [(o, .inl ((vG X).2 2, 1, .inr (.inl (fL g))))]) C [vI p0, vI p1] [vI 0, .ref o] hM rfl (gwV mw_816 mw_813 mw_814 mw_815 mw_2) rfl (by decide +kernel) 0 hx rfl rfl rfl Sb.rf rfl rfl dL_grow_5 HT (fun E9 w1 hp9 => ?_) (fun r w1 hp => ?_)
  · rcases hE E9 w1 hp9 with rfl | rfl | rfl
    · refine ⟨[], [⟨0, 10, 17, 13⟩, ⟨0, 10, 21, 45⟩], ⟨0, 10, 13, 22⟩, "java/lang/IndexOutOfBoundsException", rfl, (fun z hz => absurd hz List.not_mem_nil), rfl, by decide, (List.mem_cons_of_mem _ mw_431), List.mem_of_getElem? (i := 1) rfl, fun q => ?_⟩
      show V X 3 18 13 [(0, .ref x), (1, vI p0), (2, vI p1), (3, .ref o)] [.ref q] (w1 ++ [(o, .inl ((vG X).2 2, 1, .inr (.inl (fL g))))])
      refine v_astore C M dL_grow_13 (by decide) (L' := [(4, .ref q), (0, .ref x), (1, vI p0), (2, vI p1), (3, .ref o)]) rfl ?_
      refine v_iconst C dL_grow_15 ?_
      exact v_iret C E rfl dL_grow_16 (by decide) (by decide) (Or.inr ⟨_, w1, _, hp9, Or.inl ⟨rfl, rfl⟩, rfl, rfl⟩)
    · refine ⟨[⟨0, 10, 13, 22⟩], [⟨0, 10, 21, 45⟩], ⟨0, 10, 17, 13⟩, "java/lang/IllegalArgumentException", rfl, (fun z hz => (List.mem_cons.mp hz).elim (fun e => by subst e; exact ⟨by decide, "java/lang/IndexOutOfBoundsException", (List.mem_cons_of_mem _ mw_431), List.mem_of_getElem? (i := 0) rfl⟩) (fun hz => absurd hz List.not_mem_nil)), rfl, by decide, (List.mem_cons_of_mem _ mw_157), List.mem_of_getElem? (i := 0) rfl, fun q => ?_⟩
      show V X 3 18 17 [(0, .ref x), (1, vI p0), (2, vI p1), (3, .ref o)] [.ref q] (w1 ++ [(o, .inl ((vG X).2 2, 1, .inr (.inl (fL g))))])
      refine v_astore C M dL_grow_17 (by decide) (L' := [(4, .ref q), (0, .ref x), (1, vI p0), (2, vI p1), (3, .ref o)]) rfl ?_
      refine v_iconst C dL_grow_19 ?_
      exact v_iret C E rfl dL_grow_20 (by decide) (by decide) (Or.inr ⟨_, w1, _, hp9, Or.inr (Or.inl ⟨rfl, rfl⟩), rfl, rfl⟩)
    · refine ⟨[⟨0, 10, 13, 22⟩, ⟨0, 10, 17, 13⟩], [], ⟨0, 10, 21, 45⟩, "java/lang/IllegalStateException", rfl, (fun z hz => (List.mem_cons.mp hz).elim (fun e => by subst e; exact ⟨by decide, "java/lang/IndexOutOfBoundsException", (List.mem_cons_of_mem _ mw_431), List.mem_of_getElem? (i := 5) rfl⟩) (fun hz => (List.mem_cons.mp hz).elim (fun e => by subst e; exact ⟨by decide, "java/lang/IllegalArgumentException", (List.mem_cons_of_mem _ mw_157), List.mem_of_getElem? (i := 4) rfl⟩) (fun hz => absurd hz List.not_mem_nil))), rfl, by decide, (List.mem_cons_of_mem _ mw_746), List.mem_of_getElem? (i := 2) rfl, fun q => ?_⟩
      show V X 3 18 21 [(0, .ref x), (1, vI p0), (2, vI p1), (3, .ref o)] [.ref q] (w1 ++ [(o, .inl ((vG X).2 2, 1, .inr (.inl (fL g))))])
      refine v_astore C M dL_grow_21 (by decide) (L' := [(4, .ref q), (0, .ref x), (1, vI p0), (2, vI p1), (3, .ref o)]) rfl ?_
      refine v_iconst C dL_grow_23 ?_
      exact v_iret C E rfl dL_grow_24 (by decide) (by decide) (Or.inr ⟨_, w1, _, hp9, Or.inr (Or.inr (⟨rfl, rfl⟩)), rfl, rfl⟩)
  · obtain ⟨z, rfl⟩ := hr r w1 hp
    refine V.sb (ws' := [(o, .inl ((vG X).2 2, 1, .inr (.inl (fL g))))] ++ w1) (Sb.bl [1, 0] 2 fl2 fl2 rfl rfl (by decide +kernel)) ?_
    refine v_i2l C dL_grow_8 rfl ?_
    refine v_last C 0 rfl (by decide) (by decide) (by decide) dL_grow_9 (ws' := [(o, .inl ((vG X).2 2, 1, .inr (.inl (fL (up g 0 (iI z).toInt64)))))] ++ w1) rfl ?_
    refine V.sb (ws' := w1 ++ [(o, .inl ((vG X).2 2, 1, .inr (.inl (fL (up g 0 (iI z).toInt64)))))]) (Sb.bl [1, 0] 2 fl2 fl2 rfl rfl (by decide +kernel)) ?_
    show V X 3 18 10 [(0, .ref x), (1, vI p0), (2, vI p1), (3, .ref o)] [] (w1 ++ [(o, .inl ((vG X).2 2, 1, .inr (.inl (fL (up g 0 (iI z).toInt64)))))])
    refine v_goto (tgt := 25) C dL_grow_10 (by decide) ?_
    refine v_iconst C dL_grow_25 ?_
    exact v_iret C E rfl dL_grow_26 (by decide) (by decide) (Or.inl ⟨z, w1, hp, rfl, rfl⟩)
set_option maxHeartbeats 1000000 in
set_option maxRecDepth 100000 in
theorem c_L_lose (G : GG) (l : Launch) (x o : Nat) (p0 : Int) (w0 : va_W) (fs : List Value) (g : Int → Int64) (Po : Option Value → va_W → Prop) (PX : String → va_W → Prop) (hx : w0[0]? = some (x, .inr (7, fs))) (hM : CtX G l yX7_lose (Cond.code yX7_lose cX7_lose 2 (some .int) :: wsL_law) 7 124 2 12 [.ref x, vI p0] w0 Po PX) (hr : ∀ r w, Po r w → ∃ z : Int, r = some (vI z)) (hE : ∀ E w, PX E w → (E = "java/lang/IllegalArgumentException" ∨ E = "java/lang/IllegalStateException")) : Ct G l yL_lose (Cond.codeWith yL_lose cL_lose 4 (some .int) [(0, 9, 12, 13), (0, 9, 15, 45)] :: wsL_law) 8 145 2 12 [.ref x, vI p0, .ref o] (w0 ++ [(o, .inl (G.2 2, 1, .inr (.inl (fL g))))]) (fun r w => (∃ (z : Int) (w1 : va_W), Po (some (vI z)) w1 ∧ r = some (vI 0) ∧ w = w1 ++ [(o, .inl (G.2 2, 1, .inr (.inl (fL (up g 0 (iI z).toInt64)))))]) ∨ (∃ (E : String) (w1 : va_W) (k : Int), PX E w1 ∧ ((E = "java/lang/IllegalArgumentException" ∧ k = 1) ∨ (E = "java/lang/IllegalStateException" ∧ k = 2)) ∧ r = some (vI k) ∧ w = w1 ++ [(o, .inl (G.2 2, 1, .inr (.inl (fL g))))])) := by
  refine Ct.ofH (own := RL) (cc := cL_lose) (maxL := 4) (ret := (some .int)) (hh := [(0, 9, 12, 13), (0, 9, 15, 45)]) (by decide) rfl rfl (Nat.le_of_ble_eq_true rfl) (fun X C E HT M hG hl => ?_)
  subst hG hl
  refine v_aload_n C dL_lose_0 rfl 2 rfl ?_
  refine v_iconst C dL_lose_1 ?_
  refine v_aload_n C dL_lose_2 rfl 0 rfl ?_
  refine v_iload_n C dL_lose_3 rfl 1 rfl ?_
  refine v_callVC (na := 1) (wy := (Cond.code yX7_lose cX7_lose 2 (some .int) :: wsL_law)) (wc := w0) (wr := [(o, .inl ((vG X).2 2, 1, .inr (.inl (fL g))))]) C [vI p0] [vI 0, .ref o] hM rfl (gwV mw_827 mw_824 mw_825 mw_826 mw_2) rfl (by decide +kernel) 0 hx rfl rfl rfl Sb.rf rfl rfl dL_lose_4 HT (fun E9 w1 hp9 => ?_) (fun r w1 hp => ?_)
  · rcases hE E9 w1 hp9 with rfl | rfl
    · refine ⟨[], [⟨0, 9, 15, 45⟩], ⟨0, 9, 12, 13⟩, "java/lang/IllegalArgumentException", rfl, (fun z hz => absurd hz List.not_mem_nil), rfl, by decide, (List.mem_cons_of_mem _ mw_157), List.mem_of_getElem? (i := 0) rfl, fun q => ?_⟩
      show V X 2 12 12 [(0, .ref x), (1, vI p0), (2, .ref o)] [.ref q] (w1 ++ [(o, .inl ((vG X).2 2, 1, .inr (.inl (fL g))))])
      refine v_astore_n C M dL_lose_12 rfl (by decide) (L' := [(3, .ref q), (0, .ref x), (1, vI p0), (2, .ref o)]) rfl ?_
      refine v_iconst C dL_lose_13 ?_
      exact v_iret C E rfl dL_lose_14 (by decide) (by decide) (Or.inr ⟨_, w1, _, hp9, Or.inl ⟨rfl, rfl⟩, rfl, rfl⟩)
    · refine ⟨[⟨0, 9, 12, 13⟩], [], ⟨0, 9, 15, 45⟩, "java/lang/IllegalStateException", rfl, (fun z hz => (List.mem_cons.mp hz).elim (fun e => by subst e; exact ⟨by decide, "java/lang/IllegalArgumentException", (List.mem_cons_of_mem _ mw_157), List.mem_of_getElem? (i := 4) rfl⟩) (fun hz => absurd hz List.not_mem_nil)), rfl, by decide, (List.mem_cons_of_mem _ mw_746), List.mem_of_getElem? (i := 2) rfl, fun q => ?_⟩
      show V X 2 12 15 [(0, .ref x), (1, vI p0), (2, .ref o)] [.ref q] (w1 ++ [(o, .inl ((vG X).2 2, 1, .inr (.inl (fL g))))])
      refine v_astore_n C M dL_lose_15 rfl (by decide) (L' := [(3, .ref q), (0, .ref x), (1, vI p0), (2, .ref o)]) rfl ?_
      refine v_iconst C dL_lose_16 ?_
      exact v_iret C E rfl dL_lose_17 (by decide) (by decide) (Or.inr ⟨_, w1, _, hp9, Or.inr (⟨rfl, rfl⟩), rfl, rfl⟩)
  · obtain ⟨z, rfl⟩ := hr r w1 hp
    refine V.sb (ws' := [(o, .inl ((vG X).2 2, 1, .inr (.inl (fL g))))] ++ w1) (Sb.bl [1, 0] 2 fl2 fl2 rfl rfl (by decide +kernel)) ?_
    refine v_i2l C dL_lose_7 rfl ?_
    refine v_last C 0 rfl (by decide) (by decide) (by decide) dL_lose_8 (ws' := [(o, .inl ((vG X).2 2, 1, .inr (.inl (fL (up g 0 (iI z).toInt64)))))] ++ w1) rfl ?_
    refine V.sb (ws' := w1 ++ [(o, .inl ((vG X).2 2, 1, .inr (.inl (fL (up g 0 (iI z).toInt64)))))]) (Sb.bl [1, 0] 2 fl2 fl2 rfl rfl (by decide +kernel)) ?_
    show V X 2 12 9 [(0, .ref x), (1, vI p0), (2, .ref o)] [] (w1 ++ [(o, .inl ((vG X).2 2, 1, .inr (.inl (fL (up g 0 (iI z).toInt64)))))])
    refine v_goto (tgt := 18) C dL_lose_9 (by decide) ?_
    refine v_iconst C dL_lose_18 ?_
    exact v_iret C E rfl dL_lose_19 (by decide) (by decide) (Or.inl ⟨z, w1, hp, rfl, rfl⟩)
set_option maxHeartbeats 1000000 in
set_option maxRecDepth 100000 in
theorem c_L_set (G : GG) (l : Launch) (x o : Nat) (p0 : Int) (p1 : Int) (w0 : va_W) (fs : List Value) (g : Int → Int64) (Po : Option Value → va_W → Prop) (PX : String → va_W → Prop) (hx : w0[0]? = some (x, .inr (7, fs))) (hM : CtX G l yX7_set (Cond.code yX7_set cX7_set 4 (some .int) :: wsL_law) 6 124 1 6 [.ref x, vI p0, vI p1] w0 Po PX) (hr : ∀ r w, Po r w → ∃ z : Int, r = some (vI z)) (hE : ∀ E w, PX E w → (E = "java/lang/IllegalArgumentException")) : Ct G l yL_set (Cond.codeWith yL_set cL_set 5 (some .int) [(0, 10, 13, 13)] :: wsL_law) 7 147 1 6 [.ref x, vI p0, vI p1, .ref o] (w0 ++ [(o, .inl (G.2 2, 1, .inr (.inl (fL g))))]) (fun r w => (∃ (z : Int) (w1 : va_W), Po (some (vI z)) w1 ∧ r = some (vI 0) ∧ w = w1 ++ [(o, .inl (G.2 2, 1, .inr (.inl (fL (up g 0 (iI z).toInt64)))))]) ∨ (∃ (E : String) (w1 : va_W) (k : Int), PX E w1 ∧ ((E = "java/lang/IllegalArgumentException" ∧ k = 1)) ∧ r = some (vI k) ∧ w = w1 ++ [(o, .inl (G.2 2, 1, .inr (.inl (fL g))))])) := by
  refine Ct.ofH (own := RL) (cc := cL_set) (maxL := 5) (ret := (some .int)) (hh := [(0, 10, 13, 13)]) (by decide) rfl rfl (Nat.le_of_ble_eq_true rfl) (fun X C E HT M hG hl => ?_)
  subst hG hl
  refine v_aload_n C dL_set_0 rfl 3 rfl ?_
  refine v_iconst C dL_set_1 ?_
  refine v_aload_n C dL_set_2 rfl 0 rfl ?_
  refine v_iload_n C dL_set_3 rfl 1 rfl ?_
  refine v_iload_n C dL_set_4 rfl 2 rfl ?_
  refine v_callVC (na := 2) (wy := (Cond.code yX7_set cX7_set 4 (some .int) :: wsL_law)) (wc := w0) (wr := [(o, .inl ((vG X).2 2, 1, .inr (.inl (fL g))))]) C [vI p0, vI p1] [vI 0, .ref o] hM rfl (gwV mw_839 mw_836 mw_837 mw_838 mw_2) rfl (by decide +kernel) 0 hx rfl rfl rfl Sb.rf rfl rfl dL_set_5 HT (fun E9 w1 hp9 => ?_) (fun r w1 hp => ?_)
  · rcases hE E9 w1 hp9 with rfl
    · refine ⟨[], [], ⟨0, 10, 13, 13⟩, "java/lang/IllegalArgumentException", rfl, (fun z hz => absurd hz List.not_mem_nil), rfl, by decide, (List.mem_cons_of_mem _ mw_157), List.mem_of_getElem? (i := 0) rfl, fun q => ?_⟩
      show V X 1 6 13 [(0, .ref x), (1, vI p0), (2, vI p1), (3, .ref o)] [.ref q] (w1 ++ [(o, .inl ((vG X).2 2, 1, .inr (.inl (fL g))))])
      refine v_astore C M dL_set_13 (by decide) (L' := [(4, .ref q), (0, .ref x), (1, vI p0), (2, vI p1), (3, .ref o)]) rfl ?_
      refine v_iconst C dL_set_15 ?_
      exact v_iret C E rfl dL_set_16 (by decide) (by decide) (Or.inr ⟨_, w1, _, hp9, ⟨rfl, rfl⟩, rfl, rfl⟩)
  · obtain ⟨z, rfl⟩ := hr r w1 hp
    refine V.sb (ws' := [(o, .inl ((vG X).2 2, 1, .inr (.inl (fL g))))] ++ w1) (Sb.bl [1, 0] 2 fl2 fl2 rfl rfl (by decide +kernel)) ?_
    refine v_i2l C dL_set_8 rfl ?_
    refine v_last C 0 rfl (by decide) (by decide) (by decide) dL_set_9 (ws' := [(o, .inl ((vG X).2 2, 1, .inr (.inl (fL (up g 0 (iI z).toInt64)))))] ++ w1) rfl ?_
    refine V.sb (ws' := w1 ++ [(o, .inl ((vG X).2 2, 1, .inr (.inl (fL (up g 0 (iI z).toInt64)))))]) (Sb.bl [1, 0] 2 fl2 fl2 rfl rfl (by decide +kernel)) ?_
    show V X 1 6 10 [(0, .ref x), (1, vI p0), (2, vI p1), (3, .ref o)] [] (w1 ++ [(o, .inl ((vG X).2 2, 1, .inr (.inl (fL (up g 0 (iI z).toInt64)))))])
    refine v_goto (tgt := 17) C dL_set_10 (by decide) ?_
    refine v_iconst C dL_set_17 ?_
    exact v_iret C E rfl dL_set_18 (by decide) (by decide) (Or.inl ⟨z, w1, hp, rfl, rfl⟩)
set_option maxHeartbeats 1000000 in
set_option maxRecDepth 100000 in
theorem c_L_run (G : GG) (l : Launch) (x o : Nat) (p0 : Int) (w0 : va_W) (fs : List Value) (g : Int → Int64) (Po : Option Value → va_W → Prop) (PX : String → va_W → Prop) (hx : w0[0]? = some (x, .inr (7, fs))) (hM : CtX G l yX7_run (Cond.code yX7_run cX7_run 3 (some .int) :: wsL_law) 7 128 2 12 [.ref x, vI p0] w0 Po PX) (hr : ∀ r w, Po r w → ∃ z : Int, r = some (vI z)) (hE : ∀ E w, PX E w → (E = "java/lang/IllegalArgumentException" ∨ E = "java/lang/IllegalStateException")) : Ct G l yL_run (Cond.codeWith yL_run cL_run 4 (some .int) [(0, 9, 12, 13), (0, 9, 15, 45)] :: wsL_law) 8 150 2 12 [.ref x, vI p0, .ref o] (w0 ++ [(o, .inl (G.2 2, 1, .inr (.inl (fL g))))]) (fun r w => (∃ (z : Int) (w1 : va_W), Po (some (vI z)) w1 ∧ r = some (vI 0) ∧ w = w1 ++ [(o, .inl (G.2 2, 1, .inr (.inl (fL (up g 0 (iI z).toInt64)))))]) ∨ (∃ (E : String) (w1 : va_W) (k : Int), PX E w1 ∧ ((E = "java/lang/IllegalArgumentException" ∧ k = 1) ∨ (E = "java/lang/IllegalStateException" ∧ k = 2)) ∧ r = some (vI k) ∧ w = w1 ++ [(o, .inl (G.2 2, 1, .inr (.inl (fL g))))])) := by
  refine Ct.ofH (own := RL) (cc := cL_run) (maxL := 4) (ret := (some .int)) (hh := [(0, 9, 12, 13), (0, 9, 15, 45)]) (by decide) rfl rfl (Nat.le_of_ble_eq_true rfl) (fun X C E HT M hG hl => ?_)
  subst hG hl
  refine v_aload_n C dL_run_0 rfl 2 rfl ?_
  refine v_iconst C dL_run_1 ?_
  refine v_aload_n C dL_run_2 rfl 0 rfl ?_
  refine v_iload_n C dL_run_3 rfl 1 rfl ?_
  refine v_callVC (na := 1) (wy := (Cond.code yX7_run cX7_run 3 (some .int) :: wsL_law)) (wc := w0) (wr := [(o, .inl ((vG X).2 2, 1, .inr (.inl (fL g))))]) C [vI p0] [vI 0, .ref o] hM rfl (gwV mw_850 mw_847 mw_848 mw_849 mw_2) rfl (by decide +kernel) 0 hx rfl rfl rfl Sb.rf rfl rfl dL_run_4 HT (fun E9 w1 hp9 => ?_) (fun r w1 hp => ?_)
  · rcases hE E9 w1 hp9 with rfl | rfl
    · refine ⟨[], [⟨0, 9, 15, 45⟩], ⟨0, 9, 12, 13⟩, "java/lang/IllegalArgumentException", rfl, (fun z hz => absurd hz List.not_mem_nil), rfl, by decide, (List.mem_cons_of_mem _ mw_157), List.mem_of_getElem? (i := 0) rfl, fun q => ?_⟩
      show V X 2 12 12 [(0, .ref x), (1, vI p0), (2, .ref o)] [.ref q] (w1 ++ [(o, .inl ((vG X).2 2, 1, .inr (.inl (fL g))))])
      refine v_astore_n C M dL_run_12 rfl (by decide) (L' := [(3, .ref q), (0, .ref x), (1, vI p0), (2, .ref o)]) rfl ?_
      refine v_iconst C dL_run_13 ?_
      exact v_iret C E rfl dL_run_14 (by decide) (by decide) (Or.inr ⟨_, w1, _, hp9, Or.inl ⟨rfl, rfl⟩, rfl, rfl⟩)
    · refine ⟨[⟨0, 9, 12, 13⟩], [], ⟨0, 9, 15, 45⟩, "java/lang/IllegalStateException", rfl, (fun z hz => (List.mem_cons.mp hz).elim (fun e => by subst e; exact ⟨by decide, "java/lang/IllegalArgumentException", (List.mem_cons_of_mem _ mw_157), List.mem_of_getElem? (i := 4) rfl⟩) (fun hz => absurd hz List.not_mem_nil)), rfl, by decide, (List.mem_cons_of_mem _ mw_746), List.mem_of_getElem? (i := 2) rfl, fun q => ?_⟩
      show V X 2 12 15 [(0, .ref x), (1, vI p0), (2, .ref o)] [.ref q] (w1 ++ [(o, .inl ((vG X).2 2, 1, .inr (.inl (fL g))))])
      refine v_astore_n C M dL_run_15 rfl (by decide) (L' := [(3, .ref q), (0, .ref x), (1, vI p0), (2, .ref o)]) rfl ?_
      refine v_iconst C dL_run_16 ?_
      exact v_iret C E rfl dL_run_17 (by decide) (by decide) (Or.inr ⟨_, w1, _, hp9, Or.inr (⟨rfl, rfl⟩), rfl, rfl⟩)
  · obtain ⟨z, rfl⟩ := hr r w1 hp
    refine V.sb (ws' := [(o, .inl ((vG X).2 2, 1, .inr (.inl (fL g))))] ++ w1) (Sb.bl [1, 0] 2 fl2 fl2 rfl rfl (by decide +kernel)) ?_
    refine v_i2l C dL_run_7 rfl ?_
    refine v_last C 0 rfl (by decide) (by decide) (by decide) dL_run_8 (ws' := [(o, .inl ((vG X).2 2, 1, .inr (.inl (fL (up g 0 (iI z).toInt64)))))] ++ w1) rfl ?_
    refine V.sb (ws' := w1 ++ [(o, .inl ((vG X).2 2, 1, .inr (.inl (fL (up g 0 (iI z).toInt64)))))]) (Sb.bl [1, 0] 2 fl2 fl2 rfl rfl (by decide +kernel)) ?_
    show V X 2 12 9 [(0, .ref x), (1, vI p0), (2, .ref o)] [] (w1 ++ [(o, .inl ((vG X).2 2, 1, .inr (.inl (fL (up g 0 (iI z).toInt64)))))])
    refine v_goto (tgt := 18) C dL_run_9 (by decide) ?_
    refine v_iconst C dL_run_18 ?_
    exact v_iret C E rfl dL_run_19 (by decide) (by decide) (Or.inl ⟨z, w1, hp, rfl, rfl⟩)
end L1
