section ExtL
theorem an_l {a b : Jvm.Cond} {args : Array Value} {s : State} (h : (Jvm.Cond.and a b).before args s = true) : a.before args s = true := by
  rw [Cond.before_and, Bool.and_eq_true] at h
  exact h.1
theorem an_r {a b : Jvm.Cond} {args : Array Value} {s : State} (h : (Jvm.Cond.and a b).before args s = true) : b.before args s = true := by
  rw [Cond.before_and, Bool.and_eq_true] at h
  exact h.2
theorem so_one {args : Array Value} {s : State} {tm : Term} {b : List Int32} {A : Nat → Prop} (hN : b.length < 2 ^ 31) (hex : (Cond.exactly tm "java/lang/String").before args s = true) (hco : (Cond.eq (.field tm "java/lang/String" "coder" "B") (.int 0)).before args s = true) (har : (Cond.arrayOf (.field tm "java/lang/String" "value" "[B") .byte).before args s = true) (hle : (Cond.eq (.length (.field tm "java/lang/String" "value" "[B")) (.int (Int32.ofNat b.length))).before args s = true) (hel : ∀ j : Nat, j < b.length → (Cond.eq (.elem (.field tm "java/lang/String" "value" "[B") (.int (Int32.ofNat j))) (.int (b.getD j 0))).before args s = true) (hA : ∀ a : Nat, a < s.heap.size → ¬ A a) : ∃ a v : Nat, tm.eval args s none [] s = some (.ref a) ∧ strO a v b A s := by
  obtain ⟨a, c, cA, kA, q1, q2, q3, q4, q5, q6, -⟩ := Cond.exactly_spec (args := args) (first := s) (o := none) (s := s) (idx := []) (t := tm) (cls := "java/lang/String") hex
  obtain ⟨t, ht, hT⟩ := va_Tof (f := fun j => .int (b.getD j 0)) (A := A) hN har (va_eqt hle) (fun j hj => va_eqt (hel j hj)) hA
  exact ⟨a, t, q1, ⟨cA, q3, q5, by rw [q6]; exact q2, hA a (Array.getElem?_eq_some_iff.mp q3).1⟩, vk_OFof q1 (va_eqt hco) hA, vk_OFof q1 ht hA, hT⟩
theorem so_ref {args : Array Value} {s : State} {tm : Term} (hex : (Cond.exactly tm "java/lang/String").before args s = true) : ∃ a : Nat, tm.eval args s none [] s = some (.ref a) := by
  obtain ⟨a, c, cA, kA, q1, -⟩ := Cond.exactly_spec (args := args) (first := s) (o := none) (s := s) (idx := []) (t := tm) (cls := "java/lang/String") hex
  exact ⟨a, q1⟩
theorem ak_of {s : State} {args : Array Value} {ty : FieldType} (hty : ∀ C, ty ≠ .object C) (h : (Cond.arrayClass ty).before args s = true) : ∃ c : ClassId, ArrOfT s c ty ∧ va_RA s c ty := by
  obtain ⟨c, k, comp, h1, h2, h3⟩ := Cond.arrayClass_spec (args := args) (first := s) (o := none) (s := s) (idx := []) h
  refine ⟨c, fun n z => ⟨fun k h => (by cases h), k, h2, comp, h3⟩, ?_⟩
  cases ty with
  | object C => exact absurd rfl (hty C)
  | _ => exact h1
theorem ak_obj {s : State} {C : String} (h : va_AO C s) : ∃ c : ClassId, ArrOfT s c (.object C) ∧ va_RA s c (.object C) := by
  obtain ⟨comp, c, k, h1, h2, h3, h4, h5⟩ := Cond.arrayOver_spec h
  exact ⟨c, fun n z => ⟨fun k h => (by cases h), k, h3, comp, h4⟩, k, comp, h3, h4, h1, h5⟩
set_option maxRecDepth 20000 in
theorem nr_0 {args : Array Value} {s : State} (h : (Jvm.Cond.and given_1 narrow_1).before args s = true) : Cond.before (Jvm.Cond.exactly (Jvm.Term.string "TurnLine$TextReader" (38 : Nat)) "java/lang/String") args s = true := (an_l (an_r (an_r (an_l (an_r (an_r (an_l (an_l (an_l (an_r h))))))))))
set_option maxRecDepth 20000 in
theorem nr_1 {args : Array Value} {s : State} (h : (Jvm.Cond.and given_1 narrow_1).before args s = true) : Cond.before (Jvm.Cond.eq (Jvm.Term.field (Jvm.Term.string "TurnLine$TextReader" (38 : Nat)) "java/lang/String" "coder" "B") (Jvm.Term.int (0 : Int32))) args s = true := (an_l (an_r (an_r (an_r (an_l (an_r (an_r (an_l (an_l (an_l (an_r h)))))))))))
set_option maxRecDepth 20000 in
theorem nr_2 {args : Array Value} {s : State} (h : (Jvm.Cond.and given_1 narrow_1).before args s = true) : Cond.before (Jvm.Cond.arrayOf (Jvm.Term.field (Jvm.Term.string "TurnLine$TextReader" (38 : Nat)) "java/lang/String" "value" "[B") Jvm.ClassFile.FieldType.byte) args s = true := (an_r (an_r (an_r (an_r (an_l (an_r (an_r (an_l (an_l (an_l (an_r h)))))))))))
set_option maxRecDepth 20000 in
theorem nr_3 {args : Array Value} {s : State} (h : (Jvm.Cond.and given_1 narrow_1).before args s = true) : Cond.before (Jvm.Cond.eq (Jvm.Term.length (Jvm.Term.field (Jvm.Term.string "TurnLine$TextReader" (38 : Nat)) "java/lang/String" "value" "[B")) (Jvm.Term.int (4 : Int32))) args s = true := (an_l (an_l (an_l (an_r (an_r (an_r (an_l (an_l (an_l (an_r h))))))))))
set_option maxRecDepth 20000 in
theorem nr_4 {args : Array Value} {s : State} (h : (Jvm.Cond.and given_1 narrow_1).before args s = true) : Cond.before (Jvm.Cond.eq (Jvm.Term.elem (Jvm.Term.field (Jvm.Term.string "TurnLine$TextReader" (38 : Nat)) "java/lang/String" "value" "[B") (Jvm.Term.int (0 : Int32))) (Jvm.Term.int (108 : Int32))) args s = true := (an_r (an_l (an_l (an_r (an_r (an_r (an_l (an_l (an_l (an_r h))))))))))
set_option maxRecDepth 20000 in
theorem nr_5 {args : Array Value} {s : State} (h : (Jvm.Cond.and given_1 narrow_1).before args s = true) : Cond.before (Jvm.Cond.eq (Jvm.Term.elem (Jvm.Term.field (Jvm.Term.string "TurnLine$TextReader" (38 : Nat)) "java/lang/String" "value" "[B") (Jvm.Term.int (1 : Int32))) (Jvm.Term.int (105 : Int32))) args s = true := (an_l (an_r (an_l (an_r (an_r (an_r (an_l (an_l (an_l (an_r h))))))))))
set_option maxRecDepth 20000 in
theorem nr_6 {args : Array Value} {s : State} (h : (Jvm.Cond.and given_1 narrow_1).before args s = true) : Cond.before (Jvm.Cond.eq (Jvm.Term.elem (Jvm.Term.field (Jvm.Term.string "TurnLine$TextReader" (38 : Nat)) "java/lang/String" "value" "[B") (Jvm.Term.int (2 : Int32))) (Jvm.Term.int (110 : Int32))) args s = true := (an_r (an_r (an_l (an_r (an_r (an_r (an_l (an_l (an_l (an_r h))))))))))
set_option maxRecDepth 20000 in
theorem nr_7 {args : Array Value} {s : State} (h : (Jvm.Cond.and given_1 narrow_1).before args s = true) : Cond.before (Jvm.Cond.eq (Jvm.Term.elem (Jvm.Term.field (Jvm.Term.string "TurnLine$TextReader" (38 : Nat)) "java/lang/String" "value" "[B") (Jvm.Term.int (3 : Int32))) (Jvm.Term.int (101 : Int32))) args s = true := (an_l (an_l (an_r (an_r (an_r (an_r (an_l (an_l (an_l (an_r h))))))))))
set_option maxRecDepth 20000 in
theorem nr_8 {args : Array Value} {s : State} (h : (Jvm.Cond.and given_1 narrow_1).before args s = true) : Cond.before (Jvm.Cond.exactly (Jvm.Term.string "TurnLine$TextReader" (81 : Nat)) "java/lang/String") args s = true := (an_r (an_l (an_r (an_r (an_r (an_r (an_l (an_l (an_l (an_r h))))))))))
set_option maxRecDepth 20000 in
theorem nr_9 {args : Array Value} {s : State} (h : (Jvm.Cond.and given_1 narrow_1).before args s = true) : Cond.before (Jvm.Cond.eq (Jvm.Term.field (Jvm.Term.string "TurnLine$TextReader" (81 : Nat)) "java/lang/String" "coder" "B") (Jvm.Term.int (0 : Int32))) args s = true := (an_l (an_r (an_r (an_r (an_r (an_r (an_l (an_l (an_l (an_r h))))))))))
set_option maxRecDepth 20000 in
theorem nr_10 {args : Array Value} {s : State} (h : (Jvm.Cond.and given_1 narrow_1).before args s = true) : Cond.before (Jvm.Cond.arrayOf (Jvm.Term.field (Jvm.Term.string "TurnLine$TextReader" (81 : Nat)) "java/lang/String" "value" "[B") Jvm.ClassFile.FieldType.byte) args s = true := (an_l (an_r (an_r (an_r (an_r (an_r (an_r (an_l (an_l (an_l (an_r h)))))))))))
set_option maxRecDepth 20000 in
theorem nr_11 {args : Array Value} {s : State} (h : (Jvm.Cond.and given_1 narrow_1).before args s = true) : Cond.before (Jvm.Cond.eq (Jvm.Term.length (Jvm.Term.field (Jvm.Term.string "TurnLine$TextReader" (81 : Nat)) "java/lang/String" "value" "[B")) (Jvm.Term.int (6 : Int32))) args s = true := (an_r (an_r (an_r (an_r (an_r (an_r (an_r (an_l (an_l (an_l (an_r h)))))))))))
set_option maxRecDepth 20000 in
theorem nr_12 {args : Array Value} {s : State} (h : (Jvm.Cond.and given_1 narrow_1).before args s = true) : Cond.before (Jvm.Cond.eq (Jvm.Term.elem (Jvm.Term.field (Jvm.Term.string "TurnLine$TextReader" (81 : Nat)) "java/lang/String" "value" "[B") (Jvm.Term.int (0 : Int32))) (Jvm.Term.int (119 : Int32))) args s = true := (an_l (an_l (an_l (an_l (an_l (an_l (an_r (an_l (an_l (an_r h))))))))))
set_option maxRecDepth 20000 in
theorem nr_13 {args : Array Value} {s : State} (h : (Jvm.Cond.and given_1 narrow_1).before args s = true) : Cond.before (Jvm.Cond.eq (Jvm.Term.elem (Jvm.Term.field (Jvm.Term.string "TurnLine$TextReader" (81 : Nat)) "java/lang/String" "value" "[B") (Jvm.Term.int (1 : Int32))) (Jvm.Term.int (105 : Int32))) args s = true := (an_r (an_l (an_l (an_l (an_l (an_l (an_r (an_l (an_l (an_r h))))))))))
set_option maxRecDepth 20000 in
theorem nr_14 {args : Array Value} {s : State} (h : (Jvm.Cond.and given_1 narrow_1).before args s = true) : Cond.before (Jvm.Cond.eq (Jvm.Term.elem (Jvm.Term.field (Jvm.Term.string "TurnLine$TextReader" (81 : Nat)) "java/lang/String" "value" "[B") (Jvm.Term.int (2 : Int32))) (Jvm.Term.int (110 : Int32))) args s = true := (an_l (an_r (an_l (an_l (an_l (an_l (an_r (an_l (an_l (an_r h))))))))))
set_option maxRecDepth 20000 in
theorem nr_15 {args : Array Value} {s : State} (h : (Jvm.Cond.and given_1 narrow_1).before args s = true) : Cond.before (Jvm.Cond.eq (Jvm.Term.elem (Jvm.Term.field (Jvm.Term.string "TurnLine$TextReader" (81 : Nat)) "java/lang/String" "value" "[B") (Jvm.Term.int (3 : Int32))) (Jvm.Term.int (100 : Int32))) args s = true := (an_r (an_r (an_l (an_l (an_l (an_l (an_r (an_l (an_l (an_r h))))))))))
set_option maxRecDepth 20000 in
theorem nr_16 {args : Array Value} {s : State} (h : (Jvm.Cond.and given_1 narrow_1).before args s = true) : Cond.before (Jvm.Cond.eq (Jvm.Term.elem (Jvm.Term.field (Jvm.Term.string "TurnLine$TextReader" (81 : Nat)) "java/lang/String" "value" "[B") (Jvm.Term.int (4 : Int32))) (Jvm.Term.int (111 : Int32))) args s = true := (an_l (an_l (an_r (an_l (an_l (an_l (an_r (an_l (an_l (an_r h))))))))))
set_option maxRecDepth 20000 in
theorem nr_17 {args : Array Value} {s : State} (h : (Jvm.Cond.and given_1 narrow_1).before args s = true) : Cond.before (Jvm.Cond.eq (Jvm.Term.elem (Jvm.Term.field (Jvm.Term.string "TurnLine$TextReader" (81 : Nat)) "java/lang/String" "value" "[B") (Jvm.Term.int (5 : Int32))) (Jvm.Term.int (119 : Int32))) args s = true := (an_r (an_l (an_r (an_l (an_l (an_l (an_r (an_l (an_l (an_r h))))))))))
set_option maxRecDepth 20000 in
theorem nr_18 {args : Array Value} {s : State} (h : (Jvm.Cond.and given_1 narrow_1).before args s = true) : Cond.before (Jvm.Cond.exactly (Jvm.Term.string "TurnLine$TextReader" (90 : Nat)) "java/lang/String") args s = true := (an_l (an_r (an_r (an_l (an_l (an_l (an_r (an_l (an_l (an_r h))))))))))
set_option maxRecDepth 20000 in
theorem nr_19 {args : Array Value} {s : State} (h : (Jvm.Cond.and given_1 narrow_1).before args s = true) : Cond.before (Jvm.Cond.eq (Jvm.Term.field (Jvm.Term.string "TurnLine$TextReader" (90 : Nat)) "java/lang/String" "coder" "B") (Jvm.Term.int (0 : Int32))) args s = true := (an_l (an_r (an_r (an_r (an_l (an_l (an_l (an_r (an_l (an_l (an_r h)))))))))))
set_option maxRecDepth 20000 in
theorem nr_20 {args : Array Value} {s : State} (h : (Jvm.Cond.and given_1 narrow_1).before args s = true) : Cond.before (Jvm.Cond.arrayOf (Jvm.Term.field (Jvm.Term.string "TurnLine$TextReader" (90 : Nat)) "java/lang/String" "value" "[B") Jvm.ClassFile.FieldType.byte) args s = true := (an_r (an_r (an_r (an_r (an_l (an_l (an_l (an_r (an_l (an_l (an_r h)))))))))))
set_option maxRecDepth 20000 in
theorem nr_21 {args : Array Value} {s : State} (h : (Jvm.Cond.and given_1 narrow_1).before args s = true) : Cond.before (Jvm.Cond.eq (Jvm.Term.length (Jvm.Term.field (Jvm.Term.string "TurnLine$TextReader" (90 : Nat)) "java/lang/String" "value" "[B")) (Jvm.Term.int (7 : Int32))) args s = true := (an_l (an_l (an_l (an_r (an_l (an_l (an_r (an_l (an_l (an_r h))))))))))
set_option maxRecDepth 20000 in
theorem nr_22 {args : Array Value} {s : State} (h : (Jvm.Cond.and given_1 narrow_1).before args s = true) : Cond.before (Jvm.Cond.eq (Jvm.Term.elem (Jvm.Term.field (Jvm.Term.string "TurnLine$TextReader" (90 : Nat)) "java/lang/String" "value" "[B") (Jvm.Term.int (0 : Int32))) (Jvm.Term.int (109 : Int32))) args s = true := (an_r (an_l (an_l (an_r (an_l (an_l (an_r (an_l (an_l (an_r h))))))))))
set_option maxRecDepth 20000 in
theorem nr_23 {args : Array Value} {s : State} (h : (Jvm.Cond.and given_1 narrow_1).before args s = true) : Cond.before (Jvm.Cond.eq (Jvm.Term.elem (Jvm.Term.field (Jvm.Term.string "TurnLine$TextReader" (90 : Nat)) "java/lang/String" "value" "[B") (Jvm.Term.int (1 : Int32))) (Jvm.Term.int (101 : Int32))) args s = true := (an_l (an_r (an_l (an_r (an_l (an_l (an_r (an_l (an_l (an_r h))))))))))
set_option maxRecDepth 20000 in
theorem nr_24 {args : Array Value} {s : State} (h : (Jvm.Cond.and given_1 narrow_1).before args s = true) : Cond.before (Jvm.Cond.eq (Jvm.Term.elem (Jvm.Term.field (Jvm.Term.string "TurnLine$TextReader" (90 : Nat)) "java/lang/String" "value" "[B") (Jvm.Term.int (2 : Int32))) (Jvm.Term.int (115 : Int32))) args s = true := (an_r (an_r (an_l (an_r (an_l (an_l (an_r (an_l (an_l (an_r h))))))))))
set_option maxRecDepth 20000 in
theorem nr_25 {args : Array Value} {s : State} (h : (Jvm.Cond.and given_1 narrow_1).before args s = true) : Cond.before (Jvm.Cond.eq (Jvm.Term.elem (Jvm.Term.field (Jvm.Term.string "TurnLine$TextReader" (90 : Nat)) "java/lang/String" "value" "[B") (Jvm.Term.int (3 : Int32))) (Jvm.Term.int (115 : Int32))) args s = true := (an_l (an_l (an_r (an_r (an_l (an_l (an_r (an_l (an_l (an_r h))))))))))
set_option maxRecDepth 20000 in
theorem nr_26 {args : Array Value} {s : State} (h : (Jvm.Cond.and given_1 narrow_1).before args s = true) : Cond.before (Jvm.Cond.eq (Jvm.Term.elem (Jvm.Term.field (Jvm.Term.string "TurnLine$TextReader" (90 : Nat)) "java/lang/String" "value" "[B") (Jvm.Term.int (4 : Int32))) (Jvm.Term.int (97 : Int32))) args s = true := (an_r (an_l (an_r (an_r (an_l (an_l (an_r (an_l (an_l (an_r h))))))))))
set_option maxRecDepth 20000 in
theorem nr_27 {args : Array Value} {s : State} (h : (Jvm.Cond.and given_1 narrow_1).before args s = true) : Cond.before (Jvm.Cond.eq (Jvm.Term.elem (Jvm.Term.field (Jvm.Term.string "TurnLine$TextReader" (90 : Nat)) "java/lang/String" "value" "[B") (Jvm.Term.int (5 : Int32))) (Jvm.Term.int (103 : Int32))) args s = true := (an_l (an_r (an_r (an_r (an_l (an_l (an_r (an_l (an_l (an_r h))))))))))
set_option maxRecDepth 20000 in
theorem nr_28 {args : Array Value} {s : State} (h : (Jvm.Cond.and given_1 narrow_1).before args s = true) : Cond.before (Jvm.Cond.eq (Jvm.Term.elem (Jvm.Term.field (Jvm.Term.string "TurnLine$TextReader" (90 : Nat)) "java/lang/String" "value" "[B") (Jvm.Term.int (6 : Int32))) (Jvm.Term.int (101 : Int32))) args s = true := (an_l (an_r (an_r (an_r (an_r (an_l (an_l (an_r (an_l (an_l (an_r h)))))))))))
set_option maxRecDepth 20000 in
theorem nr_29 {args : Array Value} {s : State} (h : (Jvm.Cond.and given_1 narrow_1).before args s = true) : Cond.before (Jvm.Cond.exactly (Jvm.Term.string "TurnLine$TextReader" (95 : Nat)) "java/lang/String") args s = true := (an_r (an_r (an_r (an_r (an_r (an_l (an_l (an_r (an_l (an_l (an_r h)))))))))))
set_option maxRecDepth 20000 in
theorem nr_30 {args : Array Value} {s : State} (h : (Jvm.Cond.and given_1 narrow_1).before args s = true) : Cond.before (Jvm.Cond.eq (Jvm.Term.field (Jvm.Term.string "TurnLine$TextReader" (95 : Nat)) "java/lang/String" "coder" "B") (Jvm.Term.int (0 : Int32))) args s = true := (an_l (an_l (an_l (an_l (an_r (an_l (an_r (an_l (an_l (an_r h))))))))))
set_option maxRecDepth 20000 in
theorem nr_31 {args : Array Value} {s : State} (h : (Jvm.Cond.and given_1 narrow_1).before args s = true) : Cond.before (Jvm.Cond.arrayOf (Jvm.Term.field (Jvm.Term.string "TurnLine$TextReader" (95 : Nat)) "java/lang/String" "value" "[B") Jvm.ClassFile.FieldType.byte) args s = true := (an_r (an_l (an_l (an_l (an_r (an_l (an_r (an_l (an_l (an_r h))))))))))
set_option maxRecDepth 20000 in
theorem nr_32 {args : Array Value} {s : State} (h : (Jvm.Cond.and given_1 narrow_1).before args s = true) : Cond.before (Jvm.Cond.eq (Jvm.Term.length (Jvm.Term.field (Jvm.Term.string "TurnLine$TextReader" (95 : Nat)) "java/lang/String" "value" "[B")) (Jvm.Term.int (4 : Int32))) args s = true := (an_l (an_r (an_l (an_l (an_r (an_l (an_r (an_l (an_l (an_r h))))))))))
set_option maxRecDepth 20000 in
theorem nr_33 {args : Array Value} {s : State} (h : (Jvm.Cond.and given_1 narrow_1).before args s = true) : Cond.before (Jvm.Cond.eq (Jvm.Term.elem (Jvm.Term.field (Jvm.Term.string "TurnLine$TextReader" (95 : Nat)) "java/lang/String" "value" "[B") (Jvm.Term.int (0 : Int32))) (Jvm.Term.int (108 : Int32))) args s = true := (an_r (an_r (an_l (an_l (an_r (an_l (an_r (an_l (an_l (an_r h))))))))))
set_option maxRecDepth 20000 in
theorem nr_34 {args : Array Value} {s : State} (h : (Jvm.Cond.and given_1 narrow_1).before args s = true) : Cond.before (Jvm.Cond.eq (Jvm.Term.elem (Jvm.Term.field (Jvm.Term.string "TurnLine$TextReader" (95 : Nat)) "java/lang/String" "value" "[B") (Jvm.Term.int (1 : Int32))) (Jvm.Term.int (111 : Int32))) args s = true := (an_l (an_l (an_r (an_l (an_r (an_l (an_r (an_l (an_l (an_r h))))))))))
set_option maxRecDepth 20000 in
theorem nr_35 {args : Array Value} {s : State} (h : (Jvm.Cond.and given_1 narrow_1).before args s = true) : Cond.before (Jvm.Cond.eq (Jvm.Term.elem (Jvm.Term.field (Jvm.Term.string "TurnLine$TextReader" (95 : Nat)) "java/lang/String" "value" "[B") (Jvm.Term.int (2 : Int32))) (Jvm.Term.int (115 : Int32))) args s = true := (an_r (an_l (an_r (an_l (an_r (an_l (an_r (an_l (an_l (an_r h))))))))))
set_option maxRecDepth 20000 in
theorem nr_36 {args : Array Value} {s : State} (h : (Jvm.Cond.and given_1 narrow_1).before args s = true) : Cond.before (Jvm.Cond.eq (Jvm.Term.elem (Jvm.Term.field (Jvm.Term.string "TurnLine$TextReader" (95 : Nat)) "java/lang/String" "value" "[B") (Jvm.Term.int (3 : Int32))) (Jvm.Term.int (101 : Int32))) args s = true := (an_l (an_r (an_r (an_l (an_r (an_l (an_r (an_l (an_l (an_r h))))))))))
set_option maxRecDepth 20000 in
theorem nr_37 {args : Array Value} {s : State} (h : (Jvm.Cond.and given_1 narrow_1).before args s = true) : Cond.before (Jvm.Cond.exactly (Jvm.Term.string "TurnLineModel" (164 : Nat)) "java/lang/String") args s = true := (an_r (an_l (an_r (an_r (an_r (an_l (an_r (an_r (an_r (an_r h))))))))))
set_option maxRecDepth 20000 in
theorem nr_38 {args : Array Value} {s : State} (h : (Jvm.Cond.and given_1 narrow_1).before args s = true) : Cond.before (Jvm.Cond.eq (Jvm.Term.field (Jvm.Term.string "TurnLineModel" (164 : Nat)) "java/lang/String" "coder" "B") (Jvm.Term.int (0 : Int32))) args s = true := (an_l (an_r (an_r (an_r (an_r (an_l (an_r (an_r (an_r (an_r h))))))))))
set_option maxRecDepth 20000 in
theorem nr_39 {args : Array Value} {s : State} (h : (Jvm.Cond.and given_1 narrow_1).before args s = true) : Cond.before (Jvm.Cond.arrayOf (Jvm.Term.field (Jvm.Term.string "TurnLineModel" (164 : Nat)) "java/lang/String" "value" "[B") Jvm.ClassFile.FieldType.byte) args s = true := (an_l (an_r (an_r (an_r (an_r (an_r (an_l (an_r (an_r (an_r (an_r h)))))))))))
set_option maxRecDepth 20000 in
theorem nr_40 {args : Array Value} {s : State} (h : (Jvm.Cond.and given_1 narrow_1).before args s = true) : Cond.before (Jvm.Cond.eq (Jvm.Term.length (Jvm.Term.field (Jvm.Term.string "TurnLineModel" (164 : Nat)) "java/lang/String" "value" "[B")) (Jvm.Term.int (4 : Int32))) args s = true := (an_r (an_r (an_r (an_r (an_r (an_r (an_l (an_r (an_r (an_r (an_r h)))))))))))
set_option maxRecDepth 20000 in
theorem nr_41 {args : Array Value} {s : State} (h : (Jvm.Cond.and given_1 narrow_1).before args s = true) : Cond.before (Jvm.Cond.eq (Jvm.Term.elem (Jvm.Term.field (Jvm.Term.string "TurnLineModel" (164 : Nat)) "java/lang/String" "value" "[B") (Jvm.Term.int (0 : Int32))) (Jvm.Term.int (108 : Int32))) args s = true := (an_l (an_l (an_l (an_l (an_l (an_r (an_r (an_r (an_r (an_r h))))))))))
set_option maxRecDepth 20000 in
theorem nr_42 {args : Array Value} {s : State} (h : (Jvm.Cond.and given_1 narrow_1).before args s = true) : Cond.before (Jvm.Cond.eq (Jvm.Term.elem (Jvm.Term.field (Jvm.Term.string "TurnLineModel" (164 : Nat)) "java/lang/String" "value" "[B") (Jvm.Term.int (1 : Int32))) (Jvm.Term.int (105 : Int32))) args s = true := (an_r (an_l (an_l (an_l (an_l (an_r (an_r (an_r (an_r (an_r h))))))))))
set_option maxRecDepth 20000 in
theorem nr_43 {args : Array Value} {s : State} (h : (Jvm.Cond.and given_1 narrow_1).before args s = true) : Cond.before (Jvm.Cond.eq (Jvm.Term.elem (Jvm.Term.field (Jvm.Term.string "TurnLineModel" (164 : Nat)) "java/lang/String" "value" "[B") (Jvm.Term.int (2 : Int32))) (Jvm.Term.int (110 : Int32))) args s = true := (an_l (an_r (an_l (an_l (an_l (an_r (an_r (an_r (an_r (an_r h))))))))))
set_option maxRecDepth 20000 in
theorem nr_44 {args : Array Value} {s : State} (h : (Jvm.Cond.and given_1 narrow_1).before args s = true) : Cond.before (Jvm.Cond.eq (Jvm.Term.elem (Jvm.Term.field (Jvm.Term.string "TurnLineModel" (164 : Nat)) "java/lang/String" "value" "[B") (Jvm.Term.int (3 : Int32))) (Jvm.Term.int (101 : Int32))) args s = true := (an_r (an_r (an_l (an_l (an_l (an_r (an_r (an_r (an_r (an_r h))))))))))
set_option maxRecDepth 20000 in
theorem nr_45 {args : Array Value} {s : State} (h : (Jvm.Cond.and given_1 narrow_1).before args s = true) : Cond.before (Jvm.Cond.exactly (Jvm.Term.string "TurnLineModel" (142 : Nat)) "java/lang/String") args s = true := (an_r (an_l (an_r (an_l (an_l (an_r (an_r (an_r (an_r (an_r h))))))))))
set_option maxRecDepth 20000 in
theorem nr_46 {args : Array Value} {s : State} (h : (Jvm.Cond.and given_1 narrow_1).before args s = true) : Cond.before (Jvm.Cond.eq (Jvm.Term.field (Jvm.Term.string "TurnLineModel" (142 : Nat)) "java/lang/String" "coder" "B") (Jvm.Term.int (0 : Int32))) args s = true := (an_l (an_r (an_r (an_l (an_l (an_r (an_r (an_r (an_r (an_r h))))))))))
set_option maxRecDepth 20000 in
theorem nr_47 {args : Array Value} {s : State} (h : (Jvm.Cond.and given_1 narrow_1).before args s = true) : Cond.before (Jvm.Cond.arrayOf (Jvm.Term.field (Jvm.Term.string "TurnLineModel" (142 : Nat)) "java/lang/String" "value" "[B") Jvm.ClassFile.FieldType.byte) args s = true := (an_l (an_r (an_r (an_r (an_l (an_l (an_r (an_r (an_r (an_r (an_r h)))))))))))
set_option maxRecDepth 20000 in
theorem nr_48 {args : Array Value} {s : State} (h : (Jvm.Cond.and given_1 narrow_1).before args s = true) : Cond.before (Jvm.Cond.eq (Jvm.Term.length (Jvm.Term.field (Jvm.Term.string "TurnLineModel" (142 : Nat)) "java/lang/String" "value" "[B")) (Jvm.Term.int (6 : Int32))) args s = true := (an_r (an_r (an_r (an_r (an_l (an_l (an_r (an_r (an_r (an_r (an_r h)))))))))))
set_option maxRecDepth 20000 in
theorem nr_49 {args : Array Value} {s : State} (h : (Jvm.Cond.and given_1 narrow_1).before args s = true) : Cond.before (Jvm.Cond.eq (Jvm.Term.elem (Jvm.Term.field (Jvm.Term.string "TurnLineModel" (142 : Nat)) "java/lang/String" "value" "[B") (Jvm.Term.int (0 : Int32))) (Jvm.Term.int (119 : Int32))) args s = true := (an_l (an_l (an_l (an_r (an_l (an_r (an_r (an_r (an_r (an_r h))))))))))
set_option maxRecDepth 20000 in
theorem nr_50 {args : Array Value} {s : State} (h : (Jvm.Cond.and given_1 narrow_1).before args s = true) : Cond.before (Jvm.Cond.eq (Jvm.Term.elem (Jvm.Term.field (Jvm.Term.string "TurnLineModel" (142 : Nat)) "java/lang/String" "value" "[B") (Jvm.Term.int (1 : Int32))) (Jvm.Term.int (105 : Int32))) args s = true := (an_r (an_l (an_l (an_r (an_l (an_r (an_r (an_r (an_r (an_r h))))))))))
set_option maxRecDepth 20000 in
theorem nr_51 {args : Array Value} {s : State} (h : (Jvm.Cond.and given_1 narrow_1).before args s = true) : Cond.before (Jvm.Cond.eq (Jvm.Term.elem (Jvm.Term.field (Jvm.Term.string "TurnLineModel" (142 : Nat)) "java/lang/String" "value" "[B") (Jvm.Term.int (2 : Int32))) (Jvm.Term.int (110 : Int32))) args s = true := (an_l (an_r (an_l (an_r (an_l (an_r (an_r (an_r (an_r (an_r h))))))))))
set_option maxRecDepth 20000 in
theorem nr_52 {args : Array Value} {s : State} (h : (Jvm.Cond.and given_1 narrow_1).before args s = true) : Cond.before (Jvm.Cond.eq (Jvm.Term.elem (Jvm.Term.field (Jvm.Term.string "TurnLineModel" (142 : Nat)) "java/lang/String" "value" "[B") (Jvm.Term.int (3 : Int32))) (Jvm.Term.int (100 : Int32))) args s = true := (an_r (an_r (an_l (an_r (an_l (an_r (an_r (an_r (an_r (an_r h))))))))))
set_option maxRecDepth 20000 in
theorem nr_53 {args : Array Value} {s : State} (h : (Jvm.Cond.and given_1 narrow_1).before args s = true) : Cond.before (Jvm.Cond.eq (Jvm.Term.elem (Jvm.Term.field (Jvm.Term.string "TurnLineModel" (142 : Nat)) "java/lang/String" "value" "[B") (Jvm.Term.int (4 : Int32))) (Jvm.Term.int (111 : Int32))) args s = true := (an_l (an_l (an_r (an_r (an_l (an_r (an_r (an_r (an_r (an_r h))))))))))
set_option maxRecDepth 20000 in
theorem nr_54 {args : Array Value} {s : State} (h : (Jvm.Cond.and given_1 narrow_1).before args s = true) : Cond.before (Jvm.Cond.eq (Jvm.Term.elem (Jvm.Term.field (Jvm.Term.string "TurnLineModel" (142 : Nat)) "java/lang/String" "value" "[B") (Jvm.Term.int (5 : Int32))) (Jvm.Term.int (119 : Int32))) args s = true := (an_r (an_l (an_r (an_r (an_l (an_r (an_r (an_r (an_r (an_r h))))))))))
set_option maxRecDepth 20000 in
theorem nr_55 {args : Array Value} {s : State} (h : (Jvm.Cond.and given_1 narrow_1).before args s = true) : Cond.before (Jvm.Cond.exactly (Jvm.Term.string "TurnLineModel" (151 : Nat)) "java/lang/String") args s = true := (an_l (an_r (an_r (an_r (an_r (an_l (an_r (an_r (an_r (an_r (an_r h)))))))))))
set_option maxRecDepth 20000 in
theorem nr_56 {args : Array Value} {s : State} (h : (Jvm.Cond.and given_1 narrow_1).before args s = true) : Cond.before (Jvm.Cond.eq (Jvm.Term.field (Jvm.Term.string "TurnLineModel" (151 : Nat)) "java/lang/String" "coder" "B") (Jvm.Term.int (0 : Int32))) args s = true := (an_r (an_r (an_r (an_r (an_r (an_l (an_r (an_r (an_r (an_r (an_r h)))))))))))
set_option maxRecDepth 20000 in
theorem nr_57 {args : Array Value} {s : State} (h : (Jvm.Cond.and given_1 narrow_1).before args s = true) : Cond.before (Jvm.Cond.arrayOf (Jvm.Term.field (Jvm.Term.string "TurnLineModel" (151 : Nat)) "java/lang/String" "value" "[B") Jvm.ClassFile.FieldType.byte) args s = true := (an_l (an_l (an_l (an_l (an_r (an_r (an_r (an_r (an_r (an_r h))))))))))
set_option maxRecDepth 20000 in
theorem nr_58 {args : Array Value} {s : State} (h : (Jvm.Cond.and given_1 narrow_1).before args s = true) : Cond.before (Jvm.Cond.eq (Jvm.Term.length (Jvm.Term.field (Jvm.Term.string "TurnLineModel" (151 : Nat)) "java/lang/String" "value" "[B")) (Jvm.Term.int (7 : Int32))) args s = true := (an_r (an_l (an_l (an_l (an_r (an_r (an_r (an_r (an_r (an_r h))))))))))
set_option maxRecDepth 20000 in
theorem nr_59 {args : Array Value} {s : State} (h : (Jvm.Cond.and given_1 narrow_1).before args s = true) : Cond.before (Jvm.Cond.eq (Jvm.Term.elem (Jvm.Term.field (Jvm.Term.string "TurnLineModel" (151 : Nat)) "java/lang/String" "value" "[B") (Jvm.Term.int (0 : Int32))) (Jvm.Term.int (109 : Int32))) args s = true := (an_l (an_r (an_l (an_l (an_r (an_r (an_r (an_r (an_r (an_r h))))))))))
set_option maxRecDepth 20000 in
theorem nr_60 {args : Array Value} {s : State} (h : (Jvm.Cond.and given_1 narrow_1).before args s = true) : Cond.before (Jvm.Cond.eq (Jvm.Term.elem (Jvm.Term.field (Jvm.Term.string "TurnLineModel" (151 : Nat)) "java/lang/String" "value" "[B") (Jvm.Term.int (1 : Int32))) (Jvm.Term.int (101 : Int32))) args s = true := (an_r (an_r (an_l (an_l (an_r (an_r (an_r (an_r (an_r (an_r h))))))))))
set_option maxRecDepth 20000 in
theorem nr_61 {args : Array Value} {s : State} (h : (Jvm.Cond.and given_1 narrow_1).before args s = true) : Cond.before (Jvm.Cond.eq (Jvm.Term.elem (Jvm.Term.field (Jvm.Term.string "TurnLineModel" (151 : Nat)) "java/lang/String" "value" "[B") (Jvm.Term.int (2 : Int32))) (Jvm.Term.int (115 : Int32))) args s = true := (an_l (an_l (an_r (an_l (an_r (an_r (an_r (an_r (an_r (an_r h))))))))))
set_option maxRecDepth 20000 in
theorem nr_62 {args : Array Value} {s : State} (h : (Jvm.Cond.and given_1 narrow_1).before args s = true) : Cond.before (Jvm.Cond.eq (Jvm.Term.elem (Jvm.Term.field (Jvm.Term.string "TurnLineModel" (151 : Nat)) "java/lang/String" "value" "[B") (Jvm.Term.int (3 : Int32))) (Jvm.Term.int (115 : Int32))) args s = true := (an_r (an_l (an_r (an_l (an_r (an_r (an_r (an_r (an_r (an_r h))))))))))
set_option maxRecDepth 20000 in
theorem nr_63 {args : Array Value} {s : State} (h : (Jvm.Cond.and given_1 narrow_1).before args s = true) : Cond.before (Jvm.Cond.eq (Jvm.Term.elem (Jvm.Term.field (Jvm.Term.string "TurnLineModel" (151 : Nat)) "java/lang/String" "value" "[B") (Jvm.Term.int (4 : Int32))) (Jvm.Term.int (97 : Int32))) args s = true := (an_l (an_r (an_r (an_l (an_r (an_r (an_r (an_r (an_r (an_r h))))))))))
set_option maxRecDepth 20000 in
theorem nr_64 {args : Array Value} {s : State} (h : (Jvm.Cond.and given_1 narrow_1).before args s = true) : Cond.before (Jvm.Cond.eq (Jvm.Term.elem (Jvm.Term.field (Jvm.Term.string "TurnLineModel" (151 : Nat)) "java/lang/String" "value" "[B") (Jvm.Term.int (5 : Int32))) (Jvm.Term.int (103 : Int32))) args s = true := (an_l (an_r (an_r (an_r (an_l (an_r (an_r (an_r (an_r (an_r (an_r h)))))))))))
set_option maxRecDepth 20000 in
theorem nr_65 {args : Array Value} {s : State} (h : (Jvm.Cond.and given_1 narrow_1).before args s = true) : Cond.before (Jvm.Cond.eq (Jvm.Term.elem (Jvm.Term.field (Jvm.Term.string "TurnLineModel" (151 : Nat)) "java/lang/String" "value" "[B") (Jvm.Term.int (6 : Int32))) (Jvm.Term.int (101 : Int32))) args s = true := (an_r (an_r (an_r (an_r (an_l (an_r (an_r (an_r (an_r (an_r (an_r h)))))))))))
set_option maxRecDepth 20000 in
theorem nr_66 {args : Array Value} {s : State} (h : (Jvm.Cond.and given_1 narrow_1).before args s = true) : Cond.before (Jvm.Cond.exactly (Jvm.Term.string "TurnLineModel" (156 : Nat)) "java/lang/String") args s = true := (an_r (an_l (an_l (an_r (an_r (an_r (an_r (an_r (an_r (an_r h))))))))))
set_option maxRecDepth 20000 in
theorem nr_67 {args : Array Value} {s : State} (h : (Jvm.Cond.and given_1 narrow_1).before args s = true) : Cond.before (Jvm.Cond.eq (Jvm.Term.field (Jvm.Term.string "TurnLineModel" (156 : Nat)) "java/lang/String" "coder" "B") (Jvm.Term.int (0 : Int32))) args s = true := (an_l (an_r (an_l (an_r (an_r (an_r (an_r (an_r (an_r (an_r h))))))))))
set_option maxRecDepth 20000 in
theorem nr_68 {args : Array Value} {s : State} (h : (Jvm.Cond.and given_1 narrow_1).before args s = true) : Cond.before (Jvm.Cond.arrayOf (Jvm.Term.field (Jvm.Term.string "TurnLineModel" (156 : Nat)) "java/lang/String" "value" "[B") Jvm.ClassFile.FieldType.byte) args s = true := (an_l (an_r (an_r (an_l (an_r (an_r (an_r (an_r (an_r (an_r (an_r h)))))))))))
set_option maxRecDepth 20000 in
theorem nr_69 {args : Array Value} {s : State} (h : (Jvm.Cond.and given_1 narrow_1).before args s = true) : Cond.before (Jvm.Cond.eq (Jvm.Term.length (Jvm.Term.field (Jvm.Term.string "TurnLineModel" (156 : Nat)) "java/lang/String" "value" "[B")) (Jvm.Term.int (4 : Int32))) args s = true := (an_r (an_r (an_r (an_l (an_r (an_r (an_r (an_r (an_r (an_r (an_r h)))))))))))
set_option maxRecDepth 20000 in
theorem nr_70 {args : Array Value} {s : State} (h : (Jvm.Cond.and given_1 narrow_1).before args s = true) : Cond.before (Jvm.Cond.eq (Jvm.Term.elem (Jvm.Term.field (Jvm.Term.string "TurnLineModel" (156 : Nat)) "java/lang/String" "value" "[B") (Jvm.Term.int (0 : Int32))) (Jvm.Term.int (108 : Int32))) args s = true := (an_l (an_l (an_r (an_r (an_r (an_r (an_r (an_r (an_r (an_r h))))))))))
set_option maxRecDepth 20000 in
theorem nr_71 {args : Array Value} {s : State} (h : (Jvm.Cond.and given_1 narrow_1).before args s = true) : Cond.before (Jvm.Cond.eq (Jvm.Term.elem (Jvm.Term.field (Jvm.Term.string "TurnLineModel" (156 : Nat)) "java/lang/String" "value" "[B") (Jvm.Term.int (1 : Int32))) (Jvm.Term.int (111 : Int32))) args s = true := (an_r (an_l (an_r (an_r (an_r (an_r (an_r (an_r (an_r (an_r h))))))))))
set_option maxRecDepth 20000 in
theorem nr_72 {args : Array Value} {s : State} (h : (Jvm.Cond.and given_1 narrow_1).before args s = true) : Cond.before (Jvm.Cond.eq (Jvm.Term.elem (Jvm.Term.field (Jvm.Term.string "TurnLineModel" (156 : Nat)) "java/lang/String" "value" "[B") (Jvm.Term.int (2 : Int32))) (Jvm.Term.int (115 : Int32))) args s = true := (an_l (an_r (an_r (an_r (an_r (an_r (an_r (an_r (an_r (an_r h))))))))))
set_option maxRecDepth 20000 in
theorem nr_73 {args : Array Value} {s : State} (h : (Jvm.Cond.and given_1 narrow_1).before args s = true) : Cond.before (Jvm.Cond.eq (Jvm.Term.elem (Jvm.Term.field (Jvm.Term.string "TurnLineModel" (156 : Nat)) "java/lang/String" "value" "[B") (Jvm.Term.int (3 : Int32))) (Jvm.Term.int (101 : Int32))) args s = true := (an_l (an_r (an_r (an_r (an_r (an_r (an_r (an_r (an_r (an_r (an_r h)))))))))))
set_option maxRecDepth 20000 in
theorem nr_74 {args : Array Value} {s : State} (h : (Jvm.Cond.and given_1 narrow_1).before args s = true) : Cond.before (Jvm.Cond.exactly (Jvm.Term.string "TurnLine" (74 : Nat)) "java/lang/String") args s = true := (an_l (an_r (an_r (an_l (an_l (an_r (an_l (an_l (an_l (an_r h))))))))))
set_option maxRecDepth 20000 in
theorem nr_75 {args : Array Value} {s : State} (h : (Jvm.Cond.and given_1 narrow_1).before args s = true) : Cond.before (Jvm.Cond.exactly (Jvm.Term.string "TurnLine" (125 : Nat)) "java/lang/String") args s = true := (an_l (an_r (an_r (an_r (an_l (an_r (an_l (an_r (an_l (an_l (an_r h)))))))))))
set_option maxRecDepth 20000 in
theorem nr_76 {args : Array Value} {s : State} (h : (Jvm.Cond.and given_1 narrow_1).before args s = true) : Cond.before (Jvm.Cond.exactly (Jvm.Term.string "TurnLine" (130 : Nat)) "java/lang/String") args s = true := (an_l (an_r (an_r (an_l (an_r (an_r (an_r (an_l (an_l (an_r h))))))))))
set_option maxRecDepth 20000 in
theorem nr_77 {args : Array Value} {s : State} (h : (Jvm.Cond.and given_1 narrow_1).before args s = true) : Cond.before (Jvm.Cond.exactly (Jvm.Term.string "TurnLine" (146 : Nat)) "java/lang/String") args s = true := (an_r (an_l (an_l (an_l (an_r (an_l (an_l (an_r (an_l (an_r h))))))))))
set_option maxRecDepth 20000 in
theorem nr_78 {args : Array Value} {s : State} (h : (Jvm.Cond.and given_1 narrow_1).before args s = true) : Cond.before (Jvm.Cond.exactly (Jvm.Term.string "TurnLine" (171 : Nat)) "java/lang/String") args s = true := (an_l (an_r (an_l (an_l (an_l (an_r (an_l (an_r (an_l (an_r h))))))))))
set_option maxRecDepth 20000 in
theorem nr_79 {args : Array Value} {s : State} (h : (Jvm.Cond.and given_1 narrow_1).before args s = true) : Cond.before (Jvm.Cond.exactly (Jvm.Term.string "TurnLine" (176 : Nat)) "java/lang/String") args s = true := (an_l (an_l (an_r (an_r (an_r (an_r (an_l (an_r (an_l (an_r h))))))))))
set_option maxRecDepth 20000 in
theorem nr_80 {args : Array Value} {s : State} (h : (Jvm.Cond.and given_1 narrow_1).before args s = true) : Cond.before (Jvm.Cond.exactly (Jvm.Term.string "TurnLine" (203 : Nat)) "java/lang/String") args s = true := (an_l (an_l (an_r (an_l (an_l (an_r (an_r (an_r (an_l (an_r h))))))))))
set_option maxRecDepth 20000 in
theorem nr_81 {args : Array Value} {s : State} (h : (Jvm.Cond.and given_1 narrow_1).before args s = true) : Cond.before (Jvm.Cond.exactly (Jvm.Term.string "TurnLine" (211 : Nat)) "java/lang/String") args s = true := (an_r (an_l (an_r (an_l (an_r (an_r (an_r (an_r (an_l (an_r h))))))))))
set_option maxRecDepth 20000 in
theorem nr_82 {args : Array Value} {s : State} (h : (Jvm.Cond.and given_1 narrow_1).before args s = true) : Cond.before (Jvm.Cond.exactly (Jvm.Term.string "TurnLine" (215 : Nat)) "java/lang/String") args s = true := (an_l (an_l (an_l (an_l (an_r (an_l (an_l (an_l (an_r (an_r h))))))))))
set_option maxRecDepth 20000 in
theorem nr_83 {args : Array Value} {s : State} (h : (Jvm.Cond.and given_1 narrow_1).before args s = true) : Cond.before (Jvm.Cond.exactly (Jvm.Term.string "TurnLine" (232 : Nat)) "java/lang/String") args s = true := (an_r (an_l (an_r (an_r (an_r (an_r (an_l (an_l (an_r (an_r h))))))))))
set_option maxRecDepth 20000 in
theorem nr_84 {args : Array Value} {s : State} (h : (Jvm.Cond.and given_1 narrow_1).before args s = true) : Cond.before (Jvm.Cond.exactly (Jvm.Term.string "TurnLine" (243 : Nat)) "java/lang/String") args s = true := (an_l (an_r (an_r (an_r (an_l (an_r (an_l (an_r (an_l (an_r (an_r h)))))))))))
set_option maxRecDepth 20000 in
theorem nr_85 {args : Array Value} {s : State} (h : (Jvm.Cond.and given_1 narrow_1).before args s = true) : Cond.before (Jvm.Cond.exactly (Jvm.Term.string "TurnLine" (245 : Nat)) "java/lang/String") args s = true := (an_l (an_l (an_l (an_l (an_r (an_r (an_r (an_l (an_r (an_r h))))))))))
set_option maxRecDepth 20000 in
theorem nr_86 {args : Array Value} {s : State} (h : (Jvm.Cond.and given_1 narrow_1).before args s = true) : Cond.before (Jvm.Cond.exactly (Jvm.Term.string "TurnLine" (247 : Nat)) "java/lang/String") args s = true := (an_r (an_l (an_r (an_r (an_l (an_l (an_l (an_r (an_r (an_r h))))))))))
set_option maxRecDepth 20000 in
theorem nr_87 {args : Array Value} {s : State} (h : (Jvm.Cond.and given_1 narrow_1).before args s = true) : Cond.before (Jvm.Cond.exactly (Jvm.Term.string "TurnLine" (252 : Nat)) "java/lang/String") args s = true := (an_r (an_l (an_l (an_r (an_l (an_r (an_l (an_r (an_r (an_r h))))))))))
set_option maxRecDepth 20000 in
theorem nr_88 {args : Array Value} {s : State} (h : (Jvm.Cond.and given_1 narrow_1).before args s = true) : Cond.before (Jvm.Cond.exactly (Jvm.Term.string "TurnLine" (254 : Nat)) "java/lang/String") args s = true := (an_l (an_r (an_l (an_l (an_l (an_l (an_r (an_r (an_r (an_r h))))))))))
set_option maxRecDepth 20000 in
theorem nr_89 {args : Array Value} {s : State} (h : (Jvm.Cond.and given_1 narrow_1).before args s = true) : Cond.before (Jvm.Cond.exactly (Jvm.Term.string "TurnLine" (271 : Nat)) "java/lang/String") args s = true := (an_r (an_l (an_r (an_l (an_l (an_r (an_r (an_l (an_l (an_r h))))))))))
set_option maxRecDepth 20000 in
theorem nr_90 {args : Array Value} {s : State} (h : (Jvm.Cond.and given_1 narrow_1).before args s = true) : Cond.before (Jvm.Cond.exactly (Jvm.Term.string "TurnLine" (273 : Nat)) "java/lang/String") args s = true := (an_r (an_l (an_r (an_r (an_l (an_r (an_l (an_l (an_r (an_r h))))))))))
set_option maxRecDepth 20000 in
theorem nr_91 {args : Array Value} {s : State} (h : (Jvm.Cond.and given_1 narrow_1).before args s = true) : Cond.before (Jvm.Cond.exactly (Jvm.Term.string "TurnLine" (275 : Nat)) "java/lang/String") args s = true := (an_r (an_l (an_r (an_l (an_r (an_l (an_r (an_r (an_l (an_r h))))))))))
set_option maxRecDepth 20000 in
theorem nr_92 {args : Array Value} {s : State} (h : (Jvm.Cond.and given_1 narrow_1).before args s = true) : Cond.before (Jvm.Cond.not (Jvm.Cond.castable "java/lang/IllegalStateException" "java/lang/IndexOutOfBoundsException")) args s = true := (an_r (an_r (an_l (an_r (an_r (an_l (an_l (an_l (an_l (an_r h))))))))))
set_option maxRecDepth 20000 in
theorem nr_93 {args : Array Value} {s : State} (h : (Jvm.Cond.and given_1 narrow_1).before args s = true) : Cond.before (Jvm.Cond.not (Jvm.Cond.castable "java/lang/IllegalStateException" "java/lang/IllegalArgumentException")) args s = true := (an_r (an_l (an_l (an_l (an_r (an_l (an_l (an_l (an_l (an_r h))))))))))
set_option maxRecDepth 20000 in
theorem nr_94 {args : Array Value} {s : State} (h : (Jvm.Cond.and given_1 narrow_1).before args s = true) : Cond.before (Jvm.Cond.not (Jvm.Cond.castable "java/lang/IndexOutOfBoundsException" "java/lang/IllegalStateException")) args s = true := (an_r (an_l (an_r (an_l (an_l (an_r (an_l (an_l (an_l (an_r h))))))))))
set_option maxRecDepth 20000 in
theorem nr_95 {args : Array Value} {s : State} (h : (Jvm.Cond.and given_1 narrow_1).before args s = true) : Cond.before (Jvm.Cond.not (Jvm.Cond.castable "java/lang/IndexOutOfBoundsException" "java/lang/IllegalArgumentException")) args s = true := (an_l (an_l (an_l (an_l (an_r (an_l (an_l (an_l (an_l (an_r h))))))))))
set_option maxRecDepth 20000 in
theorem nr_96 {args : Array Value} {s : State} (h : (Jvm.Cond.and given_1 narrow_1).before args s = true) : Cond.before (Jvm.Cond.not (Jvm.Cond.castable "java/lang/IllegalArgumentException" "java/lang/IllegalStateException")) args s = true := (an_l (an_l (an_r (an_l (an_l (an_r (an_l (an_l (an_l (an_r h))))))))))
set_option maxRecDepth 20000 in
theorem nr_97 {args : Array Value} {s : State} (h : (Jvm.Cond.and given_1 narrow_1).before args s = true) : Cond.before (Jvm.Cond.not (Jvm.Cond.castable "java/lang/IllegalArgumentException" "java/lang/IndexOutOfBoundsException")) args s = true := (an_l (an_r (an_l (an_r (an_r (an_l (an_l (an_l (an_l (an_r h))))))))))
set_option maxRecDepth 20000 in
theorem nr_98 {args : Array Value} {s : State} (h : (Jvm.Cond.and given_1 narrow_1).before args s = true) : Cond.before (Jvm.Cond.isRef (Jvm.Term.static "java/lang/Throwable" "UNASSIGNED_STACK" "[Ljava/lang/StackTraceElement;")) args s = true := (an_l (an_r (an_l (an_l (an_l (an_l (an_l (an_l (an_l (an_r h))))))))))
set_option maxRecDepth 20000 in
theorem nr_99 {args : Array Value} {s : State} (h : (Jvm.Cond.and given_1 narrow_1).before args s = true) : Cond.before (Jvm.Cond.isRef (Jvm.Term.static "java/lang/Throwable" "SUPPRESSED_SENTINEL" "Ljava/util/List;")) args s = true := (an_r (an_r (an_l (an_l (an_l (an_l (an_l (an_l (an_l (an_r h))))))))))
set_option maxRecDepth 20000 in
theorem nr_100 {args : Array Value} {s : State} (h : (Jvm.Cond.and given_1 narrow_1).before args s = true) : Cond.before (Jvm.Cond.eq (Jvm.Term.static "java/lang/String" "COMPACT_STRINGS" "Z") (Jvm.Term.int (1 : Int32))) args s = true := (an_l (an_l (an_r (an_l (an_l (an_l (an_l (an_l (an_l (an_r h))))))))))
set_option maxRecDepth 20000 in
theorem nr_101 {args : Array Value} {s : State} (h : (Jvm.Cond.and given_1 narrow_1).before args s = true) : Cond.before (Jvm.Cond.isRef (Jvm.Term.static "jdk/internal/util/Preconditions" "SIOOBE_FORMATTER" "Ljava/util/function/BiFunction;")) args s = true := (an_r (an_l (an_r (an_l (an_l (an_l (an_l (an_l (an_l (an_r h))))))))))
set_option maxRecDepth 20000 in
theorem st_0 {args : Array Value} {s : State} (hts : ∀ w ∈ lw_tbl, w.before args s = true) (hgv : (Jvm.Cond.and given_1 narrow_1).before args s = true) {A : Nat → Prop} (hA : ∀ a : Nat, a < s.heap.size → ¬ A a) : ∃ a v : Nat, vk_R "TurnLine$TextReader" 38 "line" a s ∧ strO a v [108, 105, 110, 101] A s := by
  obtain ⟨a, v, h1, h2⟩ := so_one (b := [108, 105, 110, 101]) (by decide) (nr_0 hgv) (nr_1 hgv) (nr_2 hgv) (nr_3 hgv) (fun j hj => match j, hj with | 0, _ => nr_4 hgv | 1, _ => nr_5 hgv | 2, _ => nr_6 hgv | 3, _ => nr_7 hgv | n + 4, h => absurd h (by simp)) hA
  exact ⟨a, v, vk_R.of (hts _ (tb_3 _ (List.mem_of_getElem? (i := 121) rfl))) h1, h2⟩
set_option maxRecDepth 20000 in
theorem st_1 {args : Array Value} {s : State} (hts : ∀ w ∈ lw_tbl, w.before args s = true) (hgv : (Jvm.Cond.and given_1 narrow_1).before args s = true) {A : Nat → Prop} (hA : ∀ a : Nat, a < s.heap.size → ¬ A a) : ∃ a v : Nat, vk_R "TurnLine$TextReader" 81 "window" a s ∧ strO a v [119, 105, 110, 100, 111, 119] A s := by
  obtain ⟨a, v, h1, h2⟩ := so_one (b := [119, 105, 110, 100, 111, 119]) (by decide) (nr_8 hgv) (nr_9 hgv) (nr_10 hgv) (nr_11 hgv) (fun j hj => match j, hj with | 0, _ => nr_12 hgv | 1, _ => nr_13 hgv | 2, _ => nr_14 hgv | 3, _ => nr_15 hgv | 4, _ => nr_16 hgv | 5, _ => nr_17 hgv | n + 6, h => absurd h (by simp)) hA
  exact ⟨a, v, vk_R.of (hts _ (tb_3 _ (List.mem_of_getElem? (i := 194) rfl))) h1, h2⟩
set_option maxRecDepth 20000 in
theorem st_2 {args : Array Value} {s : State} (hts : ∀ w ∈ lw_tbl, w.before args s = true) (hgv : (Jvm.Cond.and given_1 narrow_1).before args s = true) {A : Nat → Prop} (hA : ∀ a : Nat, a < s.heap.size → ¬ A a) : ∃ a v : Nat, vk_R "TurnLine$TextReader" 90 "message" a s ∧ strO a v [109, 101, 115, 115, 97, 103, 101] A s := by
  obtain ⟨a, v, h1, h2⟩ := so_one (b := [109, 101, 115, 115, 97, 103, 101]) (by decide) (nr_18 hgv) (nr_19 hgv) (nr_20 hgv) (nr_21 hgv) (fun j hj => match j, hj with | 0, _ => nr_22 hgv | 1, _ => nr_23 hgv | 2, _ => nr_24 hgv | 3, _ => nr_25 hgv | 4, _ => nr_26 hgv | 5, _ => nr_27 hgv | 6, _ => nr_28 hgv | n + 7, h => absurd h (by simp)) hA
  exact ⟨a, v, vk_R.of (hts _ (tb_3 _ (List.mem_of_getElem? (i := 200) rfl))) h1, h2⟩
set_option maxRecDepth 20000 in
theorem st_3 {args : Array Value} {s : State} (hts : ∀ w ∈ lw_tbl, w.before args s = true) (hgv : (Jvm.Cond.and given_1 narrow_1).before args s = true) {A : Nat → Prop} (hA : ∀ a : Nat, a < s.heap.size → ¬ A a) : ∃ a v : Nat, vk_R "TurnLine$TextReader" 95 "lose" a s ∧ strO a v [108, 111, 115, 101] A s := by
  obtain ⟨a, v, h1, h2⟩ := so_one (b := [108, 111, 115, 101]) (by decide) (nr_29 hgv) (nr_30 hgv) (nr_31 hgv) (nr_32 hgv) (fun j hj => match j, hj with | 0, _ => nr_33 hgv | 1, _ => nr_34 hgv | 2, _ => nr_35 hgv | 3, _ => nr_36 hgv | n + 4, h => absurd h (by simp)) hA
  exact ⟨a, v, vk_R.of (hts _ (tb_3 _ (List.mem_of_getElem? (i := 209) rfl))) h1, h2⟩
set_option maxRecDepth 20000 in
theorem st_4 {args : Array Value} {s : State} (hts : ∀ w ∈ lw_tbl, w.before args s = true) (hgv : (Jvm.Cond.and given_1 narrow_1).before args s = true) {A : Nat → Prop} (hA : ∀ a : Nat, a < s.heap.size → ¬ A a) : ∃ a v : Nat, vk_R "TurnLineModel" 164 "line" a s ∧ strO a v [108, 105, 110, 101] A s := by
  obtain ⟨a, v, h1, h2⟩ := so_one (b := [108, 105, 110, 101]) (by decide) (nr_37 hgv) (nr_38 hgv) (nr_39 hgv) (nr_40 hgv) (fun j hj => match j, hj with | 0, _ => nr_41 hgv | 1, _ => nr_42 hgv | 2, _ => nr_43 hgv | 3, _ => nr_44 hgv | n + 4, h => absurd h (by simp)) hA
  exact ⟨a, v, vk_R.of (hts _ (tb_5 _ (List.mem_of_getElem? (i := 67) rfl))) h1, h2⟩
set_option maxRecDepth 20000 in
theorem st_5 {args : Array Value} {s : State} (hts : ∀ w ∈ lw_tbl, w.before args s = true) (hgv : (Jvm.Cond.and given_1 narrow_1).before args s = true) {A : Nat → Prop} (hA : ∀ a : Nat, a < s.heap.size → ¬ A a) : ∃ a v : Nat, vk_R "TurnLineModel" 142 "window" a s ∧ strO a v [119, 105, 110, 100, 111, 119] A s := by
  obtain ⟨a, v, h1, h2⟩ := so_one (b := [119, 105, 110, 100, 111, 119]) (by decide) (nr_45 hgv) (nr_46 hgv) (nr_47 hgv) (nr_48 hgv) (fun j hj => match j, hj with | 0, _ => nr_49 hgv | 1, _ => nr_50 hgv | 2, _ => nr_51 hgv | 3, _ => nr_52 hgv | 4, _ => nr_53 hgv | 5, _ => nr_54 hgv | n + 6, h => absurd h (by simp)) hA
  exact ⟨a, v, vk_R.of (hts _ (tb_5 _ (List.mem_of_getElem? (i := 94) rfl))) h1, h2⟩
set_option maxRecDepth 20000 in
theorem st_6 {args : Array Value} {s : State} (hts : ∀ w ∈ lw_tbl, w.before args s = true) (hgv : (Jvm.Cond.and given_1 narrow_1).before args s = true) {A : Nat → Prop} (hA : ∀ a : Nat, a < s.heap.size → ¬ A a) : ∃ a v : Nat, vk_R "TurnLineModel" 151 "message" a s ∧ strO a v [109, 101, 115, 115, 97, 103, 101] A s := by
  obtain ⟨a, v, h1, h2⟩ := so_one (b := [109, 101, 115, 115, 97, 103, 101]) (by decide) (nr_55 hgv) (nr_56 hgv) (nr_57 hgv) (nr_58 hgv) (fun j hj => match j, hj with | 0, _ => nr_59 hgv | 1, _ => nr_60 hgv | 2, _ => nr_61 hgv | 3, _ => nr_62 hgv | 4, _ => nr_63 hgv | 5, _ => nr_64 hgv | 6, _ => nr_65 hgv | n + 7, h => absurd h (by simp)) hA
  exact ⟨a, v, vk_R.of (hts _ (tb_5 _ (List.mem_of_getElem? (i := 99) rfl))) h1, h2⟩
set_option maxRecDepth 20000 in
theorem st_7 {args : Array Value} {s : State} (hts : ∀ w ∈ lw_tbl, w.before args s = true) (hgv : (Jvm.Cond.and given_1 narrow_1).before args s = true) {A : Nat → Prop} (hA : ∀ a : Nat, a < s.heap.size → ¬ A a) : ∃ a v : Nat, vk_R "TurnLineModel" 156 "lose" a s ∧ strO a v [108, 111, 115, 101] A s := by
  obtain ⟨a, v, h1, h2⟩ := so_one (b := [108, 111, 115, 101]) (by decide) (nr_66 hgv) (nr_67 hgv) (nr_68 hgv) (nr_69 hgv) (fun j hj => match j, hj with | 0, _ => nr_70 hgv | 1, _ => nr_71 hgv | 2, _ => nr_72 hgv | 3, _ => nr_73 hgv | n + 4, h => absurd h (by simp)) hA
  exact ⟨a, v, vk_R.of (hts _ (tb_5 _ (List.mem_of_getElem? (i := 110) rfl))) h1, h2⟩
set_option maxRecDepth 20000 in
theorem st_8 {args : Array Value} {s : State} (hts : ∀ w ∈ lw_tbl, w.before args s = true) (hgv : (Jvm.Cond.and given_1 narrow_1).before args s = true) : ∃ a : Nat, vk_R "TurnLine" 74 "no such length" a s := by
  obtain ⟨a, h1⟩ := so_ref (nr_74 hgv)
  exact ⟨a, vk_R.of (hts _ (tb_3 _ (List.mem_of_getElem? (i := 66) rfl))) h1⟩
set_option maxRecDepth 20000 in
theorem st_9 {args : Array Value} {s : State} (hts : ∀ w ∈ lw_tbl, w.before args s = true) (hgv : (Jvm.Cond.and given_1 narrow_1).before args s = true) : ∃ a : Nat, vk_R "TurnLine" 125 "no such size" a s := by
  obtain ⟨a, h1⟩ := so_ref (nr_75 hgv)
  exact ⟨a, vk_R.of (hts _ (tb_3 _ (List.mem_of_getElem? (i := 227) rfl))) h1⟩
set_option maxRecDepth 20000 in
theorem st_10 {args : Array Value} {s : State} (hts : ∀ w ∈ lw_tbl, w.before args s = true) (hgv : (Jvm.Cond.and given_1 narrow_1).before args s = true) : ∃ a : Nat, vk_R "TurnLine" 130 "no such number of a station" a s := by
  obtain ⟨a, h1⟩ := so_ref (nr_76 hgv)
  exact ⟨a, vk_R.of (hts _ (tb_4 _ (List.mem_of_getElem? (i := 15) rfl))) h1⟩
set_option maxRecDepth 20000 in
theorem st_11 {args : Array Value} {s : State} (hts : ∀ w ∈ lw_tbl, w.before args s = true) (hgv : (Jvm.Cond.and given_1 narrow_1).before args s = true) : ∃ a : Nat, vk_R "TurnLine" 146 "no such message" a s := by
  obtain ⟨a, h1⟩ := so_ref (nr_77 hgv)
  exact ⟨a, vk_R.of (hts _ (tb_4 _ (List.mem_of_getElem? (i := 29) rfl))) h1⟩
set_option maxRecDepth 20000 in
theorem st_12 {args : Array Value} {s : State} (hts : ∀ w ∈ lw_tbl, w.before args s = true) (hgv : (Jvm.Cond.and given_1 narrow_1).before args s = true) : ∃ a : Nat, vk_R "TurnLine" 171 "no such number of a frame" a s := by
  obtain ⟨a, h1⟩ := so_ref (nr_78 hgv)
  exact ⟨a, vk_R.of (hts _ (tb_4 _ (List.mem_of_getElem? (i := 40) rfl))) h1⟩
set_option maxRecDepth 20000 in
theorem st_13 {args : Array Value} {s : State} (hts : ∀ w ∈ lw_tbl, w.before args s = true) (hgv : (Jvm.Cond.and given_1 narrow_1).before args s = true) : ∃ a : Nat, vk_R "TurnLine" 176 "neither ticks nor frames" a s := by
  obtain ⟨a, h1⟩ := so_ref (nr_79 hgv)
  exact ⟨a, vk_R.of (hts _ (tb_4 _ (List.mem_of_getElem? (i := 48) rfl))) h1⟩
set_option maxRecDepth 20000 in
theorem st_14 {args : Array Value} {s : State} (hts : ∀ w ∈ lw_tbl, w.before args s = true) (hgv : (Jvm.Cond.and given_1 narrow_1).before args s = true) : ∃ a : Nat, vk_R "TurnLine" 203 "no such account" a s := by
  obtain ⟨a, h1⟩ := so_ref (nr_80 hgv)
  exact ⟨a, vk_R.of (hts _ (tb_4 _ (List.mem_of_getElem? (i := 76) rfl))) h1⟩
set_option maxRecDepth 20000 in
theorem st_15 {args : Array Value} {s : State} (hts : ∀ w ∈ lw_tbl, w.before args s = true) (hgv : (Jvm.Cond.and given_1 narrow_1).before args s = true) : ∃ a : Nat, vk_R "TurnLine" 211 "no such length of a message" a s := by
  obtain ⟨a, h1⟩ := so_ref (nr_81 hgv)
  exact ⟨a, vk_R.of (hts _ (tb_4 _ (List.mem_of_getElem? (i := 85) rfl))) h1⟩
set_option maxRecDepth 20000 in
theorem st_16 {args : Array Value} {s : State} (hts : ∀ w ∈ lw_tbl, w.before args s = true) (hgv : (Jvm.Cond.and given_1 narrow_1).before args s = true) : ∃ a : Nat, vk_R "TurnLine" 215 "the list of messages is full" a s := by
  obtain ⟨a, h1⟩ := so_ref (nr_82 hgv)
  exact ⟨a, vk_R.of (hts _ (tb_4 _ (List.mem_of_getElem? (i := 95) rfl))) h1⟩
set_option maxRecDepth 20000 in
theorem st_17 {args : Array Value} {s : State} (hts : ∀ w ∈ lw_tbl, w.before args s = true) (hgv : (Jvm.Cond.and given_1 narrow_1).before args s = true) : ∃ a : Nat, vk_R "TurnLine" 232 "not so many in the buffer" a s := by
  obtain ⟨a, h1⟩ := so_ref (nr_83 hgv)
  exact ⟨a, vk_R.of (hts _ (tb_4 _ (List.mem_of_getElem? (i := 126) rfl))) h1⟩
set_option maxRecDepth 20000 in
theorem st_18 {args : Array Value} {s : State} (hts : ∀ w ∈ lw_tbl, w.before args s = true) (hgv : (Jvm.Cond.and given_1 narrow_1).before args s = true) : ∃ a : Nat, vk_R "TurnLine" 243 "no capacity would be left" a s := by
  obtain ⟨a, h1⟩ := so_ref (nr_84 hgv)
  exact ⟨a, vk_R.of (hts _ (tb_4 _ (List.mem_of_getElem? (i := 134) rfl))) h1⟩
set_option maxRecDepth 20000 in
theorem st_19 {args : Array Value} {s : State} (hts : ∀ w ∈ lw_tbl, w.before args s = true) (hgv : (Jvm.Cond.and given_1 narrow_1).before args s = true) : ∃ a : Nat, vk_R "TurnLine" 245 "it cannot have more capacity" a s := by
  obtain ⟨a, h1⟩ := so_ref (nr_85 hgv)
  exact ⟨a, vk_R.of (hts _ (tb_4 _ (List.mem_of_getElem? (i := 142) rfl))) h1⟩
set_option maxRecDepth 20000 in
theorem st_20 {args : Array Value} {s : State} (hts : ∀ w ∈ lw_tbl, w.before args s = true) (hgv : (Jvm.Cond.and given_1 narrow_1).before args s = true) : ∃ a : Nat, vk_R "TurnLine" 247 "it cannot be told to be lost" a s := by
  obtain ⟨a, h1⟩ := so_ref (nr_86 hgv)
  exact ⟨a, vk_R.of (hts _ (tb_4 _ (List.mem_of_getElem? (i := 150) rfl))) h1⟩
set_option maxRecDepth 20000 in
theorem st_21 {args : Array Value} {s : State} (hts : ∀ w ∈ lw_tbl, w.before args s = true) (hgv : (Jvm.Cond.and given_1 narrow_1).before args s = true) : ∃ a : Nat, vk_R "TurnLine" 252 "no such burst or silence" a s := by
  obtain ⟨a, h1⟩ := so_ref (nr_87 hgv)
  exact ⟨a, vk_R.of (hts _ (tb_4 _ (List.mem_of_getElem? (i := 159) rfl))) h1⟩
set_option maxRecDepth 20000 in
theorem st_22 {args : Array Value} {s : State} (hts : ∀ w ∈ lw_tbl, w.before args s = true) (hgv : (Jvm.Cond.and given_1 narrow_1).before args s = true) : ∃ a : Nat, vk_R "TurnLine" 254 "too many frames altogether" a s := by
  obtain ⟨a, h1⟩ := so_ref (nr_88 hgv)
  exact ⟨a, vk_R.of (hts _ (tb_4 _ (List.mem_of_getElem? (i := 167) rfl))) h1⟩
set_option maxRecDepth 20000 in
theorem st_23 {args : Array Value} {s : State} (hts : ∀ w ∈ lw_tbl, w.before args s = true) (hgv : (Jvm.Cond.and given_1 narrow_1).before args s = true) : ∃ a : Nat, vk_R "TurnLine" 271 "no such station" a s := by
  obtain ⟨a, h1⟩ := so_ref (nr_89 hgv)
  exact ⟨a, vk_R.of (hts _ (tb_4 _ (List.mem_of_getElem? (i := 8) rfl))) h1⟩
set_option maxRecDepth 20000 in
theorem st_24 {args : Array Value} {s : State} (hts : ∀ w ∈ lw_tbl, w.before args s = true) (hgv : (Jvm.Cond.and given_1 narrow_1).before args s = true) : ∃ a : Nat, vk_R "TurnLine" 273 "no such number" a s := by
  obtain ⟨a, h1⟩ := so_ref (nr_90 hgv)
  exact ⟨a, vk_R.of (hts _ (tb_4 _ (List.mem_of_getElem? (i := 121) rfl))) h1⟩
set_option maxRecDepth 20000 in
theorem st_25 {args : Array Value} {s : State} (hts : ∀ w ∈ lw_tbl, w.before args s = true) (hgv : (Jvm.Cond.and given_1 narrow_1).before args s = true) : ∃ a : Nat, vk_R "TurnLine" 275 "no such frame" a s := by
  obtain ⟨a, h1⟩ := so_ref (nr_91 hgv)
  exact ⟨a, vk_R.of (hts _ (tb_4 _ (List.mem_of_getElem? (i := 64) rfl))) h1⟩
set_option maxRecDepth 20000 in
theorem st_all {args : Array Value} {s : State} (hts : ∀ w ∈ lw_tbl, w.before args s = true) (hgv : (Jvm.Cond.and given_1 narrow_1).before args s = true) {A : Nat → Prop} (hA : ∀ a : Nat, a < s.heap.size → ¬ A a) : ∃ K : Nat → Nat, (∀ (i : Nat) (q : String × Nat × String), strT[i]? = some q → vk_R q.1 q.2.1 q.2.2 (K i) s) ∧ ∀ (i : Nat) (b : List Int32), strB[i]? = some b → strO (K i) (K (100 + i)) b A s := by
  have h0 : ∀ i : Nat, ∃ p : Nat × Nat, (∀ q : String × Nat × String, strT[i]? = some q → vk_R q.1 q.2.1 q.2.2 p.1 s) ∧ ∀ b : List Int32, strB[i]? = some b → strO p.1 p.2 b A s := by
    intro i
    match i with
    | 0 => obtain ⟨a, v, h1, h2⟩ := st_0 hts hgv hA; exact ⟨(a, v), fun q h => by cases h; exact h1, fun b h => by cases h; exact h2⟩
    | 1 => obtain ⟨a, v, h1, h2⟩ := st_1 hts hgv hA; exact ⟨(a, v), fun q h => by cases h; exact h1, fun b h => by cases h; exact h2⟩
    | 2 => obtain ⟨a, v, h1, h2⟩ := st_2 hts hgv hA; exact ⟨(a, v), fun q h => by cases h; exact h1, fun b h => by cases h; exact h2⟩
    | 3 => obtain ⟨a, v, h1, h2⟩ := st_3 hts hgv hA; exact ⟨(a, v), fun q h => by cases h; exact h1, fun b h => by cases h; exact h2⟩
    | 4 => obtain ⟨a, v, h1, h2⟩ := st_4 hts hgv hA; exact ⟨(a, v), fun q h => by cases h; exact h1, fun b h => by cases h; exact h2⟩
    | 5 => obtain ⟨a, v, h1, h2⟩ := st_5 hts hgv hA; exact ⟨(a, v), fun q h => by cases h; exact h1, fun b h => by cases h; exact h2⟩
    | 6 => obtain ⟨a, v, h1, h2⟩ := st_6 hts hgv hA; exact ⟨(a, v), fun q h => by cases h; exact h1, fun b h => by cases h; exact h2⟩
    | 7 => obtain ⟨a, v, h1, h2⟩ := st_7 hts hgv hA; exact ⟨(a, v), fun q h => by cases h; exact h1, fun b h => by cases h; exact h2⟩
    | 8 => obtain ⟨a, h1⟩ := st_8 hts hgv; exact ⟨(a, 0), fun q h => by cases h; exact h1, fun b h => by simp [strB] at h⟩
    | 9 => obtain ⟨a, h1⟩ := st_9 hts hgv; exact ⟨(a, 0), fun q h => by cases h; exact h1, fun b h => by simp [strB] at h⟩
    | 10 => obtain ⟨a, h1⟩ := st_10 hts hgv; exact ⟨(a, 0), fun q h => by cases h; exact h1, fun b h => by simp [strB] at h⟩
    | 11 => obtain ⟨a, h1⟩ := st_11 hts hgv; exact ⟨(a, 0), fun q h => by cases h; exact h1, fun b h => by simp [strB] at h⟩
    | 12 => obtain ⟨a, h1⟩ := st_12 hts hgv; exact ⟨(a, 0), fun q h => by cases h; exact h1, fun b h => by simp [strB] at h⟩
    | 13 => obtain ⟨a, h1⟩ := st_13 hts hgv; exact ⟨(a, 0), fun q h => by cases h; exact h1, fun b h => by simp [strB] at h⟩
    | 14 => obtain ⟨a, h1⟩ := st_14 hts hgv; exact ⟨(a, 0), fun q h => by cases h; exact h1, fun b h => by simp [strB] at h⟩
    | 15 => obtain ⟨a, h1⟩ := st_15 hts hgv; exact ⟨(a, 0), fun q h => by cases h; exact h1, fun b h => by simp [strB] at h⟩
    | 16 => obtain ⟨a, h1⟩ := st_16 hts hgv; exact ⟨(a, 0), fun q h => by cases h; exact h1, fun b h => by simp [strB] at h⟩
    | 17 => obtain ⟨a, h1⟩ := st_17 hts hgv; exact ⟨(a, 0), fun q h => by cases h; exact h1, fun b h => by simp [strB] at h⟩
    | 18 => obtain ⟨a, h1⟩ := st_18 hts hgv; exact ⟨(a, 0), fun q h => by cases h; exact h1, fun b h => by simp [strB] at h⟩
    | 19 => obtain ⟨a, h1⟩ := st_19 hts hgv; exact ⟨(a, 0), fun q h => by cases h; exact h1, fun b h => by simp [strB] at h⟩
    | 20 => obtain ⟨a, h1⟩ := st_20 hts hgv; exact ⟨(a, 0), fun q h => by cases h; exact h1, fun b h => by simp [strB] at h⟩
    | 21 => obtain ⟨a, h1⟩ := st_21 hts hgv; exact ⟨(a, 0), fun q h => by cases h; exact h1, fun b h => by simp [strB] at h⟩
    | 22 => obtain ⟨a, h1⟩ := st_22 hts hgv; exact ⟨(a, 0), fun q h => by cases h; exact h1, fun b h => by simp [strB] at h⟩
    | 23 => obtain ⟨a, h1⟩ := st_23 hts hgv; exact ⟨(a, 0), fun q h => by cases h; exact h1, fun b h => by simp [strB] at h⟩
    | 24 => obtain ⟨a, h1⟩ := st_24 hts hgv; exact ⟨(a, 0), fun q h => by cases h; exact h1, fun b h => by simp [strB] at h⟩
    | 25 => obtain ⟨a, h1⟩ := st_25 hts hgv; exact ⟨(a, 0), fun q h => by cases h; exact h1, fun b h => by simp [strB] at h⟩
    | n + 26 => exact ⟨(0, 0), fun q h => by simp [strT] at h, fun b h => by simp [strB] at h⟩
  obtain ⟨f, hf⟩ := Classical.axiomOfChoice h0
  have l1 : ∀ (i : Nat) (q : String × Nat × String), strT[i]? = some q → i < 26 := fun i q h => (List.getElem?_eq_some_iff.mp h).1
  have l2 : ∀ (i : Nat) (b : List Int32), strB[i]? = some b → i < 8 := fun i b h => (List.getElem?_eq_some_iff.mp h).1
  refine ⟨fun n => if n < 100 then (f n).1 else (f (n - 100)).2, fun i q h => ?_, fun i b h => ?_⟩
  · have := l1 i q h
    show vk_R q.1 q.2.1 q.2.2 (if i < 100 then (f i).1 else (f (i - 100)).2) s
    rw [if_pos (by omega)]
    exact (hf i).1 q h
  · have := l2 i b h
    show strO (if i < 100 then (f i).1 else (f (i - 100)).2) (if 100 + i < 100 then (f (100 + i)).1 else (f (100 + i - 100)).2) b A s
    rw [if_pos (by omega), if_neg (by omega), show 100 + i - 100 = i by omega]
    exact (hf i).2 b h
set_option maxRecDepth 20000 in
theorem nl_tl : ∀ w ∈ nestL, w ∈ lw_tbl := (List.forall_mem_cons.mpr ⟨(tb_1 _ (List.mem_of_getElem? (i := 38) rfl)), (List.forall_mem_cons.mpr ⟨(tb_1 _ (List.mem_of_getElem? (i := 87) rfl)), (List.forall_mem_cons.mpr ⟨(tb_1 _ (List.mem_of_getElem? (i := 88) rfl)), (List.forall_mem_cons.mpr ⟨(tb_1 _ (List.mem_of_getElem? (i := 89) rfl)), (List.forall_mem_cons.mpr ⟨(tb_1 _ (List.mem_of_getElem? (i := 91) rfl)), (List.forall_mem_cons.mpr ⟨(tb_1 _ (List.mem_of_getElem? (i := 92) rfl)), (List.forall_mem_cons.mpr ⟨(tb_1 _ (List.mem_of_getElem? (i := 93) rfl)), (List.forall_mem_cons.mpr ⟨(tb_1 _ (List.mem_of_getElem? (i := 95) rfl)), (List.forall_mem_cons.mpr ⟨(tb_1 _ (List.mem_of_getElem? (i := 96) rfl)), (List.forall_mem_cons.mpr ⟨(tb_1 _ (List.mem_of_getElem? (i := 98) rfl)), (List.forall_mem_cons.mpr ⟨(tb_1 _ (List.mem_of_getElem? (i := 99) rfl)), (List.forall_mem_cons.mpr ⟨(tb_1 _ (List.mem_of_getElem? (i := 101) rfl)), (List.forall_mem_cons.mpr ⟨(tb_1 _ (List.mem_of_getElem? (i := 102) rfl)), (List.forall_mem_cons.mpr ⟨(tb_1 _ (List.mem_of_getElem? (i := 103) rfl)), (List.forall_mem_cons.mpr ⟨(tb_1 _ (List.mem_of_getElem? (i := 105) rfl)), (List.forall_mem_cons.mpr ⟨(tb_1 _ (List.mem_of_getElem? (i := 108) rfl)), (List.forall_mem_cons.mpr ⟨(tb_1 _ (List.mem_of_getElem? (i := 110) rfl)), (List.forall_mem_cons.mpr ⟨(tb_1 _ (List.mem_of_getElem? (i := 111) rfl)), (List.forall_mem_cons.mpr ⟨(tb_1 _ (List.mem_of_getElem? (i := 113) rfl)), (List.forall_mem_cons.mpr ⟨(tb_1 _ (List.mem_of_getElem? (i := 114) rfl)), (List.forall_mem_cons.mpr ⟨(tb_1 _ (List.mem_of_getElem? (i := 116) rfl)), (List.forall_mem_cons.mpr ⟨(tb_1 _ (List.mem_of_getElem? (i := 147) rfl)), (List.forall_mem_cons.mpr ⟨(tb_1 _ (List.mem_of_getElem? (i := 148) rfl)), (List.forall_mem_cons.mpr ⟨(tb_1 _ (List.mem_of_getElem? (i := 150) rfl)), (List.forall_mem_cons.mpr ⟨(tb_1 _ (List.mem_of_getElem? (i := 151) rfl)), (List.forall_mem_cons.mpr ⟨(tb_1 _ (List.mem_of_getElem? (i := 153) rfl)), (List.forall_mem_cons.mpr ⟨(tb_1 _ (List.mem_of_getElem? (i := 156) rfl)), (List.forall_mem_cons.mpr ⟨(tb_1 _ (List.mem_of_getElem? (i := 157) rfl)), (List.forall_mem_cons.mpr ⟨(tb_1 _ (List.mem_of_getElem? (i := 159) rfl)), (List.forall_mem_cons.mpr ⟨(tb_1 _ (List.mem_of_getElem? (i := 160) rfl)), (List.forall_mem_cons.mpr ⟨(tb_1 _ (List.mem_of_getElem? (i := 161) rfl)), (List.forall_mem_cons.mpr ⟨(tb_1 _ (List.mem_of_getElem? (i := 163) rfl)), (List.forall_mem_cons.mpr ⟨(tb_1 _ (List.mem_of_getElem? (i := 164) rfl)), (List.forall_mem_cons.mpr ⟨(tb_1 _ (List.mem_of_getElem? (i := 165) rfl)), (List.forall_mem_cons.mpr ⟨(tb_1 _ (List.mem_of_getElem? (i := 167) rfl)), (List.forall_mem_cons.mpr ⟨(tb_1 _ (List.mem_of_getElem? (i := 169) rfl)), (List.forall_mem_cons.mpr ⟨(tb_1 _ (List.mem_of_getElem? (i := 172) rfl)), (List.forall_mem_cons.mpr ⟨(tb_1 _ (List.mem_of_getElem? (i := 206) rfl)), (List.forall_mem_cons.mpr ⟨(tb_1 _ (List.mem_of_getElem? (i := 208) rfl)), (List.forall_mem_cons.mpr ⟨(tb_1 _ (List.mem_of_getElem? (i := 209) rfl)), (List.forall_mem_cons.mpr ⟨(tb_1 _ (List.mem_of_getElem? (i := 211) rfl)), (List.forall_mem_cons.mpr ⟨(tb_1 _ (List.mem_of_getElem? (i := 212) rfl)), (List.forall_mem_cons.mpr ⟨(tb_2 _ (List.mem_of_getElem? (i := 17) rfl)), (List.forall_mem_cons.mpr ⟨(tb_2 _ (List.mem_of_getElem? (i := 32) rfl)), (List.forall_mem_cons.mpr ⟨(tb_2 _ (List.mem_of_getElem? (i := 33) rfl)), (fun _ h => absurd h List.not_mem_nil)⟩)⟩)⟩)⟩)⟩)⟩)⟩)⟩)⟩)⟩)⟩)⟩)⟩)⟩)⟩)⟩)⟩)⟩)⟩)⟩)⟩)⟩)⟩)⟩)⟩)⟩)⟩)⟩)⟩)⟩)⟩)⟩)⟩)⟩)⟩)⟩)⟩)⟩)⟩)⟩)⟩)⟩)⟩)⟩)⟩)
set_option maxRecDepth 20000 in
theorem th_tl : ∀ w ∈ thL, w ∈ lw_tbl := (List.forall_mem_cons.mpr ⟨(tb_3 _ (List.mem_of_getElem? (i := 27) rfl)), (List.forall_mem_cons.mpr ⟨(tb_4 _ (List.mem_of_getElem? (i := 1) rfl)), (List.forall_mem_cons.mpr ⟨(tb_4 _ (List.mem_of_getElem? (i := 88) rfl)), (List.forall_mem_cons.mpr ⟨(tb_3 _ (List.mem_of_getElem? (i := 29) rfl)), (List.forall_mem_cons.mpr ⟨(tb_3 _ (List.mem_of_getElem? (i := 31) rfl)), (List.forall_mem_cons.mpr ⟨(tb_3 _ (List.mem_of_getElem? (i := 33) rfl)), (fun _ h => absurd h List.not_mem_nil)⟩)⟩)⟩)⟩)⟩)⟩)
set_option maxRecDepth 20000 in
theorem nc_all {args : Array Value} {s : State} (hts : ∀ w ∈ lw_tbl, w.before args s = true) (hgv : (Jvm.Cond.and given_1 narrow_1).before args s = true) : ∀ q ∈ ncL, va_Nc q.1 q.2 s := (List.forall_mem_cons.mpr ⟨va_Nc.of (nr_97 hgv), (List.forall_mem_cons.mpr ⟨va_Nc.of (nr_96 hgv), (List.forall_mem_cons.mpr ⟨va_Nc.of (nr_95 hgv), (List.forall_mem_cons.mpr ⟨va_Nc.of (nr_94 hgv), (List.forall_mem_cons.mpr ⟨va_Nc.of (nr_93 hgv), (List.forall_mem_cons.mpr ⟨va_Nc.of (nr_92 hgv), (fun _ h => absurd h List.not_mem_nil)⟩)⟩)⟩)⟩)⟩)⟩)
set_option maxRecDepth 20000 in
theorem ex_all {args : Array Value} {s : State} (hts : ∀ w ∈ lw_tbl, w.before args s = true) (hgv : (Jvm.Cond.and given_1 narrow_1).before args s = true) {A : Nat → Prop} (hA : ∀ a : Nat, a < s.heap.size → ¬ A a) : ∃ K : Nat → Nat, exF K A s := by
  obtain ⟨K, k1, k2⟩ := st_all hts hgv hA
  exact ⟨K, ⟨⟨fun w hw => va_Nw.of (nest_on w hw) (hts w (nl_tl w hw)), va_AO.of (hts _ (tb_2 _ (List.mem_of_getElem? (i := 13) rfl)))⟩, fun w hw => va_Nw.of (thL_on w hw) (hts w (th_tl w hw)), nc_all hts hgv⟩, vx_Zqof (hts _ (tb_3 _ (List.mem_of_getElem? (i := 52) rfl))) (hts _ (tb_1 _ (List.mem_of_getElem? (i := 10) rfl))) (nr_98 hgv) hA, vx_Zqof (hts _ (tb_3 _ (List.mem_of_getElem? (i := 54) rfl))) (hts _ (tb_1 _ (List.mem_of_getElem? (i := 10) rfl))) (nr_99 hgv) hA, va_Zof (hts _ (tb_3 _ (List.mem_of_getElem? (i := 139) rfl))) (hts _ (tb_1 _ (List.mem_of_getElem? (i := 15) rfl))) (va_eqi (nr_100 hgv)) hA, va_Zqof (hts _ (tb_3 _ (List.mem_of_getElem? (i := 155) rfl))) (hts _ (tb_1 _ (List.mem_of_getElem? (i := 17) rfl))) (nr_101 hgv) hA, k1, k2⟩
set_option maxRecDepth 20000 in
theorem kl_all {args : Array Value} {s : State} (hts : ∀ w ∈ lw_tbl, w.before args s = true) (hgv : (Jvm.Cond.and given_1 narrow_1).before args s = true) : ∃ G : va_G, ∀ (c : Nat) (q : vw_C), vwCl[c]? = some q → u_Kn s q.1 q.2.1 q.2.2 (G.1 c) (G.2 c) := by
  obtain ⟨c0, i0, k0⟩ := u_known (C := RX0) (T := TX0) (N := 3) (n := 3) hts tu_0 (hts _ (tb_1 _ (List.mem_of_getElem? (i := 227) rfl)))
  obtain ⟨c1, i1, k1⟩ := u_known (C := RX1) (T := TX1) (N := 6) (n := 6) hts tu_1 (hts _ (tb_1 _ (List.mem_of_getElem? (i := 197) rfl)))
  obtain ⟨c2, i2, k2⟩ := u_known (C := RX2) (T := TX2) (N := 2) (n := 2) hts tu_2 (hts _ (tb_2 _ (List.mem_of_getElem? (i := 7) rfl)))
  obtain ⟨c3, i3, k3⟩ := u_known (C := RX3) (T := TX3) (N := 11) (n := 11) hts tu_3 (hts _ (tb_1 _ (List.mem_of_getElem? (i := 73) rfl)))
  obtain ⟨c4, i4, k4⟩ := u_known (C := RX4) (T := TX4) (N := 2) (n := 2) hts tu_4 (hts _ (tb_2 _ (List.mem_of_getElem? (i := 24) rfl)))
  obtain ⟨c5, i5, k5⟩ := u_known (C := RX5) (T := TX5) (N := 13) (n := 13) hts tu_5 (hts _ (tb_1 _ (List.mem_of_getElem? (i := 79) rfl)))
  obtain ⟨c6, i6, k6⟩ := u_known (C := RX6) (T := TX6) (N := 11) (n := 11) hts tu_6 (hts _ (tb_1 _ (List.mem_of_getElem? (i := 31) rfl)))
  obtain ⟨c7, i7, k7⟩ := u_known (C := RX7) (T := TX7) (N := 9) (n := 9) hts tu_7 (hts _ (tb_1 _ (List.mem_of_getElem? (i := 23) rfl)))
  obtain ⟨c8, i8, k8⟩ := u_known (C := RX8) (T := TX8) (N := 27) (n := 27) hts tu_8 (hts _ (tb_4 _ (List.mem_of_getElem? (i := 170) rfl)))
  refine ⟨(fun k => if k = 0 then c0 else if k = 1 then c1 else if k = 2 then c2 else if k = 3 then c3 else if k = 4 then c4 else if k = 5 then c5 else if k = 6 then c6 else if k = 7 then c7 else c8, fun k => if k = 0 then i0 else if k = 1 then i1 else if k = 2 then i2 else if k = 3 then i3 else if k = 4 then i4 else if k = 5 then i5 else if k = 6 then i6 else if k = 7 then i7 else i8), fun c q hq => ?_⟩
  match c, hq with
  | 0, hq => cases hq; exact k0
  | 1, hq => cases hq; exact k1
  | 2, hq => cases hq; exact k2
  | 3, hq => cases hq; exact k3
  | 4, hq => cases hq; exact k4
  | 5, hq => cases hq; exact k5
  | 6, hq => cases hq; exact k6
  | 7, hq => cases hq; exact k7
  | 8, hq => cases hq; exact k8
  | n + 9, hq => exact absurd hq (by simp [vwCl])
set_option maxRecDepth 20000 in
theorem ka_all {args : Array Value} {s : State} (hts : ∀ w ∈ lw_tbl, w.before args s = true) (hgv : (Jvm.Cond.and given_1 narrow_1).before args s = true) : ∃ g : Nat → ClassId, ∀ (k : Nat) (q : ClassId × FieldType), ([(g 0, .byte), (g 1, .int), (g 2, .long), (g 3, .boolean), (g 4, .object "TurnLine$Line")] : List (ClassId × FieldType))[k]? = some q → ArrOfT s q.1 q.2 ∧ va_RA s q.1 q.2 := by
  obtain ⟨a0, h0⟩ := ak_of (ty := .byte) (fun C h => by cases h) (hts _ (tb_1 _ (List.mem_of_getElem? (i := 71) rfl)))
  obtain ⟨a1, h1⟩ := ak_of (ty := .int) (fun C h => by cases h) (hts _ (tb_1 _ (List.mem_of_getElem? (i := 144) rfl)))
  obtain ⟨a2, h2⟩ := ak_of (ty := .long) (fun C h => by cases h) (hts _ (tb_1 _ (List.mem_of_getElem? (i := 145) rfl)))
  obtain ⟨a3, h3⟩ := ak_of (ty := .boolean) (fun C h => by cases h) (hts _ (tb_5 _ (List.mem_of_getElem? (i := 32) rfl)))
  obtain ⟨a4, h4⟩ := ak_obj (C := "TurnLine$Line") (va_AO.of (hts _ (tb_2 _ (List.mem_of_getElem? (i := 13) rfl))))
  refine ⟨fun k => if k = 0 then a0 else if k = 1 then a1 else if k = 2 then a2 else if k = 3 then a3 else a4, fun k q hq => ?_⟩
  match k, hq with
  | 0, hq => cases hq; exact h0
  | 1, hq => cases hq; exact h1
  | 2, hq => cases hq; exact h2
  | 3, hq => cases hq; exact h3
  | 4, hq => cases hq; exact h4
  | n + 5, hq => exact absurd hq (by simp)
/-- the classes, the constants, the statics at the law's entry -/
theorem lw_ext {args : Array Value} {s : State} (hts : ∀ w ∈ lw_tbl, w.before args s = true) (hgv : (Jvm.Cond.and given_1 narrow_1).before args s = true) {A : Nat → Prop} (hA : ∀ a : Nat, a < s.heap.size → ¬ A a) : ∃ G : GG, va_K G.1.1 vwCl (gtys G) s ∧ exF G.1.2 A s := by
  obtain ⟨D, hD⟩ := kl_all hts hgv
  obtain ⟨g, hg⟩ := ka_all hts hgv
  obtain ⟨K, hK⟩ := ex_all hts hgv hA
  exact ⟨((D, K), g), ⟨hD, hg⟩, hK⟩
end ExtL
