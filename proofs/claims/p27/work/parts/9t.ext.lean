section ExtL
theorem an_l {a b : Jvm.Cond} {args : Array Value} {s : State} (h : (Jvm.Cond.and a b).before args s = true) : a.before args s = true := by
  rw [Cond.before_and, Bool.and_eq_true] at h
  exact h.1
theorem an_r {a b : Jvm.Cond} {args : Array Value} {s : State} (h : (Jvm.Cond.and a b).before args s = true) : b.before args s = true := by
  rw [Cond.before_and, Bool.and_eq_true] at h
  exact h.2
theorem so_one {args : Array Value} {s : State} {tm : Term} {b : List Int32} {A : Nat → Prop} (hN : b.length < 2 ^ 31) (hex : (Cond.exactly tm "java/lang/String").before args s = true) (hco : (Cond.eq (.field tm "java/lang/String" "coder" "B") (.int 0)).before args s = true) (har : (Cond.arrayOf (.field tm "java/lang/String" "value" "[B") .byte).before args s = true) (hle : (Cond.eq (.length (.field tm "java/lang/String" "value" "[B")) (.int (Int32.ofNat b.length))).before args s = true) (hel : ∀ j : Nat, j < b.length → (Cond.eq (.elem (.field tm "java/lang/String" "value" "[B") (.int (Int32.ofNat j))) (.int (b.getD j 0))).before args s = true) (hA : ∀ a : Nat, a < s.heap.size → ¬ A a) : ∃ a v : Nat, tm.eval args s none [] s = some (.ref a) ∧ strO a v b A s := by
  obtain ⟨a, c, cA, kA, q1, q2, q3, q4, q5, q6, -⟩ := Cond.exactly_spec (args := args) (first := s) (o := none) (s := s) (idx := []) (t := tm) (cls := "java/lang/String") hex
  obtain ⟨t, ht, hT⟩ := va_Tof (f := fun j => .int (b.getD j 0)) (A := A) hN har (va_eqt hle) (fun j hj => va_eqt (hel j hj)) hA
  exact ⟨a, t, q1, ⟨cA, q3, q5, by rw [q6]; exact q2, hA a (Array.getElem?_eq_some_iff.mp q3).1⟩, vk_OFof q1 (va_eqt hco) hA, vk_OFof q1 ht hA, hT⟩
theorem so_ref {args : Array Value} {s : State} {tm : Term} (hex : (Cond.exactly tm "java/lang/String").before args s = true) : ∃ a : Nat, tm.eval args s none [] s = some (.ref a) := by
  obtain ⟨a, c, cA, kA, q1, -⟩ := Cond.exactly_spec (args := args) (first := s) (o := none) (s := s) (idx := []) (t := tm) (cls := "java/lang/String") hex
  exact ⟨a, q1⟩
theorem ak_of {s : State} {args : Array Value} {ty : FieldType} (hty : ∀ C, ty ≠ .object C) (h : (Cond.arrayClass ty).before args s = true) : ∃ c : ClassId, ArrOfT s c ty ∧ va_RA s c ty := by
  obtain ⟨c, k, comp, h1, h2, h3⟩ := Cond.arrayClass_spec (args := args) (first := s) (o := none) (s := s) (idx := []) h
  refine ⟨c, fun n z => ⟨fun k h => (by cases h), k, h2, comp, h3⟩, ?_⟩
  cases ty with
  | object C => exact absurd rfl (hty C)
  | _ => exact h1
theorem ak_obj {s : State} {C : String} (h : va_AO C s) : ∃ c : ClassId, ArrOfT s c (.object C) ∧ va_RA s c (.object C) := by
  obtain ⟨comp, c, k, h1, h2, h3, h4, h5⟩ := Cond.arrayOver_spec h
  exact ⟨c, fun n z => ⟨fun k h => (by cases h), k, h3, comp, h4⟩, k, comp, h3, h4, h1, h5⟩
set_option maxRecDepth 20000 in
theorem nr_0 {args : Array Value} {s : State} (h : (Jvm.Cond.and given_1 narrow_1).before args s = true) : Cond.before (Jvm.Cond.exactly (Jvm.Term.string "TurnLine$TextReader" (38 : Nat)) "java/lang/String") args s = true := (an_r (an_r (an_r (an_r (an_r (an_r (an_r (an_r (an_r (an_l (an_r h)))))))))))
set_option maxRecDepth 20000 in
theorem nr_1 {args : Array Value} {s : State} (h : (Jvm.Cond.and given_1 narrow_1).before args s = true) : Cond.before (Jvm.Cond.eq (Jvm.Term.field (Jvm.Term.string "TurnLine$TextReader" (38 : Nat)) "java/lang/String" "coder" "B") (Jvm.Term.int (0 : Int32))) args s = true := (an_l (an_l (an_l (an_l (an_l (an_l (an_l (an_l (an_r (an_r h))))))))))
set_option maxRecDepth 20000 in
theorem nr_2 {args : Array Value} {s : State} (h : (Jvm.Cond.and given_1 narrow_1).before args s = true) : Cond.before (Jvm.Cond.arrayOf (Jvm.Term.field (Jvm.Term.string "TurnLine$TextReader" (38 : Nat)) "java/lang/String" "value" "[B") Jvm.ClassFile.FieldType.byte) args s = true := (an_r (an_l (an_l (an_l (an_l (an_l (an_l (an_l (an_r (an_r h))))))))))
set_option maxRecDepth 20000 in
theorem nr_3 {args : Array Value} {s : State} (h : (Jvm.Cond.and given_1 narrow_1).before args s = true) : Cond.before (Jvm.Cond.eq (Jvm.Term.length (Jvm.Term.field (Jvm.Term.string "TurnLine$TextReader" (38 : Nat)) "java/lang/String" "value" "[B")) (Jvm.Term.int (4 : Int32))) args s = true := (an_l (an_r (an_l (an_l (an_l (an_l (an_l (an_l (an_r (an_r h))))))))))
set_option maxRecDepth 20000 in
theorem nr_4 {args : Array Value} {s : State} (h : (Jvm.Cond.and given_1 narrow_1).before args s = true) : Cond.before (Jvm.Cond.eq (Jvm.Term.elem (Jvm.Term.field (Jvm.Term.string "TurnLine$TextReader" (38 : Nat)) "java/lang/String" "value" "[B") (Jvm.Term.int (0 : Int32))) (Jvm.Term.int (108 : Int32))) args s = true := (an_l (an_r (an_r (an_l (an_l (an_l (an_l (an_l (an_l (an_r (an_r h)))))))))))
set_option maxRecDepth 20000 in
theorem nr_5 {args : Array Value} {s : State} (h : (Jvm.Cond.and given_1 narrow_1).before args s = true) : Cond.before (Jvm.Cond.eq (Jvm.Term.elem (Jvm.Term.field (Jvm.Term.string "TurnLine$TextReader" (38 : Nat)) "java/lang/String" "value" "[B") (Jvm.Term.int (1 : Int32))) (Jvm.Term.int (105 : Int32))) args s = true := (an_r (an_r (an_r (an_l (an_l (an_l (an_l (an_l (an_l (an_r (an_r h)))))))))))
set_option maxRecDepth 20000 in
theorem nr_6 {args : Array Value} {s : State} (h : (Jvm.Cond.and given_1 narrow_1).before args s = true) : Cond.before (Jvm.Cond.eq (Jvm.Term.elem (Jvm.Term.field (Jvm.Term.string "TurnLine$TextReader" (38 : Nat)) "java/lang/String" "value" "[B") (Jvm.Term.int (2 : Int32))) (Jvm.Term.int (110 : Int32))) args s = true := (an_l (an_l (an_r (an_l (an_l (an_l (an_l (an_l (an_r (an_r h))))))))))
set_option maxRecDepth 20000 in
theorem nr_7 {args : Array Value} {s : State} (h : (Jvm.Cond.and given_1 narrow_1).before args s = true) : Cond.before (Jvm.Cond.eq (Jvm.Term.elem (Jvm.Term.field (Jvm.Term.string "TurnLine$TextReader" (38 : Nat)) "java/lang/String" "value" "[B") (Jvm.Term.int (3 : Int32))) (Jvm.Term.int (101 : Int32))) args s = true := (an_l (an_r (an_l (an_r (an_l (an_l (an_l (an_l (an_l (an_r (an_r h)))))))))))
set_option maxRecDepth 20000 in
theorem nr_8 {args : Array Value} {s : State} (h : (Jvm.Cond.and given_1 narrow_1).before args s = true) : Cond.before (Jvm.Cond.exactly (Jvm.Term.string "TurnLine$TextReader" (81 : Nat)) "java/lang/String") args s = true := (an_r (an_r (an_r (an_l (an_r (an_l (an_l (an_l (an_l (an_r (an_r h)))))))))))
set_option maxRecDepth 20000 in
theorem nr_9 {args : Array Value} {s : State} (h : (Jvm.Cond.and given_1 narrow_1).before args s = true) : Cond.before (Jvm.Cond.eq (Jvm.Term.field (Jvm.Term.string "TurnLine$TextReader" (81 : Nat)) "java/lang/String" "coder" "B") (Jvm.Term.int (0 : Int32))) args s = true := (an_l (an_l (an_r (an_r (an_l (an_l (an_l (an_l (an_r (an_r h))))))))))
set_option maxRecDepth 20000 in
theorem nr_10 {args : Array Value} {s : State} (h : (Jvm.Cond.and given_1 narrow_1).before args s = true) : Cond.before (Jvm.Cond.arrayOf (Jvm.Term.field (Jvm.Term.string "TurnLine$TextReader" (81 : Nat)) "java/lang/String" "value" "[B") Jvm.ClassFile.FieldType.byte) args s = true := (an_l (an_r (an_l (an_r (an_r (an_l (an_l (an_l (an_l (an_r (an_r h)))))))))))
set_option maxRecDepth 20000 in
theorem nr_11 {args : Array Value} {s : State} (h : (Jvm.Cond.and given_1 narrow_1).before args s = true) : Cond.before (Jvm.Cond.eq (Jvm.Term.length (Jvm.Term.field (Jvm.Term.string "TurnLine$TextReader" (81 : Nat)) "java/lang/String" "value" "[B")) (Jvm.Term.int (6 : Int32))) args s = true := (an_r (an_r (an_l (an_r (an_r (an_l (an_l (an_l (an_l (an_r (an_r h)))))))))))
set_option maxRecDepth 20000 in
theorem nr_12 {args : Array Value} {s : State} (h : (Jvm.Cond.and given_1 narrow_1).before args s = true) : Cond.before (Jvm.Cond.eq (Jvm.Term.elem (Jvm.Term.field (Jvm.Term.string "TurnLine$TextReader" (81 : Nat)) "java/lang/String" "value" "[B") (Jvm.Term.int (0 : Int32))) (Jvm.Term.int (119 : Int32))) args s = true := (an_l (an_r (an_r (an_r (an_l (an_l (an_l (an_l (an_r (an_r h))))))))))
set_option maxRecDepth 20000 in
theorem nr_13 {args : Array Value} {s : State} (h : (Jvm.Cond.and given_1 narrow_1).before args s = true) : Cond.before (Jvm.Cond.eq (Jvm.Term.elem (Jvm.Term.field (Jvm.Term.string "TurnLine$TextReader" (81 : Nat)) "java/lang/String" "value" "[B") (Jvm.Term.int (1 : Int32))) (Jvm.Term.int (105 : Int32))) args s = true := (an_l (an_r (an_r (an_r (an_r (an_l (an_l (an_l (an_l (an_r (an_r h)))))))))))
set_option maxRecDepth 20000 in
theorem nr_14 {args : Array Value} {s : State} (h : (Jvm.Cond.and given_1 narrow_1).before args s = true) : Cond.before (Jvm.Cond.eq (Jvm.Term.elem (Jvm.Term.field (Jvm.Term.string "TurnLine$TextReader" (81 : Nat)) "java/lang/String" "value" "[B") (Jvm.Term.int (2 : Int32))) (Jvm.Term.int (110 : Int32))) args s = true := (an_r (an_r (an_r (an_r (an_r (an_l (an_l (an_l (an_l (an_r (an_r h)))))))))))
set_option maxRecDepth 20000 in
theorem nr_15 {args : Array Value} {s : State} (h : (Jvm.Cond.and given_1 narrow_1).before args s = true) : Cond.before (Jvm.Cond.eq (Jvm.Term.elem (Jvm.Term.field (Jvm.Term.string "TurnLine$TextReader" (81 : Nat)) "java/lang/String" "value" "[B") (Jvm.Term.int (3 : Int32))) (Jvm.Term.int (100 : Int32))) args s = true := (an_l (an_l (an_l (an_l (an_r (an_l (an_l (an_l (an_r (an_r h))))))))))
set_option maxRecDepth 20000 in
theorem nr_16 {args : Array Value} {s : State} (h : (Jvm.Cond.and given_1 narrow_1).before args s = true) : Cond.before (Jvm.Cond.eq (Jvm.Term.elem (Jvm.Term.field (Jvm.Term.string "TurnLine$TextReader" (81 : Nat)) "java/lang/String" "value" "[B") (Jvm.Term.int (4 : Int32))) (Jvm.Term.int (111 : Int32))) args s = true := (an_l (an_r (an_l (an_l (an_l (an_r (an_l (an_l (an_l (an_r (an_r h)))))))))))
set_option maxRecDepth 20000 in
theorem nr_17 {args : Array Value} {s : State} (h : (Jvm.Cond.and given_1 narrow_1).before args s = true) : Cond.before (Jvm.Cond.eq (Jvm.Term.elem (Jvm.Term.field (Jvm.Term.string "TurnLine$TextReader" (81 : Nat)) "java/lang/String" "value" "[B") (Jvm.Term.int (5 : Int32))) (Jvm.Term.int (119 : Int32))) args s = true := (an_r (an_r (an_l (an_l (an_l (an_r (an_l (an_l (an_l (an_r (an_r h)))))))))))
set_option maxRecDepth 20000 in
theorem nr_18 {args : Array Value} {s : State} (h : (Jvm.Cond.and given_1 narrow_1).before args s = true) : Cond.before (Jvm.Cond.exactly (Jvm.Term.string "TurnLine$TextReader" (90 : Nat)) "java/lang/String") args s = true := (an_l (an_r (an_l (an_l (an_r (an_r (an_l (an_l (an_l (an_r (an_r h)))))))))))
set_option maxRecDepth 20000 in
theorem nr_19 {args : Array Value} {s : State} (h : (Jvm.Cond.and given_1 narrow_1).before args s = true) : Cond.before (Jvm.Cond.eq (Jvm.Term.field (Jvm.Term.string "TurnLine$TextReader" (90 : Nat)) "java/lang/String" "coder" "B") (Jvm.Term.int (0 : Int32))) args s = true := (an_r (an_r (an_l (an_l (an_r (an_r (an_l (an_l (an_l (an_r (an_r h)))))))))))
set_option maxRecDepth 20000 in
theorem nr_20 {args : Array Value} {s : State} (h : (Jvm.Cond.and given_1 narrow_1).before args s = true) : Cond.before (Jvm.Cond.arrayOf (Jvm.Term.field (Jvm.Term.string "TurnLine$TextReader" (90 : Nat)) "java/lang/String" "value" "[B") Jvm.ClassFile.FieldType.byte) args s = true := (an_l (an_r (an_l (an_r (an_r (an_l (an_l (an_l (an_r (an_r h))))))))))
set_option maxRecDepth 20000 in
theorem nr_21 {args : Array Value} {s : State} (h : (Jvm.Cond.and given_1 narrow_1).before args s = true) : Cond.before (Jvm.Cond.eq (Jvm.Term.length (Jvm.Term.field (Jvm.Term.string "TurnLine$TextReader" (90 : Nat)) "java/lang/String" "value" "[B")) (Jvm.Term.int (7 : Int32))) args s = true := (an_l (an_r (an_r (an_l (an_r (an_r (an_l (an_l (an_l (an_r (an_r h)))))))))))
set_option maxRecDepth 20000 in
theorem nr_22 {args : Array Value} {s : State} (h : (Jvm.Cond.and given_1 narrow_1).before args s = true) : Cond.before (Jvm.Cond.eq (Jvm.Term.elem (Jvm.Term.field (Jvm.Term.string "TurnLine$TextReader" (90 : Nat)) "java/lang/String" "value" "[B") (Jvm.Term.int (0 : Int32))) (Jvm.Term.int (109 : Int32))) args s = true := (an_r (an_r (an_r (an_l (an_r (an_r (an_l (an_l (an_l (an_r (an_r h)))))))))))
set_option maxRecDepth 20000 in
theorem nr_23 {args : Array Value} {s : State} (h : (Jvm.Cond.and given_1 narrow_1).before args s = true) : Cond.before (Jvm.Cond.eq (Jvm.Term.elem (Jvm.Term.field (Jvm.Term.string "TurnLine$TextReader" (90 : Nat)) "java/lang/String" "value" "[B") (Jvm.Term.int (1 : Int32))) (Jvm.Term.int (101 : Int32))) args s = true := (an_l (an_l (an_r (an_r (an_r (an_l (an_l (an_l (an_r (an_r h))))))))))
set_option maxRecDepth 20000 in
theorem nr_24 {args : Array Value} {s : State} (h : (Jvm.Cond.and given_1 narrow_1).before args s = true) : Cond.before (Jvm.Cond.eq (Jvm.Term.elem (Jvm.Term.field (Jvm.Term.string "TurnLine$TextReader" (90 : Nat)) "java/lang/String" "value" "[B") (Jvm.Term.int (2 : Int32))) (Jvm.Term.int (115 : Int32))) args s = true := (an_l (an_r (an_l (an_r (an_r (an_r (an_l (an_l (an_l (an_r (an_r h)))))))))))
set_option maxRecDepth 20000 in
theorem nr_25 {args : Array Value} {s : State} (h : (Jvm.Cond.and given_1 narrow_1).before args s = true) : Cond.before (Jvm.Cond.eq (Jvm.Term.elem (Jvm.Term.field (Jvm.Term.string "TurnLine$TextReader" (90 : Nat)) "java/lang/String" "value" "[B") (Jvm.Term.int (3 : Int32))) (Jvm.Term.int (115 : Int32))) args s = true := (an_r (an_r (an_l (an_r (an_r (an_r (an_l (an_l (an_l (an_r (an_r h)))))))))))
set_option maxRecDepth 20000 in
theorem nr_26 {args : Array Value} {s : State} (h : (Jvm.Cond.and given_1 narrow_1).before args s = true) : Cond.before (Jvm.Cond.eq (Jvm.Term.elem (Jvm.Term.field (Jvm.Term.string "TurnLine$TextReader" (90 : Nat)) "java/lang/String" "value" "[B") (Jvm.Term.int (4 : Int32))) (Jvm.Term.int (97 : Int32))) args s = true := (an_l (an_r (an_r (an_r (an_r (an_l (an_l (an_l (an_r (an_r h))))))))))
set_option maxRecDepth 20000 in
theorem nr_27 {args : Array Value} {s : State} (h : (Jvm.Cond.and given_1 narrow_1).before args s = true) : Cond.before (Jvm.Cond.eq (Jvm.Term.elem (Jvm.Term.field (Jvm.Term.string "TurnLine$TextReader" (90 : Nat)) "java/lang/String" "value" "[B") (Jvm.Term.int (5 : Int32))) (Jvm.Term.int (103 : Int32))) args s = true := (an_l (an_r (an_r (an_r (an_r (an_r (an_l (an_l (an_l (an_r (an_r h)))))))))))
set_option maxRecDepth 20000 in
theorem nr_28 {args : Array Value} {s : State} (h : (Jvm.Cond.and given_1 narrow_1).before args s = true) : Cond.before (Jvm.Cond.eq (Jvm.Term.elem (Jvm.Term.field (Jvm.Term.string "TurnLine$TextReader" (90 : Nat)) "java/lang/String" "value" "[B") (Jvm.Term.int (6 : Int32))) (Jvm.Term.int (101 : Int32))) args s = true := (an_r (an_r (an_r (an_r (an_r (an_r (an_l (an_l (an_l (an_r (an_r h)))))))))))
set_option maxRecDepth 20000 in
theorem nr_29 {args : Array Value} {s : State} (h : (Jvm.Cond.and given_1 narrow_1).before args s = true) : Cond.before (Jvm.Cond.exactly (Jvm.Term.string "TurnLine$TextReader" (95 : Nat)) "java/lang/String") args s = true := (an_l (an_l (an_l (an_r (an_l (an_r (an_l (an_l (an_r (an_r h))))))))))
set_option maxRecDepth 20000 in
theorem nr_30 {args : Array Value} {s : State} (h : (Jvm.Cond.and given_1 narrow_1).before args s = true) : Cond.before (Jvm.Cond.eq (Jvm.Term.field (Jvm.Term.string "TurnLine$TextReader" (95 : Nat)) "java/lang/String" "coder" "B") (Jvm.Term.int (0 : Int32))) args s = true := (an_l (an_r (an_l (an_l (an_r (an_l (an_r (an_l (an_l (an_r (an_r h)))))))))))
set_option maxRecDepth 20000 in
theorem nr_31 {args : Array Value} {s : State} (h : (Jvm.Cond.and given_1 narrow_1).before args s = true) : Cond.before (Jvm.Cond.arrayOf (Jvm.Term.field (Jvm.Term.string "TurnLine$TextReader" (95 : Nat)) "java/lang/String" "value" "[B") Jvm.ClassFile.FieldType.byte) args s = true := (an_r (an_r (an_l (an_l (an_r (an_l (an_r (an_l (an_l (an_r (an_r h)))))))))))
set_option maxRecDepth 20000 in
theorem nr_32 {args : Array Value} {s : State} (h : (Jvm.Cond.and given_1 narrow_1).before args s = true) : Cond.before (Jvm.Cond.eq (Jvm.Term.length (Jvm.Term.field (Jvm.Term.string "TurnLine$TextReader" (95 : Nat)) "java/lang/String" "value" "[B")) (Jvm.Term.int (4 : Int32))) args s = true := (an_l (an_r (an_l (an_r (an_l (an_r (an_l (an_l (an_r (an_r h))))))))))
set_option maxRecDepth 20000 in
theorem nr_33 {args : Array Value} {s : State} (h : (Jvm.Cond.and given_1 narrow_1).before args s = true) : Cond.before (Jvm.Cond.eq (Jvm.Term.elem (Jvm.Term.field (Jvm.Term.string "TurnLine$TextReader" (95 : Nat)) "java/lang/String" "value" "[B") (Jvm.Term.int (0 : Int32))) (Jvm.Term.int (108 : Int32))) args s = true := (an_l (an_r (an_r (an_l (an_r (an_l (an_r (an_l (an_l (an_r (an_r h)))))))))))
set_option maxRecDepth 20000 in
theorem nr_34 {args : Array Value} {s : State} (h : (Jvm.Cond.and given_1 narrow_1).before args s = true) : Cond.before (Jvm.Cond.eq (Jvm.Term.elem (Jvm.Term.field (Jvm.Term.string "TurnLine$TextReader" (95 : Nat)) "java/lang/String" "value" "[B") (Jvm.Term.int (1 : Int32))) (Jvm.Term.int (111 : Int32))) args s = true := (an_r (an_r (an_r (an_l (an_r (an_l (an_r (an_l (an_l (an_r (an_r h)))))))))))
set_option maxRecDepth 20000 in
theorem nr_35 {args : Array Value} {s : State} (h : (Jvm.Cond.and given_1 narrow_1).before args s = true) : Cond.before (Jvm.Cond.eq (Jvm.Term.elem (Jvm.Term.field (Jvm.Term.string "TurnLine$TextReader" (95 : Nat)) "java/lang/String" "value" "[B") (Jvm.Term.int (2 : Int32))) (Jvm.Term.int (115 : Int32))) args s = true := (an_l (an_l (an_r (an_r (an_l (an_r (an_l (an_l (an_r (an_r h))))))))))
set_option maxRecDepth 20000 in
theorem nr_36 {args : Array Value} {s : State} (h : (Jvm.Cond.and given_1 narrow_1).before args s = true) : Cond.before (Jvm.Cond.eq (Jvm.Term.elem (Jvm.Term.field (Jvm.Term.string "TurnLine$TextReader" (95 : Nat)) "java/lang/String" "value" "[B") (Jvm.Term.int (3 : Int32))) (Jvm.Term.int (101 : Int32))) args s = true := (an_l (an_r (an_l (an_r (an_r (an_l (an_r (an_l (an_l (an_r (an_r h)))))))))))
set_option maxRecDepth 20000 in
theorem nr_37 {args : Array Value} {s : State} (h : (Jvm.Cond.and given_1 narrow_1).before args s = true) : Cond.before (Jvm.Cond.exactly (Jvm.Term.string "TurnLineLaw" (17 : Nat)) "java/lang/String") args s = true := (an_r (an_r (an_l (an_l (an_r (an_r (an_r (an_l (an_r (an_l (an_r h)))))))))))
set_option maxRecDepth 20000 in
theorem nr_38 {args : Array Value} {s : State} (h : (Jvm.Cond.and given_1 narrow_1).before args s = true) : Cond.before (Jvm.Cond.eq (Jvm.Term.field (Jvm.Term.string "TurnLineLaw" (17 : Nat)) "java/lang/String" "coder" "B") (Jvm.Term.int (0 : Int32))) args s = true := (an_l (an_r (an_l (an_r (an_r (an_r (an_l (an_r (an_l (an_r h))))))))))
set_option maxRecDepth 20000 in
theorem nr_39 {args : Array Value} {s : State} (h : (Jvm.Cond.and given_1 narrow_1).before args s = true) : Cond.before (Jvm.Cond.arrayOf (Jvm.Term.field (Jvm.Term.string "TurnLineLaw" (17 : Nat)) "java/lang/String" "value" "[B") Jvm.ClassFile.FieldType.byte) args s = true := (an_l (an_r (an_r (an_l (an_r (an_r (an_r (an_l (an_r (an_l (an_r h)))))))))))
set_option maxRecDepth 20000 in
theorem nr_40 {args : Array Value} {s : State} (h : (Jvm.Cond.and given_1 narrow_1).before args s = true) : Cond.before (Jvm.Cond.eq (Jvm.Term.length (Jvm.Term.field (Jvm.Term.string "TurnLineLaw" (17 : Nat)) "java/lang/String" "value" "[B")) (Jvm.Term.int (5 : Int32))) args s = true := (an_r (an_r (an_r (an_l (an_r (an_r (an_r (an_l (an_r (an_l (an_r h)))))))))))
set_option maxRecDepth 20000 in
theorem nr_41 {args : Array Value} {s : State} (h : (Jvm.Cond.and given_1 narrow_1).before args s = true) : Cond.before (Jvm.Cond.eq (Jvm.Term.elem (Jvm.Term.field (Jvm.Term.string "TurnLineLaw" (17 : Nat)) "java/lang/String" "value" "[B") (Jvm.Term.int (0 : Int32))) (Jvm.Term.int (108 : Int32))) args s = true := (an_l (an_l (an_r (an_r (an_r (an_r (an_l (an_r (an_l (an_r h))))))))))
set_option maxRecDepth 20000 in
theorem nr_42 {args : Array Value} {s : State} (h : (Jvm.Cond.and given_1 narrow_1).before args s = true) : Cond.before (Jvm.Cond.eq (Jvm.Term.elem (Jvm.Term.field (Jvm.Term.string "TurnLineLaw" (17 : Nat)) "java/lang/String" "value" "[B") (Jvm.Term.int (1 : Int32))) (Jvm.Term.int (105 : Int32))) args s = true := (an_l (an_r (an_l (an_r (an_r (an_r (an_r (an_l (an_r (an_l (an_r h)))))))))))
set_option maxRecDepth 20000 in
theorem nr_43 {args : Array Value} {s : State} (h : (Jvm.Cond.and given_1 narrow_1).before args s = true) : Cond.before (Jvm.Cond.eq (Jvm.Term.elem (Jvm.Term.field (Jvm.Term.string "TurnLineLaw" (17 : Nat)) "java/lang/String" "value" "[B") (Jvm.Term.int (2 : Int32))) (Jvm.Term.int (110 : Int32))) args s = true := (an_r (an_r (an_l (an_r (an_r (an_r (an_r (an_l (an_r (an_l (an_r h)))))))))))
set_option maxRecDepth 20000 in
theorem nr_44 {args : Array Value} {s : State} (h : (Jvm.Cond.and given_1 narrow_1).before args s = true) : Cond.before (Jvm.Cond.eq (Jvm.Term.elem (Jvm.Term.field (Jvm.Term.string "TurnLineLaw" (17 : Nat)) "java/lang/String" "value" "[B") (Jvm.Term.int (3 : Int32))) (Jvm.Term.int (101 : Int32))) args s = true := (an_l (an_r (an_r (an_r (an_r (an_r (an_l (an_r (an_l (an_r h))))))))))
set_option maxRecDepth 20000 in
theorem nr_45 {args : Array Value} {s : State} (h : (Jvm.Cond.and given_1 narrow_1).before args s = true) : Cond.before (Jvm.Cond.eq (Jvm.Term.elem (Jvm.Term.field (Jvm.Term.string "TurnLineLaw" (17 : Nat)) "java/lang/String" "value" "[B") (Jvm.Term.int (4 : Int32))) (Jvm.Term.int (32 : Int32))) args s = true := (an_l (an_r (an_r (an_r (an_r (an_r (an_r (an_l (an_r (an_l (an_r h)))))))))))
set_option maxRecDepth 20000 in
theorem nr_46 {args : Array Value} {s : State} (h : (Jvm.Cond.and given_1 narrow_1).before args s = true) : Cond.before (Jvm.Cond.exactly (Jvm.Term.string "TurnLineLaw" (30 : Nat)) "java/lang/String") args s = true := (an_r (an_l (an_l (an_l (an_l (an_l (an_r (an_r (an_l (an_r h))))))))))
set_option maxRecDepth 20000 in
theorem nr_47 {args : Array Value} {s : State} (h : (Jvm.Cond.and given_1 narrow_1).before args s = true) : Cond.before (Jvm.Cond.eq (Jvm.Term.field (Jvm.Term.string "TurnLineLaw" (30 : Nat)) "java/lang/String" "coder" "B") (Jvm.Term.int (0 : Int32))) args s = true := (an_l (an_r (an_l (an_l (an_l (an_l (an_r (an_r (an_l (an_r h))))))))))
set_option maxRecDepth 20000 in
theorem nr_48 {args : Array Value} {s : State} (h : (Jvm.Cond.and given_1 narrow_1).before args s = true) : Cond.before (Jvm.Cond.arrayOf (Jvm.Term.field (Jvm.Term.string "TurnLineLaw" (30 : Nat)) "java/lang/String" "value" "[B") Jvm.ClassFile.FieldType.byte) args s = true := (an_l (an_r (an_r (an_l (an_l (an_l (an_l (an_r (an_r (an_l (an_r h)))))))))))
set_option maxRecDepth 20000 in
theorem nr_49 {args : Array Value} {s : State} (h : (Jvm.Cond.and given_1 narrow_1).before args s = true) : Cond.before (Jvm.Cond.eq (Jvm.Term.length (Jvm.Term.field (Jvm.Term.string "TurnLineLaw" (30 : Nat)) "java/lang/String" "value" "[B")) (Jvm.Term.int (1 : Int32))) args s = true := (an_r (an_r (an_r (an_l (an_l (an_l (an_l (an_r (an_r (an_l (an_r h)))))))))))
set_option maxRecDepth 20000 in
theorem nr_50 {args : Array Value} {s : State} (h : (Jvm.Cond.and given_1 narrow_1).before args s = true) : Cond.before (Jvm.Cond.eq (Jvm.Term.elem (Jvm.Term.field (Jvm.Term.string "TurnLineLaw" (30 : Nat)) "java/lang/String" "value" "[B") (Jvm.Term.int (0 : Int32))) (Jvm.Term.int (32 : Int32))) args s = true := (an_l (an_l (an_r (an_l (an_l (an_l (an_r (an_r (an_l (an_r h))))))))))
set_option maxRecDepth 20000 in
theorem nr_51 {args : Array Value} {s : State} (h : (Jvm.Cond.and given_1 narrow_1).before args s = true) : Cond.before (Jvm.Cond.exactly (Jvm.Term.string "TurnLineLaw" (35 : Nat)) "java/lang/String") args s = true := (an_l (an_r (an_r (an_r (an_l (an_l (an_l (an_r (an_r (an_l (an_r h)))))))))))
set_option maxRecDepth 20000 in
theorem nr_52 {args : Array Value} {s : State} (h : (Jvm.Cond.and given_1 narrow_1).before args s = true) : Cond.before (Jvm.Cond.eq (Jvm.Term.field (Jvm.Term.string "TurnLineLaw" (35 : Nat)) "java/lang/String" "coder" "B") (Jvm.Term.int (0 : Int32))) args s = true := (an_r (an_r (an_r (an_r (an_l (an_l (an_l (an_r (an_r (an_l (an_r h)))))))))))
set_option maxRecDepth 20000 in
theorem nr_53 {args : Array Value} {s : State} (h : (Jvm.Cond.and given_1 narrow_1).before args s = true) : Cond.before (Jvm.Cond.arrayOf (Jvm.Term.field (Jvm.Term.string "TurnLineLaw" (35 : Nat)) "java/lang/String" "value" "[B") Jvm.ClassFile.FieldType.byte) args s = true := (an_l (an_l (an_l (an_r (an_l (an_l (an_r (an_r (an_l (an_r h))))))))))
set_option maxRecDepth 20000 in
theorem nr_54 {args : Array Value} {s : State} (h : (Jvm.Cond.and given_1 narrow_1).before args s = true) : Cond.before (Jvm.Cond.eq (Jvm.Term.length (Jvm.Term.field (Jvm.Term.string "TurnLineLaw" (35 : Nat)) "java/lang/String" "value" "[B")) (Jvm.Term.int (1 : Int32))) args s = true := (an_l (an_r (an_l (an_l (an_r (an_l (an_l (an_r (an_r (an_l (an_r h)))))))))))
set_option maxRecDepth 20000 in
theorem nr_55 {args : Array Value} {s : State} (h : (Jvm.Cond.and given_1 narrow_1).before args s = true) : Cond.before (Jvm.Cond.eq (Jvm.Term.elem (Jvm.Term.field (Jvm.Term.string "TurnLineLaw" (35 : Nat)) "java/lang/String" "value" "[B") (Jvm.Term.int (0 : Int32))) (Jvm.Term.int (59 : Int32))) args s = true := (an_r (an_r (an_l (an_l (an_r (an_l (an_l (an_r (an_r (an_l (an_r h)))))))))))
set_option maxRecDepth 20000 in
theorem nr_56 {args : Array Value} {s : State} (h : (Jvm.Cond.and given_1 narrow_1).before args s = true) : Cond.before (Jvm.Cond.exactly (Jvm.Term.string "TurnLineLaw" (37 : Nat)) "java/lang/String") args s = true := (an_l (an_r (an_l (an_r (an_r (an_l (an_l (an_r (an_r (an_l (an_r h)))))))))))
set_option maxRecDepth 20000 in
theorem nr_57 {args : Array Value} {s : State} (h : (Jvm.Cond.and given_1 narrow_1).before args s = true) : Cond.before (Jvm.Cond.eq (Jvm.Term.field (Jvm.Term.string "TurnLineLaw" (37 : Nat)) "java/lang/String" "coder" "B") (Jvm.Term.int (0 : Int32))) args s = true := (an_r (an_r (an_l (an_r (an_r (an_l (an_l (an_r (an_r (an_l (an_r h)))))))))))
set_option maxRecDepth 20000 in
theorem nr_58 {args : Array Value} {s : State} (h : (Jvm.Cond.and given_1 narrow_1).before args s = true) : Cond.before (Jvm.Cond.arrayOf (Jvm.Term.field (Jvm.Term.string "TurnLineLaw" (37 : Nat)) "java/lang/String" "value" "[B") Jvm.ClassFile.FieldType.byte) args s = true := (an_l (an_r (an_r (an_r (an_l (an_l (an_r (an_r (an_l (an_r h))))))))))
set_option maxRecDepth 20000 in
theorem nr_59 {args : Array Value} {s : State} (h : (Jvm.Cond.and given_1 narrow_1).before args s = true) : Cond.before (Jvm.Cond.eq (Jvm.Term.length (Jvm.Term.field (Jvm.Term.string "TurnLineLaw" (37 : Nat)) "java/lang/String" "value" "[B")) (Jvm.Term.int (7 : Int32))) args s = true := (an_l (an_r (an_r (an_r (an_r (an_l (an_l (an_r (an_r (an_l (an_r h)))))))))))
set_option maxRecDepth 20000 in
theorem nr_60 {args : Array Value} {s : State} (h : (Jvm.Cond.and given_1 narrow_1).before args s = true) : Cond.before (Jvm.Cond.eq (Jvm.Term.elem (Jvm.Term.field (Jvm.Term.string "TurnLineLaw" (37 : Nat)) "java/lang/String" "value" "[B") (Jvm.Term.int (0 : Int32))) (Jvm.Term.int (119 : Int32))) args s = true := (an_r (an_r (an_r (an_r (an_r (an_l (an_l (an_r (an_r (an_l (an_r h)))))))))))
set_option maxRecDepth 20000 in
theorem nr_61 {args : Array Value} {s : State} (h : (Jvm.Cond.and given_1 narrow_1).before args s = true) : Cond.before (Jvm.Cond.eq (Jvm.Term.elem (Jvm.Term.field (Jvm.Term.string "TurnLineLaw" (37 : Nat)) "java/lang/String" "value" "[B") (Jvm.Term.int (1 : Int32))) (Jvm.Term.int (105 : Int32))) args s = true := (an_l (an_l (an_l (an_l (an_r (an_l (an_r (an_r (an_l (an_r h))))))))))
set_option maxRecDepth 20000 in
theorem nr_62 {args : Array Value} {s : State} (h : (Jvm.Cond.and given_1 narrow_1).before args s = true) : Cond.before (Jvm.Cond.eq (Jvm.Term.elem (Jvm.Term.field (Jvm.Term.string "TurnLineLaw" (37 : Nat)) "java/lang/String" "value" "[B") (Jvm.Term.int (2 : Int32))) (Jvm.Term.int (110 : Int32))) args s = true := (an_l (an_r (an_l (an_l (an_l (an_r (an_l (an_r (an_r (an_l (an_r h)))))))))))
set_option maxRecDepth 20000 in
theorem nr_63 {args : Array Value} {s : State} (h : (Jvm.Cond.and given_1 narrow_1).before args s = true) : Cond.before (Jvm.Cond.eq (Jvm.Term.elem (Jvm.Term.field (Jvm.Term.string "TurnLineLaw" (37 : Nat)) "java/lang/String" "value" "[B") (Jvm.Term.int (3 : Int32))) (Jvm.Term.int (100 : Int32))) args s = true := (an_r (an_r (an_l (an_l (an_l (an_r (an_l (an_r (an_r (an_l (an_r h)))))))))))
set_option maxRecDepth 20000 in
theorem nr_64 {args : Array Value} {s : State} (h : (Jvm.Cond.and given_1 narrow_1).before args s = true) : Cond.before (Jvm.Cond.eq (Jvm.Term.elem (Jvm.Term.field (Jvm.Term.string "TurnLineLaw" (37 : Nat)) "java/lang/String" "value" "[B") (Jvm.Term.int (4 : Int32))) (Jvm.Term.int (111 : Int32))) args s = true := (an_l (an_r (an_l (an_l (an_r (an_l (an_r (an_r (an_l (an_r h))))))))))
set_option maxRecDepth 20000 in
theorem nr_65 {args : Array Value} {s : State} (h : (Jvm.Cond.and given_1 narrow_1).before args s = true) : Cond.before (Jvm.Cond.eq (Jvm.Term.elem (Jvm.Term.field (Jvm.Term.string "TurnLineLaw" (37 : Nat)) "java/lang/String" "value" "[B") (Jvm.Term.int (5 : Int32))) (Jvm.Term.int (119 : Int32))) args s = true := (an_l (an_r (an_r (an_l (an_l (an_r (an_l (an_r (an_r (an_l (an_r h)))))))))))
set_option maxRecDepth 20000 in
theorem nr_66 {args : Array Value} {s : State} (h : (Jvm.Cond.and given_1 narrow_1).before args s = true) : Cond.before (Jvm.Cond.eq (Jvm.Term.elem (Jvm.Term.field (Jvm.Term.string "TurnLineLaw" (37 : Nat)) "java/lang/String" "value" "[B") (Jvm.Term.int (6 : Int32))) (Jvm.Term.int (32 : Int32))) args s = true := (an_r (an_r (an_r (an_l (an_l (an_r (an_l (an_r (an_r (an_l (an_r h)))))))))))
set_option maxRecDepth 20000 in
theorem nr_67 {args : Array Value} {s : State} (h : (Jvm.Cond.and given_1 narrow_1).before args s = true) : Cond.before (Jvm.Cond.exactly (Jvm.Term.string "TurnLineLaw" (39 : Nat)) "java/lang/String") args s = true := (an_r (an_r (an_r (an_r (an_l (an_r (an_l (an_r (an_r (an_l (an_r h)))))))))))
set_option maxRecDepth 20000 in
theorem nr_68 {args : Array Value} {s : State} (h : (Jvm.Cond.and given_1 narrow_1).before args s = true) : Cond.before (Jvm.Cond.eq (Jvm.Term.field (Jvm.Term.string "TurnLineLaw" (39 : Nat)) "java/lang/String" "coder" "B") (Jvm.Term.int (0 : Int32))) args s = true := (an_l (an_l (an_l (an_r (an_r (an_l (an_r (an_r (an_l (an_r h))))))))))
set_option maxRecDepth 20000 in
theorem nr_69 {args : Array Value} {s : State} (h : (Jvm.Cond.and given_1 narrow_1).before args s = true) : Cond.before (Jvm.Cond.arrayOf (Jvm.Term.field (Jvm.Term.string "TurnLineLaw" (39 : Nat)) "java/lang/String" "value" "[B") Jvm.ClassFile.FieldType.byte) args s = true := (an_l (an_r (an_l (an_l (an_r (an_r (an_l (an_r (an_r (an_l (an_r h)))))))))))
set_option maxRecDepth 20000 in
theorem nr_70 {args : Array Value} {s : State} (h : (Jvm.Cond.and given_1 narrow_1).before args s = true) : Cond.before (Jvm.Cond.eq (Jvm.Term.length (Jvm.Term.field (Jvm.Term.string "TurnLineLaw" (39 : Nat)) "java/lang/String" "value" "[B")) (Jvm.Term.int (8 : Int32))) args s = true := (an_r (an_r (an_l (an_l (an_r (an_r (an_l (an_r (an_r (an_l (an_r h)))))))))))
set_option maxRecDepth 20000 in
theorem nr_71 {args : Array Value} {s : State} (h : (Jvm.Cond.and given_1 narrow_1).before args s = true) : Cond.before (Jvm.Cond.eq (Jvm.Term.elem (Jvm.Term.field (Jvm.Term.string "TurnLineLaw" (39 : Nat)) "java/lang/String" "value" "[B") (Jvm.Term.int (0 : Int32))) (Jvm.Term.int (109 : Int32))) args s = true := (an_l (an_r (an_l (an_r (an_r (an_l (an_r (an_r (an_l (an_r h))))))))))
set_option maxRecDepth 20000 in
theorem nr_72 {args : Array Value} {s : State} (h : (Jvm.Cond.and given_1 narrow_1).before args s = true) : Cond.before (Jvm.Cond.eq (Jvm.Term.elem (Jvm.Term.field (Jvm.Term.string "TurnLineLaw" (39 : Nat)) "java/lang/String" "value" "[B") (Jvm.Term.int (1 : Int32))) (Jvm.Term.int (101 : Int32))) args s = true := (an_l (an_r (an_r (an_l (an_r (an_r (an_l (an_r (an_r (an_l (an_r h)))))))))))
set_option maxRecDepth 20000 in
theorem nr_73 {args : Array Value} {s : State} (h : (Jvm.Cond.and given_1 narrow_1).before args s = true) : Cond.before (Jvm.Cond.eq (Jvm.Term.elem (Jvm.Term.field (Jvm.Term.string "TurnLineLaw" (39 : Nat)) "java/lang/String" "value" "[B") (Jvm.Term.int (2 : Int32))) (Jvm.Term.int (115 : Int32))) args s = true := (an_r (an_r (an_r (an_l (an_r (an_r (an_l (an_r (an_r (an_l (an_r h)))))))))))
set_option maxRecDepth 20000 in
theorem nr_74 {args : Array Value} {s : State} (h : (Jvm.Cond.and given_1 narrow_1).before args s = true) : Cond.before (Jvm.Cond.eq (Jvm.Term.elem (Jvm.Term.field (Jvm.Term.string "TurnLineLaw" (39 : Nat)) "java/lang/String" "value" "[B") (Jvm.Term.int (3 : Int32))) (Jvm.Term.int (115 : Int32))) args s = true := (an_l (an_l (an_r (an_r (an_r (an_l (an_r (an_r (an_l (an_r h))))))))))
set_option maxRecDepth 20000 in
theorem nr_75 {args : Array Value} {s : State} (h : (Jvm.Cond.and given_1 narrow_1).before args s = true) : Cond.before (Jvm.Cond.eq (Jvm.Term.elem (Jvm.Term.field (Jvm.Term.string "TurnLineLaw" (39 : Nat)) "java/lang/String" "value" "[B") (Jvm.Term.int (4 : Int32))) (Jvm.Term.int (97 : Int32))) args s = true := (an_l (an_r (an_l (an_r (an_r (an_r (an_l (an_r (an_r (an_l (an_r h)))))))))))
set_option maxRecDepth 20000 in
theorem nr_76 {args : Array Value} {s : State} (h : (Jvm.Cond.and given_1 narrow_1).before args s = true) : Cond.before (Jvm.Cond.eq (Jvm.Term.elem (Jvm.Term.field (Jvm.Term.string "TurnLineLaw" (39 : Nat)) "java/lang/String" "value" "[B") (Jvm.Term.int (5 : Int32))) (Jvm.Term.int (103 : Int32))) args s = true := (an_r (an_r (an_l (an_r (an_r (an_r (an_l (an_r (an_r (an_l (an_r h)))))))))))
set_option maxRecDepth 20000 in
theorem nr_77 {args : Array Value} {s : State} (h : (Jvm.Cond.and given_1 narrow_1).before args s = true) : Cond.before (Jvm.Cond.eq (Jvm.Term.elem (Jvm.Term.field (Jvm.Term.string "TurnLineLaw" (39 : Nat)) "java/lang/String" "value" "[B") (Jvm.Term.int (6 : Int32))) (Jvm.Term.int (101 : Int32))) args s = true := (an_l (an_r (an_r (an_r (an_r (an_l (an_r (an_r (an_l (an_r h))))))))))
set_option maxRecDepth 20000 in
theorem nr_78 {args : Array Value} {s : State} (h : (Jvm.Cond.and given_1 narrow_1).before args s = true) : Cond.before (Jvm.Cond.eq (Jvm.Term.elem (Jvm.Term.field (Jvm.Term.string "TurnLineLaw" (39 : Nat)) "java/lang/String" "value" "[B") (Jvm.Term.int (7 : Int32))) (Jvm.Term.int (32 : Int32))) args s = true := (an_l (an_r (an_r (an_r (an_r (an_r (an_l (an_r (an_r (an_l (an_r h)))))))))))
set_option maxRecDepth 20000 in
theorem nr_79 {args : Array Value} {s : State} (h : (Jvm.Cond.and given_1 narrow_1).before args s = true) : Cond.before (Jvm.Cond.exactly (Jvm.Term.string "TurnLineLaw" (41 : Nat)) "java/lang/String") args s = true := (an_r (an_r (an_r (an_l (an_l (an_l (an_r (an_r (an_r (an_l (an_r h)))))))))))
set_option maxRecDepth 20000 in
theorem nr_80 {args : Array Value} {s : State} (h : (Jvm.Cond.and given_1 narrow_1).before args s = true) : Cond.before (Jvm.Cond.eq (Jvm.Term.field (Jvm.Term.string "TurnLineLaw" (41 : Nat)) "java/lang/String" "coder" "B") (Jvm.Term.int (0 : Int32))) args s = true := (an_l (an_l (an_r (an_l (an_l (an_r (an_r (an_r (an_l (an_r h))))))))))
set_option maxRecDepth 20000 in
theorem nr_81 {args : Array Value} {s : State} (h : (Jvm.Cond.and given_1 narrow_1).before args s = true) : Cond.before (Jvm.Cond.arrayOf (Jvm.Term.field (Jvm.Term.string "TurnLineLaw" (41 : Nat)) "java/lang/String" "value" "[B") Jvm.ClassFile.FieldType.byte) args s = true := (an_l (an_r (an_l (an_r (an_l (an_l (an_r (an_r (an_r (an_l (an_r h)))))))))))
set_option maxRecDepth 20000 in
theorem nr_82 {args : Array Value} {s : State} (h : (Jvm.Cond.and given_1 narrow_1).before args s = true) : Cond.before (Jvm.Cond.eq (Jvm.Term.length (Jvm.Term.field (Jvm.Term.string "TurnLineLaw" (41 : Nat)) "java/lang/String" "value" "[B")) (Jvm.Term.int (5 : Int32))) args s = true := (an_r (an_r (an_l (an_r (an_l (an_l (an_r (an_r (an_r (an_l (an_r h)))))))))))
set_option maxRecDepth 20000 in
theorem nr_83 {args : Array Value} {s : State} (h : (Jvm.Cond.and given_1 narrow_1).before args s = true) : Cond.before (Jvm.Cond.eq (Jvm.Term.elem (Jvm.Term.field (Jvm.Term.string "TurnLineLaw" (41 : Nat)) "java/lang/String" "value" "[B") (Jvm.Term.int (0 : Int32))) (Jvm.Term.int (108 : Int32))) args s = true := (an_l (an_r (an_r (an_l (an_l (an_r (an_r (an_r (an_l (an_r h))))))))))
set_option maxRecDepth 20000 in
theorem nr_84 {args : Array Value} {s : State} (h : (Jvm.Cond.and given_1 narrow_1).before args s = true) : Cond.before (Jvm.Cond.eq (Jvm.Term.elem (Jvm.Term.field (Jvm.Term.string "TurnLineLaw" (41 : Nat)) "java/lang/String" "value" "[B") (Jvm.Term.int (1 : Int32))) (Jvm.Term.int (111 : Int32))) args s = true := (an_l (an_r (an_r (an_r (an_l (an_l (an_r (an_r (an_r (an_l (an_r h)))))))))))
set_option maxRecDepth 20000 in
theorem nr_85 {args : Array Value} {s : State} (h : (Jvm.Cond.and given_1 narrow_1).before args s = true) : Cond.before (Jvm.Cond.eq (Jvm.Term.elem (Jvm.Term.field (Jvm.Term.string "TurnLineLaw" (41 : Nat)) "java/lang/String" "value" "[B") (Jvm.Term.int (2 : Int32))) (Jvm.Term.int (115 : Int32))) args s = true := (an_r (an_r (an_r (an_r (an_l (an_l (an_r (an_r (an_r (an_l (an_r h)))))))))))
set_option maxRecDepth 20000 in
theorem nr_86 {args : Array Value} {s : State} (h : (Jvm.Cond.and given_1 narrow_1).before args s = true) : Cond.before (Jvm.Cond.eq (Jvm.Term.elem (Jvm.Term.field (Jvm.Term.string "TurnLineLaw" (41 : Nat)) "java/lang/String" "value" "[B") (Jvm.Term.int (3 : Int32))) (Jvm.Term.int (101 : Int32))) args s = true := (an_l (an_l (an_l (an_r (an_l (an_r (an_r (an_r (an_l (an_r h))))))))))
set_option maxRecDepth 20000 in
theorem nr_87 {args : Array Value} {s : State} (h : (Jvm.Cond.and given_1 narrow_1).before args s = true) : Cond.before (Jvm.Cond.eq (Jvm.Term.elem (Jvm.Term.field (Jvm.Term.string "TurnLineLaw" (41 : Nat)) "java/lang/String" "value" "[B") (Jvm.Term.int (4 : Int32))) (Jvm.Term.int (32 : Int32))) args s = true := (an_l (an_r (an_l (an_l (an_r (an_l (an_r (an_r (an_r (an_l (an_r h)))))))))))
set_option maxRecDepth 20000 in
theorem nr_88 {args : Array Value} {s : State} (h : (Jvm.Cond.and given_1 narrow_1).before args s = true) : Cond.before (Jvm.Cond.exactly (Jvm.Term.string "TurnLine" (74 : Nat)) "java/lang/String") args s = true := (an_l (an_r (an_r (an_r (an_l (an_r (an_r (an_r (an_l (an_r h))))))))))
set_option maxRecDepth 20000 in
theorem nr_89 {args : Array Value} {s : State} (h : (Jvm.Cond.and given_1 narrow_1).before args s = true) : Cond.before (Jvm.Cond.exactly (Jvm.Term.string "TurnLine" (125 : Nat)) "java/lang/String") args s = true := (an_l (an_r (an_l (an_r (an_r (an_l (an_l (an_r (an_l (an_r h))))))))))
set_option maxRecDepth 20000 in
theorem nr_90 {args : Array Value} {s : State} (h : (Jvm.Cond.and given_1 narrow_1).before args s = true) : Cond.before (Jvm.Cond.exactly (Jvm.Term.string "TurnLine" (130 : Nat)) "java/lang/String") args s = true := (an_r (an_r (an_r (an_l (an_r (an_l (an_l (an_r (an_l (an_r (an_r h)))))))))))
set_option maxRecDepth 20000 in
theorem nr_91 {args : Array Value} {s : State} (h : (Jvm.Cond.and given_1 narrow_1).before args s = true) : Cond.before (Jvm.Cond.exactly (Jvm.Term.string "TurnLine" (146 : Nat)) "java/lang/String") args s = true := (an_l (an_l (an_l (an_r (an_r (an_l (an_r (an_r (an_r (an_r h))))))))))
set_option maxRecDepth 20000 in
theorem nr_92 {args : Array Value} {s : State} (h : (Jvm.Cond.and given_1 narrow_1).before args s = true) : Cond.before (Jvm.Cond.exactly (Jvm.Term.string "TurnLine" (171 : Nat)) "java/lang/String") args s = true := (an_r (an_r (an_l (an_r (an_l (an_l (an_r (an_l (an_r (an_l (an_r h)))))))))))
set_option maxRecDepth 20000 in
theorem nr_93 {args : Array Value} {s : State} (h : (Jvm.Cond.and given_1 narrow_1).before args s = true) : Cond.before (Jvm.Cond.exactly (Jvm.Term.string "TurnLine" (203 : Nat)) "java/lang/String") args s = true := (an_l (an_r (an_r (an_r (an_r (an_r (an_r (an_l (an_r (an_r (an_r h)))))))))))
set_option maxRecDepth 20000 in
theorem nr_94 {args : Array Value} {s : State} (h : (Jvm.Cond.and given_1 narrow_1).before args s = true) : Cond.before (Jvm.Cond.exactly (Jvm.Term.string "TurnLine" (232 : Nat)) "java/lang/String") args s = true := (an_l (an_l (an_l (an_l (an_l (an_l (an_l (an_r (an_r (an_r h))))))))))
set_option maxRecDepth 20000 in
theorem nr_95 {args : Array Value} {s : State} (h : (Jvm.Cond.and given_1 narrow_1).before args s = true) : Cond.before (Jvm.Cond.exactly (Jvm.Term.string "TurnLine" (254 : Nat)) "java/lang/String") args s = true := (an_l (an_r (an_r (an_r (an_r (an_r (an_l (an_l (an_r (an_r (an_r h)))))))))))
set_option maxRecDepth 20000 in
theorem nr_96 {args : Array Value} {s : State} (h : (Jvm.Cond.and given_1 narrow_1).before args s = true) : Cond.before (Jvm.Cond.exactly (Jvm.Term.string "TurnLine" (271 : Nat)) "java/lang/String") args s = true := (an_r (an_r (an_l (an_r (an_l (an_r (an_r (an_l (an_l (an_r (an_r h)))))))))))
set_option maxRecDepth 20000 in
theorem nr_97 {args : Array Value} {s : State} (h : (Jvm.Cond.and given_1 narrow_1).before args s = true) : Cond.before (Jvm.Cond.exactly (Jvm.Term.string "TurnLine" (273 : Nat)) "java/lang/String") args s = true := (an_l (an_r (an_l (an_r (an_l (an_r (an_r (an_l (an_r (an_r h))))))))))
set_option maxRecDepth 20000 in
theorem nr_98 {args : Array Value} {s : State} (h : (Jvm.Cond.and given_1 narrow_1).before args s = true) : Cond.before (Jvm.Cond.not (Jvm.Cond.castable "java/lang/IllegalStateException" "java/lang/IllegalArgumentException")) args s = true := (an_r (an_r (an_l (an_l (an_r (an_r (an_l (an_l (an_r (an_l (an_r h)))))))))))
set_option maxRecDepth 20000 in
theorem nr_99 {args : Array Value} {s : State} (h : (Jvm.Cond.and given_1 narrow_1).before args s = true) : Cond.before (Jvm.Cond.not (Jvm.Cond.castable "java/lang/IndexOutOfBoundsException" "java/lang/IllegalArgumentException")) args s = true := (an_l (an_r (an_l (an_l (an_r (an_r (an_l (an_l (an_r (an_l (an_r h)))))))))))
set_option maxRecDepth 20000 in
theorem nr_100 {args : Array Value} {s : State} (h : (Jvm.Cond.and given_1 narrow_1).before args s = true) : Cond.before (Jvm.Cond.isRef (Jvm.Term.static "java/lang/Throwable" "UNASSIGNED_STACK" "[Ljava/lang/StackTraceElement;")) args s = true := (an_l (an_r (an_l (an_l (an_l (an_l (an_l (an_l (an_l (an_r h))))))))))
set_option maxRecDepth 20000 in
theorem nr_101 {args : Array Value} {s : State} (h : (Jvm.Cond.and given_1 narrow_1).before args s = true) : Cond.before (Jvm.Cond.isRef (Jvm.Term.static "java/lang/Throwable" "SUPPRESSED_SENTINEL" "Ljava/util/List;")) args s = true := (an_l (an_r (an_r (an_l (an_l (an_l (an_l (an_l (an_l (an_l (an_r h)))))))))))
set_option maxRecDepth 20000 in
theorem nr_102 {args : Array Value} {s : State} (h : (Jvm.Cond.and given_1 narrow_1).before args s = true) : Cond.before (Jvm.Cond.eq (Jvm.Term.static "java/lang/String" "COMPACT_STRINGS" "Z") (Jvm.Term.int (1 : Int32))) args s = true := (an_r (an_r (an_r (an_l (an_l (an_l (an_l (an_l (an_l (an_l (an_r h)))))))))))
set_option maxRecDepth 20000 in
theorem nr_103 {args : Array Value} {s : State} (h : (Jvm.Cond.and given_1 narrow_1).before args s = true) : Cond.before (Jvm.Cond.isRef (Jvm.Term.static "jdk/internal/util/Preconditions" "SIOOBE_FORMATTER" "Ljava/util/function/BiFunction;")) args s = true := (an_l (an_l (an_r (an_l (an_l (an_l (an_l (an_l (an_l (an_r h))))))))))
set_option maxRecDepth 20000 in
theorem nr_104 {args : Array Value} {s : State} (h : (Jvm.Cond.and given_1 narrow_1).before args s = true) : Cond.before (Jvm.Cond.arrayOf (Jvm.Term.static "java/lang/Integer" "DigitOnes" "[B") Jvm.ClassFile.FieldType.byte) args s = true := (an_r (an_r (an_r (an_r (an_l (an_l (an_l (an_l (an_l (an_l (an_r h)))))))))))
set_option maxRecDepth 20000 in
theorem nr_105 {args : Array Value} {s : State} (h : (Jvm.Cond.and given_1 narrow_1).before args s = true) : Cond.before (Jvm.Cond.eq (Jvm.Term.length (Jvm.Term.static "java/lang/Integer" "DigitOnes" "[B")) (Jvm.Term.int (100 : Int32))) args s = true := (an_l (an_l (an_l (an_r (an_l (an_l (an_l (an_l (an_l (an_r h))))))))))
set_option maxRecDepth 20000 in
theorem nr_106 {args : Array Value} {s : State} (h : (Jvm.Cond.and given_1 narrow_1).before args s = true) : Cond.before (Jvm.Cond.eq (Jvm.Term.elem (Jvm.Term.static "java/lang/Integer" "DigitOnes" "[B") (Jvm.Term.int (0 : Int32))) (Jvm.Term.int (48 : Int32))) args s = true := (an_l (an_r (an_l (an_l (an_r (an_l (an_l (an_l (an_l (an_l (an_r h)))))))))))
set_option maxRecDepth 20000 in
theorem nr_107 {args : Array Value} {s : State} (h : (Jvm.Cond.and given_1 narrow_1).before args s = true) : Cond.before (Jvm.Cond.eq (Jvm.Term.elem (Jvm.Term.static "java/lang/Integer" "DigitOnes" "[B") (Jvm.Term.int (1 : Int32))) (Jvm.Term.int (49 : Int32))) args s = true := (an_r (an_r (an_l (an_l (an_r (an_l (an_l (an_l (an_l (an_l (an_r h)))))))))))
set_option maxRecDepth 20000 in
theorem nr_108 {args : Array Value} {s : State} (h : (Jvm.Cond.and given_1 narrow_1).before args s = true) : Cond.before (Jvm.Cond.eq (Jvm.Term.elem (Jvm.Term.static "java/lang/Integer" "DigitOnes" "[B") (Jvm.Term.int (2 : Int32))) (Jvm.Term.int (50 : Int32))) args s = true := (an_l (an_r (an_l (an_r (an_l (an_l (an_l (an_l (an_l (an_r h))))))))))
set_option maxRecDepth 20000 in
theorem nr_109 {args : Array Value} {s : State} (h : (Jvm.Cond.and given_1 narrow_1).before args s = true) : Cond.before (Jvm.Cond.eq (Jvm.Term.elem (Jvm.Term.static "java/lang/Integer" "DigitOnes" "[B") (Jvm.Term.int (3 : Int32))) (Jvm.Term.int (51 : Int32))) args s = true := (an_l (an_r (an_r (an_l (an_r (an_l (an_l (an_l (an_l (an_l (an_r h)))))))))))
set_option maxRecDepth 20000 in
theorem nr_110 {args : Array Value} {s : State} (h : (Jvm.Cond.and given_1 narrow_1).before args s = true) : Cond.before (Jvm.Cond.eq (Jvm.Term.elem (Jvm.Term.static "java/lang/Integer" "DigitOnes" "[B") (Jvm.Term.int (4 : Int32))) (Jvm.Term.int (52 : Int32))) args s = true := (an_r (an_r (an_r (an_l (an_r (an_l (an_l (an_l (an_l (an_l (an_r h)))))))))))
set_option maxRecDepth 20000 in
theorem nr_111 {args : Array Value} {s : State} (h : (Jvm.Cond.and given_1 narrow_1).before args s = true) : Cond.before (Jvm.Cond.eq (Jvm.Term.elem (Jvm.Term.static "java/lang/Integer" "DigitOnes" "[B") (Jvm.Term.int (5 : Int32))) (Jvm.Term.int (53 : Int32))) args s = true := (an_l (an_l (an_r (an_r (an_l (an_l (an_l (an_l (an_l (an_r h))))))))))
set_option maxRecDepth 20000 in
theorem nr_112 {args : Array Value} {s : State} (h : (Jvm.Cond.and given_1 narrow_1).before args s = true) : Cond.before (Jvm.Cond.eq (Jvm.Term.elem (Jvm.Term.static "java/lang/Integer" "DigitOnes" "[B") (Jvm.Term.int (6 : Int32))) (Jvm.Term.int (54 : Int32))) args s = true := (an_l (an_r (an_l (an_r (an_r (an_l (an_l (an_l (an_l (an_l (an_r h)))))))))))
set_option maxRecDepth 20000 in
theorem nr_113 {args : Array Value} {s : State} (h : (Jvm.Cond.and given_1 narrow_1).before args s = true) : Cond.before (Jvm.Cond.eq (Jvm.Term.elem (Jvm.Term.static "java/lang/Integer" "DigitOnes" "[B") (Jvm.Term.int (7 : Int32))) (Jvm.Term.int (55 : Int32))) args s = true := (an_r (an_r (an_l (an_r (an_r (an_l (an_l (an_l (an_l (an_l (an_r h)))))))))))
set_option maxRecDepth 20000 in
theorem nr_114 {args : Array Value} {s : State} (h : (Jvm.Cond.and given_1 narrow_1).before args s = true) : Cond.before (Jvm.Cond.eq (Jvm.Term.elem (Jvm.Term.static "java/lang/Integer" "DigitOnes" "[B") (Jvm.Term.int (8 : Int32))) (Jvm.Term.int (56 : Int32))) args s = true := (an_l (an_r (an_r (an_r (an_l (an_l (an_l (an_l (an_l (an_r h))))))))))
set_option maxRecDepth 20000 in
theorem nr_115 {args : Array Value} {s : State} (h : (Jvm.Cond.and given_1 narrow_1).before args s = true) : Cond.before (Jvm.Cond.eq (Jvm.Term.elem (Jvm.Term.static "java/lang/Integer" "DigitOnes" "[B") (Jvm.Term.int (9 : Int32))) (Jvm.Term.int (57 : Int32))) args s = true := (an_l (an_r (an_r (an_r (an_r (an_l (an_l (an_l (an_l (an_l (an_r h)))))))))))
set_option maxRecDepth 20000 in
theorem nr_116 {args : Array Value} {s : State} (h : (Jvm.Cond.and given_1 narrow_1).before args s = true) : Cond.before (Jvm.Cond.eq (Jvm.Term.elem (Jvm.Term.static "java/lang/Integer" "DigitOnes" "[B") (Jvm.Term.int (10 : Int32))) (Jvm.Term.int (48 : Int32))) args s = true := (an_r (an_r (an_r (an_r (an_r (an_l (an_l (an_l (an_l (an_l (an_r h)))))))))))
set_option maxRecDepth 20000 in
theorem nr_117 {args : Array Value} {s : State} (h : (Jvm.Cond.and given_1 narrow_1).before args s = true) : Cond.before (Jvm.Cond.eq (Jvm.Term.elem (Jvm.Term.static "java/lang/Integer" "DigitOnes" "[B") (Jvm.Term.int (11 : Int32))) (Jvm.Term.int (49 : Int32))) args s = true := (an_l (an_l (an_l (an_l (an_r (an_l (an_l (an_l (an_l (an_r h))))))))))
set_option maxRecDepth 20000 in
theorem nr_118 {args : Array Value} {s : State} (h : (Jvm.Cond.and given_1 narrow_1).before args s = true) : Cond.before (Jvm.Cond.eq (Jvm.Term.elem (Jvm.Term.static "java/lang/Integer" "DigitOnes" "[B") (Jvm.Term.int (12 : Int32))) (Jvm.Term.int (50 : Int32))) args s = true := (an_l (an_r (an_l (an_l (an_l (an_r (an_l (an_l (an_l (an_l (an_r h)))))))))))
set_option maxRecDepth 20000 in
theorem nr_119 {args : Array Value} {s : State} (h : (Jvm.Cond.and given_1 narrow_1).before args s = true) : Cond.before (Jvm.Cond.eq (Jvm.Term.elem (Jvm.Term.static "java/lang/Integer" "DigitOnes" "[B") (Jvm.Term.int (13 : Int32))) (Jvm.Term.int (51 : Int32))) args s = true := (an_r (an_r (an_l (an_l (an_l (an_r (an_l (an_l (an_l (an_l (an_r h)))))))))))
set_option maxRecDepth 20000 in
theorem nr_120 {args : Array Value} {s : State} (h : (Jvm.Cond.and given_1 narrow_1).before args s = true) : Cond.before (Jvm.Cond.eq (Jvm.Term.elem (Jvm.Term.static "java/lang/Integer" "DigitOnes" "[B") (Jvm.Term.int (14 : Int32))) (Jvm.Term.int (52 : Int32))) args s = true := (an_l (an_r (an_l (an_l (an_r (an_l (an_l (an_l (an_l (an_r h))))))))))
set_option maxRecDepth 20000 in
theorem nr_121 {args : Array Value} {s : State} (h : (Jvm.Cond.and given_1 narrow_1).before args s = true) : Cond.before (Jvm.Cond.eq (Jvm.Term.elem (Jvm.Term.static "java/lang/Integer" "DigitOnes" "[B") (Jvm.Term.int (15 : Int32))) (Jvm.Term.int (53 : Int32))) args s = true := (an_l (an_r (an_r (an_l (an_l (an_r (an_l (an_l (an_l (an_l (an_r h)))))))))))
set_option maxRecDepth 20000 in
theorem nr_122 {args : Array Value} {s : State} (h : (Jvm.Cond.and given_1 narrow_1).before args s = true) : Cond.before (Jvm.Cond.eq (Jvm.Term.elem (Jvm.Term.static "java/lang/Integer" "DigitOnes" "[B") (Jvm.Term.int (16 : Int32))) (Jvm.Term.int (54 : Int32))) args s = true := (an_r (an_r (an_r (an_l (an_l (an_r (an_l (an_l (an_l (an_l (an_r h)))))))))))
set_option maxRecDepth 20000 in
theorem nr_123 {args : Array Value} {s : State} (h : (Jvm.Cond.and given_1 narrow_1).before args s = true) : Cond.before (Jvm.Cond.eq (Jvm.Term.elem (Jvm.Term.static "java/lang/Integer" "DigitOnes" "[B") (Jvm.Term.int (17 : Int32))) (Jvm.Term.int (55 : Int32))) args s = true := (an_l (an_l (an_r (an_l (an_r (an_l (an_l (an_l (an_l (an_r h))))))))))
set_option maxRecDepth 20000 in
theorem nr_124 {args : Array Value} {s : State} (h : (Jvm.Cond.and given_1 narrow_1).before args s = true) : Cond.before (Jvm.Cond.eq (Jvm.Term.elem (Jvm.Term.static "java/lang/Integer" "DigitOnes" "[B") (Jvm.Term.int (18 : Int32))) (Jvm.Term.int (56 : Int32))) args s = true := (an_l (an_r (an_l (an_r (an_l (an_r (an_l (an_l (an_l (an_l (an_r h)))))))))))
set_option maxRecDepth 20000 in
theorem nr_125 {args : Array Value} {s : State} (h : (Jvm.Cond.and given_1 narrow_1).before args s = true) : Cond.before (Jvm.Cond.eq (Jvm.Term.elem (Jvm.Term.static "java/lang/Integer" "DigitOnes" "[B") (Jvm.Term.int (19 : Int32))) (Jvm.Term.int (57 : Int32))) args s = true := (an_r (an_r (an_l (an_r (an_l (an_r (an_l (an_l (an_l (an_l (an_r h)))))))))))
set_option maxRecDepth 20000 in
theorem nr_126 {args : Array Value} {s : State} (h : (Jvm.Cond.and given_1 narrow_1).before args s = true) : Cond.before (Jvm.Cond.eq (Jvm.Term.elem (Jvm.Term.static "java/lang/Integer" "DigitOnes" "[B") (Jvm.Term.int (20 : Int32))) (Jvm.Term.int (48 : Int32))) args s = true := (an_l (an_r (an_r (an_l (an_r (an_l (an_l (an_l (an_l (an_r h))))))))))
set_option maxRecDepth 20000 in
theorem nr_127 {args : Array Value} {s : State} (h : (Jvm.Cond.and given_1 narrow_1).before args s = true) : Cond.before (Jvm.Cond.eq (Jvm.Term.elem (Jvm.Term.static "java/lang/Integer" "DigitOnes" "[B") (Jvm.Term.int (21 : Int32))) (Jvm.Term.int (49 : Int32))) args s = true := (an_l (an_r (an_r (an_r (an_l (an_r (an_l (an_l (an_l (an_l (an_r h)))))))))))
set_option maxRecDepth 20000 in
theorem nr_128 {args : Array Value} {s : State} (h : (Jvm.Cond.and given_1 narrow_1).before args s = true) : Cond.before (Jvm.Cond.eq (Jvm.Term.elem (Jvm.Term.static "java/lang/Integer" "DigitOnes" "[B") (Jvm.Term.int (22 : Int32))) (Jvm.Term.int (50 : Int32))) args s = true := (an_r (an_r (an_r (an_r (an_l (an_r (an_l (an_l (an_l (an_l (an_r h)))))))))))
set_option maxRecDepth 20000 in
theorem nr_129 {args : Array Value} {s : State} (h : (Jvm.Cond.and given_1 narrow_1).before args s = true) : Cond.before (Jvm.Cond.eq (Jvm.Term.elem (Jvm.Term.static "java/lang/Integer" "DigitOnes" "[B") (Jvm.Term.int (23 : Int32))) (Jvm.Term.int (51 : Int32))) args s = true := (an_l (an_l (an_l (an_r (an_r (an_l (an_l (an_l (an_l (an_r h))))))))))
set_option maxRecDepth 20000 in
theorem nr_130 {args : Array Value} {s : State} (h : (Jvm.Cond.and given_1 narrow_1).before args s = true) : Cond.before (Jvm.Cond.eq (Jvm.Term.elem (Jvm.Term.static "java/lang/Integer" "DigitOnes" "[B") (Jvm.Term.int (24 : Int32))) (Jvm.Term.int (52 : Int32))) args s = true := (an_l (an_r (an_l (an_l (an_r (an_r (an_l (an_l (an_l (an_l (an_r h)))))))))))
set_option maxRecDepth 20000 in
theorem nr_131 {args : Array Value} {s : State} (h : (Jvm.Cond.and given_1 narrow_1).before args s = true) : Cond.before (Jvm.Cond.eq (Jvm.Term.elem (Jvm.Term.static "java/lang/Integer" "DigitOnes" "[B") (Jvm.Term.int (25 : Int32))) (Jvm.Term.int (53 : Int32))) args s = true := (an_r (an_r (an_l (an_l (an_r (an_r (an_l (an_l (an_l (an_l (an_r h)))))))))))
set_option maxRecDepth 20000 in
theorem nr_132 {args : Array Value} {s : State} (h : (Jvm.Cond.and given_1 narrow_1).before args s = true) : Cond.before (Jvm.Cond.eq (Jvm.Term.elem (Jvm.Term.static "java/lang/Integer" "DigitOnes" "[B") (Jvm.Term.int (26 : Int32))) (Jvm.Term.int (54 : Int32))) args s = true := (an_l (an_r (an_l (an_r (an_r (an_l (an_l (an_l (an_l (an_r h))))))))))
set_option maxRecDepth 20000 in
theorem nr_133 {args : Array Value} {s : State} (h : (Jvm.Cond.and given_1 narrow_1).before args s = true) : Cond.before (Jvm.Cond.eq (Jvm.Term.elem (Jvm.Term.static "java/lang/Integer" "DigitOnes" "[B") (Jvm.Term.int (27 : Int32))) (Jvm.Term.int (55 : Int32))) args s = true := (an_l (an_r (an_r (an_l (an_r (an_r (an_l (an_l (an_l (an_l (an_r h)))))))))))
set_option maxRecDepth 20000 in
theorem nr_134 {args : Array Value} {s : State} (h : (Jvm.Cond.and given_1 narrow_1).before args s = true) : Cond.before (Jvm.Cond.eq (Jvm.Term.elem (Jvm.Term.static "java/lang/Integer" "DigitOnes" "[B") (Jvm.Term.int (28 : Int32))) (Jvm.Term.int (56 : Int32))) args s = true := (an_r (an_r (an_r (an_l (an_r (an_r (an_l (an_l (an_l (an_l (an_r h)))))))))))
set_option maxRecDepth 20000 in
theorem nr_135 {args : Array Value} {s : State} (h : (Jvm.Cond.and given_1 narrow_1).before args s = true) : Cond.before (Jvm.Cond.eq (Jvm.Term.elem (Jvm.Term.static "java/lang/Integer" "DigitOnes" "[B") (Jvm.Term.int (29 : Int32))) (Jvm.Term.int (57 : Int32))) args s = true := (an_l (an_l (an_r (an_r (an_r (an_l (an_l (an_l (an_l (an_r h))))))))))
set_option maxRecDepth 20000 in
theorem nr_136 {args : Array Value} {s : State} (h : (Jvm.Cond.and given_1 narrow_1).before args s = true) : Cond.before (Jvm.Cond.eq (Jvm.Term.elem (Jvm.Term.static "java/lang/Integer" "DigitOnes" "[B") (Jvm.Term.int (30 : Int32))) (Jvm.Term.int (48 : Int32))) args s = true := (an_l (an_r (an_l (an_r (an_r (an_r (an_l (an_l (an_l (an_l (an_r h)))))))))))
set_option maxRecDepth 20000 in
theorem nr_137 {args : Array Value} {s : State} (h : (Jvm.Cond.and given_1 narrow_1).before args s = true) : Cond.before (Jvm.Cond.eq (Jvm.Term.elem (Jvm.Term.static "java/lang/Integer" "DigitOnes" "[B") (Jvm.Term.int (31 : Int32))) (Jvm.Term.int (49 : Int32))) args s = true := (an_r (an_r (an_l (an_r (an_r (an_r (an_l (an_l (an_l (an_l (an_r h)))))))))))
set_option maxRecDepth 20000 in
theorem nr_138 {args : Array Value} {s : State} (h : (Jvm.Cond.and given_1 narrow_1).before args s = true) : Cond.before (Jvm.Cond.eq (Jvm.Term.elem (Jvm.Term.static "java/lang/Integer" "DigitOnes" "[B") (Jvm.Term.int (32 : Int32))) (Jvm.Term.int (50 : Int32))) args s = true := (an_l (an_r (an_r (an_r (an_r (an_l (an_l (an_l (an_l (an_r h))))))))))
set_option maxRecDepth 20000 in
theorem nr_139 {args : Array Value} {s : State} (h : (Jvm.Cond.and given_1 narrow_1).before args s = true) : Cond.before (Jvm.Cond.eq (Jvm.Term.elem (Jvm.Term.static "java/lang/Integer" "DigitOnes" "[B") (Jvm.Term.int (33 : Int32))) (Jvm.Term.int (51 : Int32))) args s = true := (an_l (an_r (an_r (an_r (an_r (an_r (an_l (an_l (an_l (an_l (an_r h)))))))))))
set_option maxRecDepth 20000 in
theorem nr_140 {args : Array Value} {s : State} (h : (Jvm.Cond.and given_1 narrow_1).before args s = true) : Cond.before (Jvm.Cond.eq (Jvm.Term.elem (Jvm.Term.static "java/lang/Integer" "DigitOnes" "[B") (Jvm.Term.int (34 : Int32))) (Jvm.Term.int (52 : Int32))) args s = true := (an_r (an_r (an_r (an_r (an_r (an_r (an_l (an_l (an_l (an_l (an_r h)))))))))))
set_option maxRecDepth 20000 in
theorem nr_141 {args : Array Value} {s : State} (h : (Jvm.Cond.and given_1 narrow_1).before args s = true) : Cond.before (Jvm.Cond.eq (Jvm.Term.elem (Jvm.Term.static "java/lang/Integer" "DigitOnes" "[B") (Jvm.Term.int (35 : Int32))) (Jvm.Term.int (53 : Int32))) args s = true := (an_l (an_l (an_l (an_l (an_l (an_r (an_l (an_l (an_l (an_r h))))))))))
set_option maxRecDepth 20000 in
theorem nr_142 {args : Array Value} {s : State} (h : (Jvm.Cond.and given_1 narrow_1).before args s = true) : Cond.before (Jvm.Cond.eq (Jvm.Term.elem (Jvm.Term.static "java/lang/Integer" "DigitOnes" "[B") (Jvm.Term.int (36 : Int32))) (Jvm.Term.int (54 : Int32))) args s = true := (an_r (an_l (an_l (an_l (an_l (an_r (an_l (an_l (an_l (an_r h))))))))))
set_option maxRecDepth 20000 in
theorem nr_143 {args : Array Value} {s : State} (h : (Jvm.Cond.and given_1 narrow_1).before args s = true) : Cond.before (Jvm.Cond.eq (Jvm.Term.elem (Jvm.Term.static "java/lang/Integer" "DigitOnes" "[B") (Jvm.Term.int (37 : Int32))) (Jvm.Term.int (55 : Int32))) args s = true := (an_l (an_r (an_l (an_l (an_l (an_r (an_l (an_l (an_l (an_r h))))))))))
set_option maxRecDepth 20000 in
theorem nr_144 {args : Array Value} {s : State} (h : (Jvm.Cond.and given_1 narrow_1).before args s = true) : Cond.before (Jvm.Cond.eq (Jvm.Term.elem (Jvm.Term.static "java/lang/Integer" "DigitOnes" "[B") (Jvm.Term.int (38 : Int32))) (Jvm.Term.int (56 : Int32))) args s = true := (an_l (an_r (an_r (an_l (an_l (an_l (an_r (an_l (an_l (an_l (an_r h)))))))))))
set_option maxRecDepth 20000 in
theorem nr_145 {args : Array Value} {s : State} (h : (Jvm.Cond.and given_1 narrow_1).before args s = true) : Cond.before (Jvm.Cond.eq (Jvm.Term.elem (Jvm.Term.static "java/lang/Integer" "DigitOnes" "[B") (Jvm.Term.int (39 : Int32))) (Jvm.Term.int (57 : Int32))) args s = true := (an_r (an_r (an_r (an_l (an_l (an_l (an_r (an_l (an_l (an_l (an_r h)))))))))))
set_option maxRecDepth 20000 in
theorem nr_146 {args : Array Value} {s : State} (h : (Jvm.Cond.and given_1 narrow_1).before args s = true) : Cond.before (Jvm.Cond.eq (Jvm.Term.elem (Jvm.Term.static "java/lang/Integer" "DigitOnes" "[B") (Jvm.Term.int (40 : Int32))) (Jvm.Term.int (48 : Int32))) args s = true := (an_l (an_l (an_r (an_l (an_l (an_r (an_l (an_l (an_l (an_r h))))))))))
set_option maxRecDepth 20000 in
theorem nr_147 {args : Array Value} {s : State} (h : (Jvm.Cond.and given_1 narrow_1).before args s = true) : Cond.before (Jvm.Cond.eq (Jvm.Term.elem (Jvm.Term.static "java/lang/Integer" "DigitOnes" "[B") (Jvm.Term.int (41 : Int32))) (Jvm.Term.int (49 : Int32))) args s = true := (an_l (an_r (an_l (an_r (an_l (an_l (an_r (an_l (an_l (an_l (an_r h)))))))))))
set_option maxRecDepth 20000 in
theorem nr_148 {args : Array Value} {s : State} (h : (Jvm.Cond.and given_1 narrow_1).before args s = true) : Cond.before (Jvm.Cond.eq (Jvm.Term.elem (Jvm.Term.static "java/lang/Integer" "DigitOnes" "[B") (Jvm.Term.int (42 : Int32))) (Jvm.Term.int (50 : Int32))) args s = true := (an_r (an_r (an_l (an_r (an_l (an_l (an_r (an_l (an_l (an_l (an_r h)))))))))))
set_option maxRecDepth 20000 in
theorem nr_149 {args : Array Value} {s : State} (h : (Jvm.Cond.and given_1 narrow_1).before args s = true) : Cond.before (Jvm.Cond.eq (Jvm.Term.elem (Jvm.Term.static "java/lang/Integer" "DigitOnes" "[B") (Jvm.Term.int (43 : Int32))) (Jvm.Term.int (51 : Int32))) args s = true := (an_l (an_r (an_r (an_l (an_l (an_r (an_l (an_l (an_l (an_r h))))))))))
set_option maxRecDepth 20000 in
theorem nr_150 {args : Array Value} {s : State} (h : (Jvm.Cond.and given_1 narrow_1).before args s = true) : Cond.before (Jvm.Cond.eq (Jvm.Term.elem (Jvm.Term.static "java/lang/Integer" "DigitOnes" "[B") (Jvm.Term.int (44 : Int32))) (Jvm.Term.int (52 : Int32))) args s = true := (an_l (an_r (an_r (an_r (an_l (an_l (an_r (an_l (an_l (an_l (an_r h)))))))))))
set_option maxRecDepth 20000 in
theorem nr_151 {args : Array Value} {s : State} (h : (Jvm.Cond.and given_1 narrow_1).before args s = true) : Cond.before (Jvm.Cond.eq (Jvm.Term.elem (Jvm.Term.static "java/lang/Integer" "DigitOnes" "[B") (Jvm.Term.int (45 : Int32))) (Jvm.Term.int (53 : Int32))) args s = true := (an_r (an_r (an_r (an_r (an_l (an_l (an_r (an_l (an_l (an_l (an_r h)))))))))))
set_option maxRecDepth 20000 in
theorem nr_152 {args : Array Value} {s : State} (h : (Jvm.Cond.and given_1 narrow_1).before args s = true) : Cond.before (Jvm.Cond.eq (Jvm.Term.elem (Jvm.Term.static "java/lang/Integer" "DigitOnes" "[B") (Jvm.Term.int (46 : Int32))) (Jvm.Term.int (54 : Int32))) args s = true := (an_l (an_l (an_l (an_r (an_l (an_r (an_l (an_l (an_l (an_r h))))))))))
set_option maxRecDepth 20000 in
theorem nr_153 {args : Array Value} {s : State} (h : (Jvm.Cond.and given_1 narrow_1).before args s = true) : Cond.before (Jvm.Cond.eq (Jvm.Term.elem (Jvm.Term.static "java/lang/Integer" "DigitOnes" "[B") (Jvm.Term.int (47 : Int32))) (Jvm.Term.int (55 : Int32))) args s = true := (an_l (an_r (an_l (an_l (an_r (an_l (an_r (an_l (an_l (an_l (an_r h)))))))))))
set_option maxRecDepth 20000 in
theorem nr_154 {args : Array Value} {s : State} (h : (Jvm.Cond.and given_1 narrow_1).before args s = true) : Cond.before (Jvm.Cond.eq (Jvm.Term.elem (Jvm.Term.static "java/lang/Integer" "DigitOnes" "[B") (Jvm.Term.int (48 : Int32))) (Jvm.Term.int (56 : Int32))) args s = true := (an_r (an_r (an_l (an_l (an_r (an_l (an_r (an_l (an_l (an_l (an_r h)))))))))))
set_option maxRecDepth 20000 in
theorem nr_155 {args : Array Value} {s : State} (h : (Jvm.Cond.and given_1 narrow_1).before args s = true) : Cond.before (Jvm.Cond.eq (Jvm.Term.elem (Jvm.Term.static "java/lang/Integer" "DigitOnes" "[B") (Jvm.Term.int (49 : Int32))) (Jvm.Term.int (57 : Int32))) args s = true := (an_l (an_r (an_l (an_r (an_l (an_r (an_l (an_l (an_l (an_r h))))))))))
set_option maxRecDepth 20000 in
theorem nr_156 {args : Array Value} {s : State} (h : (Jvm.Cond.and given_1 narrow_1).before args s = true) : Cond.before (Jvm.Cond.eq (Jvm.Term.elem (Jvm.Term.static "java/lang/Integer" "DigitOnes" "[B") (Jvm.Term.int (50 : Int32))) (Jvm.Term.int (48 : Int32))) args s = true := (an_l (an_r (an_r (an_l (an_r (an_l (an_r (an_l (an_l (an_l (an_r h)))))))))))
set_option maxRecDepth 20000 in
theorem nr_157 {args : Array Value} {s : State} (h : (Jvm.Cond.and given_1 narrow_1).before args s = true) : Cond.before (Jvm.Cond.eq (Jvm.Term.elem (Jvm.Term.static "java/lang/Integer" "DigitOnes" "[B") (Jvm.Term.int (51 : Int32))) (Jvm.Term.int (49 : Int32))) args s = true := (an_r (an_r (an_r (an_l (an_r (an_l (an_r (an_l (an_l (an_l (an_r h)))))))))))
set_option maxRecDepth 20000 in
theorem nr_158 {args : Array Value} {s : State} (h : (Jvm.Cond.and given_1 narrow_1).before args s = true) : Cond.before (Jvm.Cond.eq (Jvm.Term.elem (Jvm.Term.static "java/lang/Integer" "DigitOnes" "[B") (Jvm.Term.int (52 : Int32))) (Jvm.Term.int (50 : Int32))) args s = true := (an_l (an_l (an_r (an_r (an_l (an_r (an_l (an_l (an_l (an_r h))))))))))
set_option maxRecDepth 20000 in
theorem nr_159 {args : Array Value} {s : State} (h : (Jvm.Cond.and given_1 narrow_1).before args s = true) : Cond.before (Jvm.Cond.eq (Jvm.Term.elem (Jvm.Term.static "java/lang/Integer" "DigitOnes" "[B") (Jvm.Term.int (53 : Int32))) (Jvm.Term.int (51 : Int32))) args s = true := (an_l (an_r (an_l (an_r (an_r (an_l (an_r (an_l (an_l (an_l (an_r h)))))))))))
set_option maxRecDepth 20000 in
theorem nr_160 {args : Array Value} {s : State} (h : (Jvm.Cond.and given_1 narrow_1).before args s = true) : Cond.before (Jvm.Cond.eq (Jvm.Term.elem (Jvm.Term.static "java/lang/Integer" "DigitOnes" "[B") (Jvm.Term.int (54 : Int32))) (Jvm.Term.int (52 : Int32))) args s = true := (an_r (an_r (an_l (an_r (an_r (an_l (an_r (an_l (an_l (an_l (an_r h)))))))))))
set_option maxRecDepth 20000 in
theorem nr_161 {args : Array Value} {s : State} (h : (Jvm.Cond.and given_1 narrow_1).before args s = true) : Cond.before (Jvm.Cond.eq (Jvm.Term.elem (Jvm.Term.static "java/lang/Integer" "DigitOnes" "[B") (Jvm.Term.int (55 : Int32))) (Jvm.Term.int (53 : Int32))) args s = true := (an_l (an_r (an_r (an_r (an_l (an_r (an_l (an_l (an_l (an_r h))))))))))
set_option maxRecDepth 20000 in
theorem nr_162 {args : Array Value} {s : State} (h : (Jvm.Cond.and given_1 narrow_1).before args s = true) : Cond.before (Jvm.Cond.eq (Jvm.Term.elem (Jvm.Term.static "java/lang/Integer" "DigitOnes" "[B") (Jvm.Term.int (56 : Int32))) (Jvm.Term.int (54 : Int32))) args s = true := (an_l (an_r (an_r (an_r (an_r (an_l (an_r (an_l (an_l (an_l (an_r h)))))))))))
set_option maxRecDepth 20000 in
theorem nr_163 {args : Array Value} {s : State} (h : (Jvm.Cond.and given_1 narrow_1).before args s = true) : Cond.before (Jvm.Cond.eq (Jvm.Term.elem (Jvm.Term.static "java/lang/Integer" "DigitOnes" "[B") (Jvm.Term.int (57 : Int32))) (Jvm.Term.int (55 : Int32))) args s = true := (an_r (an_r (an_r (an_r (an_r (an_l (an_r (an_l (an_l (an_l (an_r h)))))))))))
set_option maxRecDepth 20000 in
theorem nr_164 {args : Array Value} {s : State} (h : (Jvm.Cond.and given_1 narrow_1).before args s = true) : Cond.before (Jvm.Cond.eq (Jvm.Term.elem (Jvm.Term.static "java/lang/Integer" "DigitOnes" "[B") (Jvm.Term.int (58 : Int32))) (Jvm.Term.int (56 : Int32))) args s = true := (an_l (an_l (an_l (an_l (an_r (an_r (an_l (an_l (an_l (an_r h))))))))))
set_option maxRecDepth 20000 in
theorem nr_165 {args : Array Value} {s : State} (h : (Jvm.Cond.and given_1 narrow_1).before args s = true) : Cond.before (Jvm.Cond.eq (Jvm.Term.elem (Jvm.Term.static "java/lang/Integer" "DigitOnes" "[B") (Jvm.Term.int (59 : Int32))) (Jvm.Term.int (57 : Int32))) args s = true := (an_l (an_r (an_l (an_l (an_l (an_r (an_r (an_l (an_l (an_l (an_r h)))))))))))
set_option maxRecDepth 20000 in
theorem nr_166 {args : Array Value} {s : State} (h : (Jvm.Cond.and given_1 narrow_1).before args s = true) : Cond.before (Jvm.Cond.eq (Jvm.Term.elem (Jvm.Term.static "java/lang/Integer" "DigitOnes" "[B") (Jvm.Term.int (60 : Int32))) (Jvm.Term.int (48 : Int32))) args s = true := (an_r (an_r (an_l (an_l (an_l (an_r (an_r (an_l (an_l (an_l (an_r h)))))))))))
set_option maxRecDepth 20000 in
theorem nr_167 {args : Array Value} {s : State} (h : (Jvm.Cond.and given_1 narrow_1).before args s = true) : Cond.before (Jvm.Cond.eq (Jvm.Term.elem (Jvm.Term.static "java/lang/Integer" "DigitOnes" "[B") (Jvm.Term.int (61 : Int32))) (Jvm.Term.int (49 : Int32))) args s = true := (an_l (an_r (an_l (an_l (an_r (an_r (an_l (an_l (an_l (an_r h))))))))))
set_option maxRecDepth 20000 in
theorem nr_168 {args : Array Value} {s : State} (h : (Jvm.Cond.and given_1 narrow_1).before args s = true) : Cond.before (Jvm.Cond.eq (Jvm.Term.elem (Jvm.Term.static "java/lang/Integer" "DigitOnes" "[B") (Jvm.Term.int (62 : Int32))) (Jvm.Term.int (50 : Int32))) args s = true := (an_l (an_r (an_r (an_l (an_l (an_r (an_r (an_l (an_l (an_l (an_r h)))))))))))
set_option maxRecDepth 20000 in
theorem nr_169 {args : Array Value} {s : State} (h : (Jvm.Cond.and given_1 narrow_1).before args s = true) : Cond.before (Jvm.Cond.eq (Jvm.Term.elem (Jvm.Term.static "java/lang/Integer" "DigitOnes" "[B") (Jvm.Term.int (63 : Int32))) (Jvm.Term.int (51 : Int32))) args s = true := (an_r (an_r (an_r (an_l (an_l (an_r (an_r (an_l (an_l (an_l (an_r h)))))))))))
set_option maxRecDepth 20000 in
theorem nr_170 {args : Array Value} {s : State} (h : (Jvm.Cond.and given_1 narrow_1).before args s = true) : Cond.before (Jvm.Cond.eq (Jvm.Term.elem (Jvm.Term.static "java/lang/Integer" "DigitOnes" "[B") (Jvm.Term.int (64 : Int32))) (Jvm.Term.int (52 : Int32))) args s = true := (an_l (an_l (an_r (an_l (an_r (an_r (an_l (an_l (an_l (an_r h))))))))))
set_option maxRecDepth 20000 in
theorem nr_171 {args : Array Value} {s : State} (h : (Jvm.Cond.and given_1 narrow_1).before args s = true) : Cond.before (Jvm.Cond.eq (Jvm.Term.elem (Jvm.Term.static "java/lang/Integer" "DigitOnes" "[B") (Jvm.Term.int (65 : Int32))) (Jvm.Term.int (53 : Int32))) args s = true := (an_l (an_r (an_l (an_r (an_l (an_r (an_r (an_l (an_l (an_l (an_r h)))))))))))
set_option maxRecDepth 20000 in
theorem nr_172 {args : Array Value} {s : State} (h : (Jvm.Cond.and given_1 narrow_1).before args s = true) : Cond.before (Jvm.Cond.eq (Jvm.Term.elem (Jvm.Term.static "java/lang/Integer" "DigitOnes" "[B") (Jvm.Term.int (66 : Int32))) (Jvm.Term.int (54 : Int32))) args s = true := (an_r (an_r (an_l (an_r (an_l (an_r (an_r (an_l (an_l (an_l (an_r h)))))))))))
set_option maxRecDepth 20000 in
theorem nr_173 {args : Array Value} {s : State} (h : (Jvm.Cond.and given_1 narrow_1).before args s = true) : Cond.before (Jvm.Cond.eq (Jvm.Term.elem (Jvm.Term.static "java/lang/Integer" "DigitOnes" "[B") (Jvm.Term.int (67 : Int32))) (Jvm.Term.int (55 : Int32))) args s = true := (an_l (an_r (an_r (an_l (an_r (an_r (an_l (an_l (an_l (an_r h))))))))))
set_option maxRecDepth 20000 in
theorem nr_174 {args : Array Value} {s : State} (h : (Jvm.Cond.and given_1 narrow_1).before args s = true) : Cond.before (Jvm.Cond.eq (Jvm.Term.elem (Jvm.Term.static "java/lang/Integer" "DigitOnes" "[B") (Jvm.Term.int (68 : Int32))) (Jvm.Term.int (56 : Int32))) args s = true := (an_l (an_r (an_r (an_r (an_l (an_r (an_r (an_l (an_l (an_l (an_r h)))))))))))
set_option maxRecDepth 20000 in
theorem nr_175 {args : Array Value} {s : State} (h : (Jvm.Cond.and given_1 narrow_1).before args s = true) : Cond.before (Jvm.Cond.eq (Jvm.Term.elem (Jvm.Term.static "java/lang/Integer" "DigitOnes" "[B") (Jvm.Term.int (69 : Int32))) (Jvm.Term.int (57 : Int32))) args s = true := (an_r (an_r (an_r (an_r (an_l (an_r (an_r (an_l (an_l (an_l (an_r h)))))))))))
set_option maxRecDepth 20000 in
theorem nr_176 {args : Array Value} {s : State} (h : (Jvm.Cond.and given_1 narrow_1).before args s = true) : Cond.before (Jvm.Cond.eq (Jvm.Term.elem (Jvm.Term.static "java/lang/Integer" "DigitOnes" "[B") (Jvm.Term.int (70 : Int32))) (Jvm.Term.int (48 : Int32))) args s = true := (an_l (an_l (an_l (an_r (an_r (an_r (an_l (an_l (an_l (an_r h))))))))))
set_option maxRecDepth 20000 in
theorem nr_177 {args : Array Value} {s : State} (h : (Jvm.Cond.and given_1 narrow_1).before args s = true) : Cond.before (Jvm.Cond.eq (Jvm.Term.elem (Jvm.Term.static "java/lang/Integer" "DigitOnes" "[B") (Jvm.Term.int (71 : Int32))) (Jvm.Term.int (49 : Int32))) args s = true := (an_l (an_r (an_l (an_l (an_r (an_r (an_r (an_l (an_l (an_l (an_r h)))))))))))
set_option maxRecDepth 20000 in
theorem nr_178 {args : Array Value} {s : State} (h : (Jvm.Cond.and given_1 narrow_1).before args s = true) : Cond.before (Jvm.Cond.eq (Jvm.Term.elem (Jvm.Term.static "java/lang/Integer" "DigitOnes" "[B") (Jvm.Term.int (72 : Int32))) (Jvm.Term.int (50 : Int32))) args s = true := (an_r (an_r (an_l (an_l (an_r (an_r (an_r (an_l (an_l (an_l (an_r h)))))))))))
set_option maxRecDepth 20000 in
theorem nr_179 {args : Array Value} {s : State} (h : (Jvm.Cond.and given_1 narrow_1).before args s = true) : Cond.before (Jvm.Cond.eq (Jvm.Term.elem (Jvm.Term.static "java/lang/Integer" "DigitOnes" "[B") (Jvm.Term.int (73 : Int32))) (Jvm.Term.int (51 : Int32))) args s = true := (an_l (an_r (an_l (an_r (an_r (an_r (an_l (an_l (an_l (an_r h))))))))))
set_option maxRecDepth 20000 in
theorem nr_180 {args : Array Value} {s : State} (h : (Jvm.Cond.and given_1 narrow_1).before args s = true) : Cond.before (Jvm.Cond.eq (Jvm.Term.elem (Jvm.Term.static "java/lang/Integer" "DigitOnes" "[B") (Jvm.Term.int (74 : Int32))) (Jvm.Term.int (52 : Int32))) args s = true := (an_l (an_r (an_r (an_l (an_r (an_r (an_r (an_l (an_l (an_l (an_r h)))))))))))
set_option maxRecDepth 20000 in
theorem nr_181 {args : Array Value} {s : State} (h : (Jvm.Cond.and given_1 narrow_1).before args s = true) : Cond.before (Jvm.Cond.eq (Jvm.Term.elem (Jvm.Term.static "java/lang/Integer" "DigitOnes" "[B") (Jvm.Term.int (75 : Int32))) (Jvm.Term.int (53 : Int32))) args s = true := (an_r (an_r (an_r (an_l (an_r (an_r (an_r (an_l (an_l (an_l (an_r h)))))))))))
set_option maxRecDepth 20000 in
theorem nr_182 {args : Array Value} {s : State} (h : (Jvm.Cond.and given_1 narrow_1).before args s = true) : Cond.before (Jvm.Cond.eq (Jvm.Term.elem (Jvm.Term.static "java/lang/Integer" "DigitOnes" "[B") (Jvm.Term.int (76 : Int32))) (Jvm.Term.int (54 : Int32))) args s = true := (an_l (an_l (an_r (an_r (an_r (an_r (an_l (an_l (an_l (an_r h))))))))))
set_option maxRecDepth 20000 in
theorem nr_183 {args : Array Value} {s : State} (h : (Jvm.Cond.and given_1 narrow_1).before args s = true) : Cond.before (Jvm.Cond.eq (Jvm.Term.elem (Jvm.Term.static "java/lang/Integer" "DigitOnes" "[B") (Jvm.Term.int (77 : Int32))) (Jvm.Term.int (55 : Int32))) args s = true := (an_l (an_r (an_l (an_r (an_r (an_r (an_r (an_l (an_l (an_l (an_r h)))))))))))
set_option maxRecDepth 20000 in
theorem nr_184 {args : Array Value} {s : State} (h : (Jvm.Cond.and given_1 narrow_1).before args s = true) : Cond.before (Jvm.Cond.eq (Jvm.Term.elem (Jvm.Term.static "java/lang/Integer" "DigitOnes" "[B") (Jvm.Term.int (78 : Int32))) (Jvm.Term.int (56 : Int32))) args s = true := (an_r (an_r (an_l (an_r (an_r (an_r (an_r (an_l (an_l (an_l (an_r h)))))))))))
set_option maxRecDepth 20000 in
theorem nr_185 {args : Array Value} {s : State} (h : (Jvm.Cond.and given_1 narrow_1).before args s = true) : Cond.before (Jvm.Cond.eq (Jvm.Term.elem (Jvm.Term.static "java/lang/Integer" "DigitOnes" "[B") (Jvm.Term.int (79 : Int32))) (Jvm.Term.int (57 : Int32))) args s = true := (an_l (an_r (an_r (an_r (an_r (an_r (an_l (an_l (an_l (an_r h))))))))))
set_option maxRecDepth 20000 in
theorem nr_186 {args : Array Value} {s : State} (h : (Jvm.Cond.and given_1 narrow_1).before args s = true) : Cond.before (Jvm.Cond.eq (Jvm.Term.elem (Jvm.Term.static "java/lang/Integer" "DigitOnes" "[B") (Jvm.Term.int (80 : Int32))) (Jvm.Term.int (48 : Int32))) args s = true := (an_l (an_r (an_r (an_r (an_r (an_r (an_r (an_l (an_l (an_l (an_r h)))))))))))
set_option maxRecDepth 20000 in
theorem nr_187 {args : Array Value} {s : State} (h : (Jvm.Cond.and given_1 narrow_1).before args s = true) : Cond.before (Jvm.Cond.eq (Jvm.Term.elem (Jvm.Term.static "java/lang/Integer" "DigitOnes" "[B") (Jvm.Term.int (81 : Int32))) (Jvm.Term.int (49 : Int32))) args s = true := (an_r (an_r (an_r (an_r (an_r (an_r (an_r (an_l (an_l (an_l (an_r h)))))))))))
set_option maxRecDepth 20000 in
theorem nr_188 {args : Array Value} {s : State} (h : (Jvm.Cond.and given_1 narrow_1).before args s = true) : Cond.before (Jvm.Cond.eq (Jvm.Term.elem (Jvm.Term.static "java/lang/Integer" "DigitOnes" "[B") (Jvm.Term.int (82 : Int32))) (Jvm.Term.int (50 : Int32))) args s = true := (an_l (an_l (an_l (an_l (an_l (an_l (an_r (an_l (an_l (an_r h))))))))))
set_option maxRecDepth 20000 in
theorem nr_189 {args : Array Value} {s : State} (h : (Jvm.Cond.and given_1 narrow_1).before args s = true) : Cond.before (Jvm.Cond.eq (Jvm.Term.elem (Jvm.Term.static "java/lang/Integer" "DigitOnes" "[B") (Jvm.Term.int (83 : Int32))) (Jvm.Term.int (51 : Int32))) args s = true := (an_r (an_l (an_l (an_l (an_l (an_l (an_r (an_l (an_l (an_r h))))))))))
set_option maxRecDepth 20000 in
theorem nr_190 {args : Array Value} {s : State} (h : (Jvm.Cond.and given_1 narrow_1).before args s = true) : Cond.before (Jvm.Cond.eq (Jvm.Term.elem (Jvm.Term.static "java/lang/Integer" "DigitOnes" "[B") (Jvm.Term.int (84 : Int32))) (Jvm.Term.int (52 : Int32))) args s = true := (an_l (an_r (an_l (an_l (an_l (an_l (an_r (an_l (an_l (an_r h))))))))))
set_option maxRecDepth 20000 in
theorem nr_191 {args : Array Value} {s : State} (h : (Jvm.Cond.and given_1 narrow_1).before args s = true) : Cond.before (Jvm.Cond.eq (Jvm.Term.elem (Jvm.Term.static "java/lang/Integer" "DigitOnes" "[B") (Jvm.Term.int (85 : Int32))) (Jvm.Term.int (53 : Int32))) args s = true := (an_l (an_r (an_r (an_l (an_l (an_l (an_l (an_r (an_l (an_l (an_r h)))))))))))
set_option maxRecDepth 20000 in
theorem nr_192 {args : Array Value} {s : State} (h : (Jvm.Cond.and given_1 narrow_1).before args s = true) : Cond.before (Jvm.Cond.eq (Jvm.Term.elem (Jvm.Term.static "java/lang/Integer" "DigitOnes" "[B") (Jvm.Term.int (86 : Int32))) (Jvm.Term.int (54 : Int32))) args s = true := (an_r (an_r (an_r (an_l (an_l (an_l (an_l (an_r (an_l (an_l (an_r h)))))))))))
set_option maxRecDepth 20000 in
theorem nr_193 {args : Array Value} {s : State} (h : (Jvm.Cond.and given_1 narrow_1).before args s = true) : Cond.before (Jvm.Cond.eq (Jvm.Term.elem (Jvm.Term.static "java/lang/Integer" "DigitOnes" "[B") (Jvm.Term.int (87 : Int32))) (Jvm.Term.int (55 : Int32))) args s = true := (an_l (an_l (an_r (an_l (an_l (an_l (an_r (an_l (an_l (an_r h))))))))))
set_option maxRecDepth 20000 in
theorem nr_194 {args : Array Value} {s : State} (h : (Jvm.Cond.and given_1 narrow_1).before args s = true) : Cond.before (Jvm.Cond.eq (Jvm.Term.elem (Jvm.Term.static "java/lang/Integer" "DigitOnes" "[B") (Jvm.Term.int (88 : Int32))) (Jvm.Term.int (56 : Int32))) args s = true := (an_l (an_r (an_l (an_r (an_l (an_l (an_l (an_r (an_l (an_l (an_r h)))))))))))
set_option maxRecDepth 20000 in
theorem nr_195 {args : Array Value} {s : State} (h : (Jvm.Cond.and given_1 narrow_1).before args s = true) : Cond.before (Jvm.Cond.eq (Jvm.Term.elem (Jvm.Term.static "java/lang/Integer" "DigitOnes" "[B") (Jvm.Term.int (89 : Int32))) (Jvm.Term.int (57 : Int32))) args s = true := (an_r (an_r (an_l (an_r (an_l (an_l (an_l (an_r (an_l (an_l (an_r h)))))))))))
set_option maxRecDepth 20000 in
theorem nr_196 {args : Array Value} {s : State} (h : (Jvm.Cond.and given_1 narrow_1).before args s = true) : Cond.before (Jvm.Cond.eq (Jvm.Term.elem (Jvm.Term.static "java/lang/Integer" "DigitOnes" "[B") (Jvm.Term.int (90 : Int32))) (Jvm.Term.int (48 : Int32))) args s = true := (an_l (an_r (an_r (an_l (an_l (an_l (an_r (an_l (an_l (an_r h))))))))))
set_option maxRecDepth 20000 in
theorem nr_197 {args : Array Value} {s : State} (h : (Jvm.Cond.and given_1 narrow_1).before args s = true) : Cond.before (Jvm.Cond.eq (Jvm.Term.elem (Jvm.Term.static "java/lang/Integer" "DigitOnes" "[B") (Jvm.Term.int (91 : Int32))) (Jvm.Term.int (49 : Int32))) args s = true := (an_l (an_r (an_r (an_r (an_l (an_l (an_l (an_r (an_l (an_l (an_r h)))))))))))
set_option maxRecDepth 20000 in
theorem nr_198 {args : Array Value} {s : State} (h : (Jvm.Cond.and given_1 narrow_1).before args s = true) : Cond.before (Jvm.Cond.eq (Jvm.Term.elem (Jvm.Term.static "java/lang/Integer" "DigitOnes" "[B") (Jvm.Term.int (92 : Int32))) (Jvm.Term.int (50 : Int32))) args s = true := (an_r (an_r (an_r (an_r (an_l (an_l (an_l (an_r (an_l (an_l (an_r h)))))))))))
set_option maxRecDepth 20000 in
theorem nr_199 {args : Array Value} {s : State} (h : (Jvm.Cond.and given_1 narrow_1).before args s = true) : Cond.before (Jvm.Cond.eq (Jvm.Term.elem (Jvm.Term.static "java/lang/Integer" "DigitOnes" "[B") (Jvm.Term.int (93 : Int32))) (Jvm.Term.int (51 : Int32))) args s = true := (an_l (an_l (an_l (an_r (an_l (an_l (an_r (an_l (an_l (an_r h))))))))))
set_option maxRecDepth 20000 in
theorem nr_200 {args : Array Value} {s : State} (h : (Jvm.Cond.and given_1 narrow_1).before args s = true) : Cond.before (Jvm.Cond.eq (Jvm.Term.elem (Jvm.Term.static "java/lang/Integer" "DigitOnes" "[B") (Jvm.Term.int (94 : Int32))) (Jvm.Term.int (52 : Int32))) args s = true := (an_l (an_r (an_l (an_l (an_r (an_l (an_l (an_r (an_l (an_l (an_r h)))))))))))
set_option maxRecDepth 20000 in
theorem nr_201 {args : Array Value} {s : State} (h : (Jvm.Cond.and given_1 narrow_1).before args s = true) : Cond.before (Jvm.Cond.eq (Jvm.Term.elem (Jvm.Term.static "java/lang/Integer" "DigitOnes" "[B") (Jvm.Term.int (95 : Int32))) (Jvm.Term.int (53 : Int32))) args s = true := (an_r (an_r (an_l (an_l (an_r (an_l (an_l (an_r (an_l (an_l (an_r h)))))))))))
set_option maxRecDepth 20000 in
theorem nr_202 {args : Array Value} {s : State} (h : (Jvm.Cond.and given_1 narrow_1).before args s = true) : Cond.before (Jvm.Cond.eq (Jvm.Term.elem (Jvm.Term.static "java/lang/Integer" "DigitOnes" "[B") (Jvm.Term.int (96 : Int32))) (Jvm.Term.int (54 : Int32))) args s = true := (an_l (an_r (an_l (an_r (an_l (an_l (an_r (an_l (an_l (an_r h))))))))))
set_option maxRecDepth 20000 in
theorem nr_203 {args : Array Value} {s : State} (h : (Jvm.Cond.and given_1 narrow_1).before args s = true) : Cond.before (Jvm.Cond.eq (Jvm.Term.elem (Jvm.Term.static "java/lang/Integer" "DigitOnes" "[B") (Jvm.Term.int (97 : Int32))) (Jvm.Term.int (55 : Int32))) args s = true := (an_l (an_r (an_r (an_l (an_r (an_l (an_l (an_r (an_l (an_l (an_r h)))))))))))
set_option maxRecDepth 20000 in
theorem nr_204 {args : Array Value} {s : State} (h : (Jvm.Cond.and given_1 narrow_1).before args s = true) : Cond.before (Jvm.Cond.eq (Jvm.Term.elem (Jvm.Term.static "java/lang/Integer" "DigitOnes" "[B") (Jvm.Term.int (98 : Int32))) (Jvm.Term.int (56 : Int32))) args s = true := (an_r (an_r (an_r (an_l (an_r (an_l (an_l (an_r (an_l (an_l (an_r h)))))))))))
set_option maxRecDepth 20000 in
theorem nr_205 {args : Array Value} {s : State} (h : (Jvm.Cond.and given_1 narrow_1).before args s = true) : Cond.before (Jvm.Cond.eq (Jvm.Term.elem (Jvm.Term.static "java/lang/Integer" "DigitOnes" "[B") (Jvm.Term.int (99 : Int32))) (Jvm.Term.int (57 : Int32))) args s = true := (an_l (an_l (an_r (an_r (an_l (an_l (an_r (an_l (an_l (an_r h))))))))))
set_option maxRecDepth 20000 in
theorem nr_206 {args : Array Value} {s : State} (h : (Jvm.Cond.and given_1 narrow_1).before args s = true) : Cond.before (Jvm.Cond.arrayOf (Jvm.Term.static "java/lang/Integer" "DigitTens" "[B") Jvm.ClassFile.FieldType.byte) args s = true := (an_r (an_r (an_l (an_r (an_r (an_l (an_l (an_r (an_l (an_l (an_r h)))))))))))
set_option maxRecDepth 20000 in
theorem nr_207 {args : Array Value} {s : State} (h : (Jvm.Cond.and given_1 narrow_1).before args s = true) : Cond.before (Jvm.Cond.eq (Jvm.Term.length (Jvm.Term.static "java/lang/Integer" "DigitTens" "[B")) (Jvm.Term.int (100 : Int32))) args s = true := (an_l (an_r (an_r (an_r (an_l (an_l (an_r (an_l (an_l (an_r h))))))))))
set_option maxRecDepth 20000 in
theorem nr_208 {args : Array Value} {s : State} (h : (Jvm.Cond.and given_1 narrow_1).before args s = true) : Cond.before (Jvm.Cond.eq (Jvm.Term.elem (Jvm.Term.static "java/lang/Integer" "DigitTens" "[B") (Jvm.Term.int (0 : Int32))) (Jvm.Term.int (48 : Int32))) args s = true := (an_l (an_r (an_r (an_r (an_r (an_l (an_l (an_r (an_l (an_l (an_r h)))))))))))
set_option maxRecDepth 20000 in
theorem nr_209 {args : Array Value} {s : State} (h : (Jvm.Cond.and given_1 narrow_1).before args s = true) : Cond.before (Jvm.Cond.eq (Jvm.Term.elem (Jvm.Term.static "java/lang/Integer" "DigitTens" "[B") (Jvm.Term.int (1 : Int32))) (Jvm.Term.int (48 : Int32))) args s = true := (an_r (an_r (an_r (an_r (an_r (an_l (an_l (an_r (an_l (an_l (an_r h)))))))))))
set_option maxRecDepth 20000 in
theorem nr_210 {args : Array Value} {s : State} (h : (Jvm.Cond.and given_1 narrow_1).before args s = true) : Cond.before (Jvm.Cond.eq (Jvm.Term.elem (Jvm.Term.static "java/lang/Integer" "DigitTens" "[B") (Jvm.Term.int (2 : Int32))) (Jvm.Term.int (48 : Int32))) args s = true := (an_l (an_l (an_l (an_l (an_r (an_l (an_r (an_l (an_l (an_r h))))))))))
set_option maxRecDepth 20000 in
theorem nr_211 {args : Array Value} {s : State} (h : (Jvm.Cond.and given_1 narrow_1).before args s = true) : Cond.before (Jvm.Cond.eq (Jvm.Term.elem (Jvm.Term.static "java/lang/Integer" "DigitTens" "[B") (Jvm.Term.int (3 : Int32))) (Jvm.Term.int (48 : Int32))) args s = true := (an_l (an_r (an_l (an_l (an_l (an_r (an_l (an_r (an_l (an_l (an_r h)))))))))))
set_option maxRecDepth 20000 in
theorem nr_212 {args : Array Value} {s : State} (h : (Jvm.Cond.and given_1 narrow_1).before args s = true) : Cond.before (Jvm.Cond.eq (Jvm.Term.elem (Jvm.Term.static "java/lang/Integer" "DigitTens" "[B") (Jvm.Term.int (4 : Int32))) (Jvm.Term.int (48 : Int32))) args s = true := (an_r (an_r (an_l (an_l (an_l (an_r (an_l (an_r (an_l (an_l (an_r h)))))))))))
set_option maxRecDepth 20000 in
theorem nr_213 {args : Array Value} {s : State} (h : (Jvm.Cond.and given_1 narrow_1).before args s = true) : Cond.before (Jvm.Cond.eq (Jvm.Term.elem (Jvm.Term.static "java/lang/Integer" "DigitTens" "[B") (Jvm.Term.int (5 : Int32))) (Jvm.Term.int (48 : Int32))) args s = true := (an_l (an_r (an_l (an_l (an_r (an_l (an_r (an_l (an_l (an_r h))))))))))
set_option maxRecDepth 20000 in
theorem nr_214 {args : Array Value} {s : State} (h : (Jvm.Cond.and given_1 narrow_1).before args s = true) : Cond.before (Jvm.Cond.eq (Jvm.Term.elem (Jvm.Term.static "java/lang/Integer" "DigitTens" "[B") (Jvm.Term.int (6 : Int32))) (Jvm.Term.int (48 : Int32))) args s = true := (an_l (an_r (an_r (an_l (an_l (an_r (an_l (an_r (an_l (an_l (an_r h)))))))))))
set_option maxRecDepth 20000 in
theorem nr_215 {args : Array Value} {s : State} (h : (Jvm.Cond.and given_1 narrow_1).before args s = true) : Cond.before (Jvm.Cond.eq (Jvm.Term.elem (Jvm.Term.static "java/lang/Integer" "DigitTens" "[B") (Jvm.Term.int (7 : Int32))) (Jvm.Term.int (48 : Int32))) args s = true := (an_r (an_r (an_r (an_l (an_l (an_r (an_l (an_r (an_l (an_l (an_r h)))))))))))
set_option maxRecDepth 20000 in
theorem nr_216 {args : Array Value} {s : State} (h : (Jvm.Cond.and given_1 narrow_1).before args s = true) : Cond.before (Jvm.Cond.eq (Jvm.Term.elem (Jvm.Term.static "java/lang/Integer" "DigitTens" "[B") (Jvm.Term.int (8 : Int32))) (Jvm.Term.int (48 : Int32))) args s = true := (an_l (an_l (an_r (an_l (an_r (an_l (an_r (an_l (an_l (an_r h))))))))))
set_option maxRecDepth 20000 in
theorem nr_217 {args : Array Value} {s : State} (h : (Jvm.Cond.and given_1 narrow_1).before args s = true) : Cond.before (Jvm.Cond.eq (Jvm.Term.elem (Jvm.Term.static "java/lang/Integer" "DigitTens" "[B") (Jvm.Term.int (9 : Int32))) (Jvm.Term.int (48 : Int32))) args s = true := (an_l (an_r (an_l (an_r (an_l (an_r (an_l (an_r (an_l (an_l (an_r h)))))))))))
set_option maxRecDepth 20000 in
theorem nr_218 {args : Array Value} {s : State} (h : (Jvm.Cond.and given_1 narrow_1).before args s = true) : Cond.before (Jvm.Cond.eq (Jvm.Term.elem (Jvm.Term.static "java/lang/Integer" "DigitTens" "[B") (Jvm.Term.int (10 : Int32))) (Jvm.Term.int (49 : Int32))) args s = true := (an_r (an_r (an_l (an_r (an_l (an_r (an_l (an_r (an_l (an_l (an_r h)))))))))))
set_option maxRecDepth 20000 in
theorem nr_219 {args : Array Value} {s : State} (h : (Jvm.Cond.and given_1 narrow_1).before args s = true) : Cond.before (Jvm.Cond.eq (Jvm.Term.elem (Jvm.Term.static "java/lang/Integer" "DigitTens" "[B") (Jvm.Term.int (11 : Int32))) (Jvm.Term.int (49 : Int32))) args s = true := (an_l (an_r (an_r (an_l (an_r (an_l (an_r (an_l (an_l (an_r h))))))))))
set_option maxRecDepth 20000 in
theorem nr_220 {args : Array Value} {s : State} (h : (Jvm.Cond.and given_1 narrow_1).before args s = true) : Cond.before (Jvm.Cond.eq (Jvm.Term.elem (Jvm.Term.static "java/lang/Integer" "DigitTens" "[B") (Jvm.Term.int (12 : Int32))) (Jvm.Term.int (49 : Int32))) args s = true := (an_l (an_r (an_r (an_r (an_l (an_r (an_l (an_r (an_l (an_l (an_r h)))))))))))
set_option maxRecDepth 20000 in
theorem nr_221 {args : Array Value} {s : State} (h : (Jvm.Cond.and given_1 narrow_1).before args s = true) : Cond.before (Jvm.Cond.eq (Jvm.Term.elem (Jvm.Term.static "java/lang/Integer" "DigitTens" "[B") (Jvm.Term.int (13 : Int32))) (Jvm.Term.int (49 : Int32))) args s = true := (an_r (an_r (an_r (an_r (an_l (an_r (an_l (an_r (an_l (an_l (an_r h)))))))))))
set_option maxRecDepth 20000 in
theorem nr_222 {args : Array Value} {s : State} (h : (Jvm.Cond.and given_1 narrow_1).before args s = true) : Cond.before (Jvm.Cond.eq (Jvm.Term.elem (Jvm.Term.static "java/lang/Integer" "DigitTens" "[B") (Jvm.Term.int (14 : Int32))) (Jvm.Term.int (49 : Int32))) args s = true := (an_l (an_l (an_l (an_r (an_r (an_l (an_r (an_l (an_l (an_r h))))))))))
set_option maxRecDepth 20000 in
theorem nr_223 {args : Array Value} {s : State} (h : (Jvm.Cond.and given_1 narrow_1).before args s = true) : Cond.before (Jvm.Cond.eq (Jvm.Term.elem (Jvm.Term.static "java/lang/Integer" "DigitTens" "[B") (Jvm.Term.int (15 : Int32))) (Jvm.Term.int (49 : Int32))) args s = true := (an_l (an_r (an_l (an_l (an_r (an_r (an_l (an_r (an_l (an_l (an_r h)))))))))))
set_option maxRecDepth 20000 in
theorem nr_224 {args : Array Value} {s : State} (h : (Jvm.Cond.and given_1 narrow_1).before args s = true) : Cond.before (Jvm.Cond.eq (Jvm.Term.elem (Jvm.Term.static "java/lang/Integer" "DigitTens" "[B") (Jvm.Term.int (16 : Int32))) (Jvm.Term.int (49 : Int32))) args s = true := (an_r (an_r (an_l (an_l (an_r (an_r (an_l (an_r (an_l (an_l (an_r h)))))))))))
set_option maxRecDepth 20000 in
theorem nr_225 {args : Array Value} {s : State} (h : (Jvm.Cond.and given_1 narrow_1).before args s = true) : Cond.before (Jvm.Cond.eq (Jvm.Term.elem (Jvm.Term.static "java/lang/Integer" "DigitTens" "[B") (Jvm.Term.int (17 : Int32))) (Jvm.Term.int (49 : Int32))) args s = true := (an_l (an_r (an_l (an_r (an_r (an_l (an_r (an_l (an_l (an_r h))))))))))
set_option maxRecDepth 20000 in
theorem nr_226 {args : Array Value} {s : State} (h : (Jvm.Cond.and given_1 narrow_1).before args s = true) : Cond.before (Jvm.Cond.eq (Jvm.Term.elem (Jvm.Term.static "java/lang/Integer" "DigitTens" "[B") (Jvm.Term.int (18 : Int32))) (Jvm.Term.int (49 : Int32))) args s = true := (an_l (an_r (an_r (an_l (an_r (an_r (an_l (an_r (an_l (an_l (an_r h)))))))))))
set_option maxRecDepth 20000 in
theorem nr_227 {args : Array Value} {s : State} (h : (Jvm.Cond.and given_1 narrow_1).before args s = true) : Cond.before (Jvm.Cond.eq (Jvm.Term.elem (Jvm.Term.static "java/lang/Integer" "DigitTens" "[B") (Jvm.Term.int (19 : Int32))) (Jvm.Term.int (49 : Int32))) args s = true := (an_r (an_r (an_r (an_l (an_r (an_r (an_l (an_r (an_l (an_l (an_r h)))))))))))
set_option maxRecDepth 20000 in
theorem nr_228 {args : Array Value} {s : State} (h : (Jvm.Cond.and given_1 narrow_1).before args s = true) : Cond.before (Jvm.Cond.eq (Jvm.Term.elem (Jvm.Term.static "java/lang/Integer" "DigitTens" "[B") (Jvm.Term.int (20 : Int32))) (Jvm.Term.int (50 : Int32))) args s = true := (an_l (an_l (an_r (an_r (an_r (an_l (an_r (an_l (an_l (an_r h))))))))))
set_option maxRecDepth 20000 in
theorem nr_229 {args : Array Value} {s : State} (h : (Jvm.Cond.and given_1 narrow_1).before args s = true) : Cond.before (Jvm.Cond.eq (Jvm.Term.elem (Jvm.Term.static "java/lang/Integer" "DigitTens" "[B") (Jvm.Term.int (21 : Int32))) (Jvm.Term.int (50 : Int32))) args s = true := (an_l (an_r (an_l (an_r (an_r (an_r (an_l (an_r (an_l (an_l (an_r h)))))))))))
set_option maxRecDepth 20000 in
theorem nr_230 {args : Array Value} {s : State} (h : (Jvm.Cond.and given_1 narrow_1).before args s = true) : Cond.before (Jvm.Cond.eq (Jvm.Term.elem (Jvm.Term.static "java/lang/Integer" "DigitTens" "[B") (Jvm.Term.int (22 : Int32))) (Jvm.Term.int (50 : Int32))) args s = true := (an_r (an_r (an_l (an_r (an_r (an_r (an_l (an_r (an_l (an_l (an_r h)))))))))))
set_option maxRecDepth 20000 in
theorem nr_231 {args : Array Value} {s : State} (h : (Jvm.Cond.and given_1 narrow_1).before args s = true) : Cond.before (Jvm.Cond.eq (Jvm.Term.elem (Jvm.Term.static "java/lang/Integer" "DigitTens" "[B") (Jvm.Term.int (23 : Int32))) (Jvm.Term.int (50 : Int32))) args s = true := (an_l (an_r (an_r (an_r (an_r (an_l (an_r (an_l (an_l (an_r h))))))))))
set_option maxRecDepth 20000 in
theorem nr_232 {args : Array Value} {s : State} (h : (Jvm.Cond.and given_1 narrow_1).before args s = true) : Cond.before (Jvm.Cond.eq (Jvm.Term.elem (Jvm.Term.static "java/lang/Integer" "DigitTens" "[B") (Jvm.Term.int (24 : Int32))) (Jvm.Term.int (50 : Int32))) args s = true := (an_l (an_r (an_r (an_r (an_r (an_r (an_l (an_r (an_l (an_l (an_r h)))))))))))
set_option maxRecDepth 20000 in
theorem nr_233 {args : Array Value} {s : State} (h : (Jvm.Cond.and given_1 narrow_1).before args s = true) : Cond.before (Jvm.Cond.eq (Jvm.Term.elem (Jvm.Term.static "java/lang/Integer" "DigitTens" "[B") (Jvm.Term.int (25 : Int32))) (Jvm.Term.int (50 : Int32))) args s = true := (an_r (an_r (an_r (an_r (an_r (an_r (an_l (an_r (an_l (an_l (an_r h)))))))))))
set_option maxRecDepth 20000 in
theorem nr_234 {args : Array Value} {s : State} (h : (Jvm.Cond.and given_1 narrow_1).before args s = true) : Cond.before (Jvm.Cond.eq (Jvm.Term.elem (Jvm.Term.static "java/lang/Integer" "DigitTens" "[B") (Jvm.Term.int (26 : Int32))) (Jvm.Term.int (50 : Int32))) args s = true := (an_l (an_l (an_l (an_l (an_l (an_r (an_r (an_l (an_l (an_r h))))))))))
set_option maxRecDepth 20000 in
theorem nr_235 {args : Array Value} {s : State} (h : (Jvm.Cond.and given_1 narrow_1).before args s = true) : Cond.before (Jvm.Cond.eq (Jvm.Term.elem (Jvm.Term.static "java/lang/Integer" "DigitTens" "[B") (Jvm.Term.int (27 : Int32))) (Jvm.Term.int (50 : Int32))) args s = true := (an_r (an_l (an_l (an_l (an_l (an_r (an_r (an_l (an_l (an_r h))))))))))
set_option maxRecDepth 20000 in
theorem nr_236 {args : Array Value} {s : State} (h : (Jvm.Cond.and given_1 narrow_1).before args s = true) : Cond.before (Jvm.Cond.eq (Jvm.Term.elem (Jvm.Term.static "java/lang/Integer" "DigitTens" "[B") (Jvm.Term.int (28 : Int32))) (Jvm.Term.int (50 : Int32))) args s = true := (an_l (an_r (an_l (an_l (an_l (an_r (an_r (an_l (an_l (an_r h))))))))))
set_option maxRecDepth 20000 in
theorem nr_237 {args : Array Value} {s : State} (h : (Jvm.Cond.and given_1 narrow_1).before args s = true) : Cond.before (Jvm.Cond.eq (Jvm.Term.elem (Jvm.Term.static "java/lang/Integer" "DigitTens" "[B") (Jvm.Term.int (29 : Int32))) (Jvm.Term.int (50 : Int32))) args s = true := (an_l (an_r (an_r (an_l (an_l (an_l (an_r (an_r (an_l (an_l (an_r h)))))))))))
set_option maxRecDepth 20000 in
theorem nr_238 {args : Array Value} {s : State} (h : (Jvm.Cond.and given_1 narrow_1).before args s = true) : Cond.before (Jvm.Cond.eq (Jvm.Term.elem (Jvm.Term.static "java/lang/Integer" "DigitTens" "[B") (Jvm.Term.int (30 : Int32))) (Jvm.Term.int (51 : Int32))) args s = true := (an_r (an_r (an_r (an_l (an_l (an_l (an_r (an_r (an_l (an_l (an_r h)))))))))))
set_option maxRecDepth 20000 in
theorem nr_239 {args : Array Value} {s : State} (h : (Jvm.Cond.and given_1 narrow_1).before args s = true) : Cond.before (Jvm.Cond.eq (Jvm.Term.elem (Jvm.Term.static "java/lang/Integer" "DigitTens" "[B") (Jvm.Term.int (31 : Int32))) (Jvm.Term.int (51 : Int32))) args s = true := (an_l (an_l (an_r (an_l (an_l (an_r (an_r (an_l (an_l (an_r h))))))))))
set_option maxRecDepth 20000 in
theorem nr_240 {args : Array Value} {s : State} (h : (Jvm.Cond.and given_1 narrow_1).before args s = true) : Cond.before (Jvm.Cond.eq (Jvm.Term.elem (Jvm.Term.static "java/lang/Integer" "DigitTens" "[B") (Jvm.Term.int (32 : Int32))) (Jvm.Term.int (51 : Int32))) args s = true := (an_l (an_r (an_l (an_r (an_l (an_l (an_r (an_r (an_l (an_l (an_r h)))))))))))
set_option maxRecDepth 20000 in
theorem nr_241 {args : Array Value} {s : State} (h : (Jvm.Cond.and given_1 narrow_1).before args s = true) : Cond.before (Jvm.Cond.eq (Jvm.Term.elem (Jvm.Term.static "java/lang/Integer" "DigitTens" "[B") (Jvm.Term.int (33 : Int32))) (Jvm.Term.int (51 : Int32))) args s = true := (an_r (an_r (an_l (an_r (an_l (an_l (an_r (an_r (an_l (an_l (an_r h)))))))))))
set_option maxRecDepth 20000 in
theorem nr_242 {args : Array Value} {s : State} (h : (Jvm.Cond.and given_1 narrow_1).before args s = true) : Cond.before (Jvm.Cond.eq (Jvm.Term.elem (Jvm.Term.static "java/lang/Integer" "DigitTens" "[B") (Jvm.Term.int (34 : Int32))) (Jvm.Term.int (51 : Int32))) args s = true := (an_l (an_r (an_r (an_l (an_l (an_r (an_r (an_l (an_l (an_r h))))))))))
set_option maxRecDepth 20000 in
theorem nr_243 {args : Array Value} {s : State} (h : (Jvm.Cond.and given_1 narrow_1).before args s = true) : Cond.before (Jvm.Cond.eq (Jvm.Term.elem (Jvm.Term.static "java/lang/Integer" "DigitTens" "[B") (Jvm.Term.int (35 : Int32))) (Jvm.Term.int (51 : Int32))) args s = true := (an_l (an_r (an_r (an_r (an_l (an_l (an_r (an_r (an_l (an_l (an_r h)))))))))))
set_option maxRecDepth 20000 in
theorem nr_244 {args : Array Value} {s : State} (h : (Jvm.Cond.and given_1 narrow_1).before args s = true) : Cond.before (Jvm.Cond.eq (Jvm.Term.elem (Jvm.Term.static "java/lang/Integer" "DigitTens" "[B") (Jvm.Term.int (36 : Int32))) (Jvm.Term.int (51 : Int32))) args s = true := (an_r (an_r (an_r (an_r (an_l (an_l (an_r (an_r (an_l (an_l (an_r h)))))))))))
set_option maxRecDepth 20000 in
theorem nr_245 {args : Array Value} {s : State} (h : (Jvm.Cond.and given_1 narrow_1).before args s = true) : Cond.before (Jvm.Cond.eq (Jvm.Term.elem (Jvm.Term.static "java/lang/Integer" "DigitTens" "[B") (Jvm.Term.int (37 : Int32))) (Jvm.Term.int (51 : Int32))) args s = true := (an_l (an_l (an_l (an_r (an_l (an_r (an_r (an_l (an_l (an_r h))))))))))
set_option maxRecDepth 20000 in
theorem nr_246 {args : Array Value} {s : State} (h : (Jvm.Cond.and given_1 narrow_1).before args s = true) : Cond.before (Jvm.Cond.eq (Jvm.Term.elem (Jvm.Term.static "java/lang/Integer" "DigitTens" "[B") (Jvm.Term.int (38 : Int32))) (Jvm.Term.int (51 : Int32))) args s = true := (an_l (an_r (an_l (an_l (an_r (an_l (an_r (an_r (an_l (an_l (an_r h)))))))))))
set_option maxRecDepth 20000 in
theorem nr_247 {args : Array Value} {s : State} (h : (Jvm.Cond.and given_1 narrow_1).before args s = true) : Cond.before (Jvm.Cond.eq (Jvm.Term.elem (Jvm.Term.static "java/lang/Integer" "DigitTens" "[B") (Jvm.Term.int (39 : Int32))) (Jvm.Term.int (51 : Int32))) args s = true := (an_r (an_r (an_l (an_l (an_r (an_l (an_r (an_r (an_l (an_l (an_r h)))))))))))
set_option maxRecDepth 20000 in
theorem nr_248 {args : Array Value} {s : State} (h : (Jvm.Cond.and given_1 narrow_1).before args s = true) : Cond.before (Jvm.Cond.eq (Jvm.Term.elem (Jvm.Term.static "java/lang/Integer" "DigitTens" "[B") (Jvm.Term.int (40 : Int32))) (Jvm.Term.int (52 : Int32))) args s = true := (an_l (an_r (an_l (an_r (an_l (an_r (an_r (an_l (an_l (an_r h))))))))))
set_option maxRecDepth 20000 in
theorem nr_249 {args : Array Value} {s : State} (h : (Jvm.Cond.and given_1 narrow_1).before args s = true) : Cond.before (Jvm.Cond.eq (Jvm.Term.elem (Jvm.Term.static "java/lang/Integer" "DigitTens" "[B") (Jvm.Term.int (41 : Int32))) (Jvm.Term.int (52 : Int32))) args s = true := (an_l (an_r (an_r (an_l (an_r (an_l (an_r (an_r (an_l (an_l (an_r h)))))))))))
set_option maxRecDepth 20000 in
theorem nr_250 {args : Array Value} {s : State} (h : (Jvm.Cond.and given_1 narrow_1).before args s = true) : Cond.before (Jvm.Cond.eq (Jvm.Term.elem (Jvm.Term.static "java/lang/Integer" "DigitTens" "[B") (Jvm.Term.int (42 : Int32))) (Jvm.Term.int (52 : Int32))) args s = true := (an_r (an_r (an_r (an_l (an_r (an_l (an_r (an_r (an_l (an_l (an_r h)))))))))))
set_option maxRecDepth 20000 in
theorem nr_251 {args : Array Value} {s : State} (h : (Jvm.Cond.and given_1 narrow_1).before args s = true) : Cond.before (Jvm.Cond.eq (Jvm.Term.elem (Jvm.Term.static "java/lang/Integer" "DigitTens" "[B") (Jvm.Term.int (43 : Int32))) (Jvm.Term.int (52 : Int32))) args s = true := (an_l (an_l (an_r (an_r (an_l (an_r (an_r (an_l (an_l (an_r h))))))))))
set_option maxRecDepth 20000 in
theorem nr_252 {args : Array Value} {s : State} (h : (Jvm.Cond.and given_1 narrow_1).before args s = true) : Cond.before (Jvm.Cond.eq (Jvm.Term.elem (Jvm.Term.static "java/lang/Integer" "DigitTens" "[B") (Jvm.Term.int (44 : Int32))) (Jvm.Term.int (52 : Int32))) args s = true := (an_l (an_r (an_l (an_r (an_r (an_l (an_r (an_r (an_l (an_l (an_r h)))))))))))
set_option maxRecDepth 20000 in
theorem nr_253 {args : Array Value} {s : State} (h : (Jvm.Cond.and given_1 narrow_1).before args s = true) : Cond.before (Jvm.Cond.eq (Jvm.Term.elem (Jvm.Term.static "java/lang/Integer" "DigitTens" "[B") (Jvm.Term.int (45 : Int32))) (Jvm.Term.int (52 : Int32))) args s = true := (an_r (an_r (an_l (an_r (an_r (an_l (an_r (an_r (an_l (an_l (an_r h)))))))))))
set_option maxRecDepth 20000 in
theorem nr_254 {args : Array Value} {s : State} (h : (Jvm.Cond.and given_1 narrow_1).before args s = true) : Cond.before (Jvm.Cond.eq (Jvm.Term.elem (Jvm.Term.static "java/lang/Integer" "DigitTens" "[B") (Jvm.Term.int (46 : Int32))) (Jvm.Term.int (52 : Int32))) args s = true := (an_l (an_r (an_r (an_r (an_l (an_r (an_r (an_l (an_l (an_r h))))))))))
set_option maxRecDepth 20000 in
theorem nr_255 {args : Array Value} {s : State} (h : (Jvm.Cond.and given_1 narrow_1).before args s = true) : Cond.before (Jvm.Cond.eq (Jvm.Term.elem (Jvm.Term.static "java/lang/Integer" "DigitTens" "[B") (Jvm.Term.int (47 : Int32))) (Jvm.Term.int (52 : Int32))) args s = true := (an_l (an_r (an_r (an_r (an_r (an_l (an_r (an_r (an_l (an_l (an_r h)))))))))))
set_option maxRecDepth 20000 in
theorem nr_256 {args : Array Value} {s : State} (h : (Jvm.Cond.and given_1 narrow_1).before args s = true) : Cond.before (Jvm.Cond.eq (Jvm.Term.elem (Jvm.Term.static "java/lang/Integer" "DigitTens" "[B") (Jvm.Term.int (48 : Int32))) (Jvm.Term.int (52 : Int32))) args s = true := (an_r (an_r (an_r (an_r (an_r (an_l (an_r (an_r (an_l (an_l (an_r h)))))))))))
set_option maxRecDepth 20000 in
theorem nr_257 {args : Array Value} {s : State} (h : (Jvm.Cond.and given_1 narrow_1).before args s = true) : Cond.before (Jvm.Cond.eq (Jvm.Term.elem (Jvm.Term.static "java/lang/Integer" "DigitTens" "[B") (Jvm.Term.int (49 : Int32))) (Jvm.Term.int (52 : Int32))) args s = true := (an_l (an_l (an_l (an_l (an_r (an_r (an_r (an_l (an_l (an_r h))))))))))
set_option maxRecDepth 20000 in
theorem nr_258 {args : Array Value} {s : State} (h : (Jvm.Cond.and given_1 narrow_1).before args s = true) : Cond.before (Jvm.Cond.eq (Jvm.Term.elem (Jvm.Term.static "java/lang/Integer" "DigitTens" "[B") (Jvm.Term.int (50 : Int32))) (Jvm.Term.int (53 : Int32))) args s = true := (an_l (an_r (an_l (an_l (an_l (an_r (an_r (an_r (an_l (an_l (an_r h)))))))))))
set_option maxRecDepth 20000 in
theorem nr_259 {args : Array Value} {s : State} (h : (Jvm.Cond.and given_1 narrow_1).before args s = true) : Cond.before (Jvm.Cond.eq (Jvm.Term.elem (Jvm.Term.static "java/lang/Integer" "DigitTens" "[B") (Jvm.Term.int (51 : Int32))) (Jvm.Term.int (53 : Int32))) args s = true := (an_r (an_r (an_l (an_l (an_l (an_r (an_r (an_r (an_l (an_l (an_r h)))))))))))
set_option maxRecDepth 20000 in
theorem nr_260 {args : Array Value} {s : State} (h : (Jvm.Cond.and given_1 narrow_1).before args s = true) : Cond.before (Jvm.Cond.eq (Jvm.Term.elem (Jvm.Term.static "java/lang/Integer" "DigitTens" "[B") (Jvm.Term.int (52 : Int32))) (Jvm.Term.int (53 : Int32))) args s = true := (an_l (an_r (an_l (an_l (an_r (an_r (an_r (an_l (an_l (an_r h))))))))))
set_option maxRecDepth 20000 in
theorem nr_261 {args : Array Value} {s : State} (h : (Jvm.Cond.and given_1 narrow_1).before args s = true) : Cond.before (Jvm.Cond.eq (Jvm.Term.elem (Jvm.Term.static "java/lang/Integer" "DigitTens" "[B") (Jvm.Term.int (53 : Int32))) (Jvm.Term.int (53 : Int32))) args s = true := (an_l (an_r (an_r (an_l (an_l (an_r (an_r (an_r (an_l (an_l (an_r h)))))))))))
set_option maxRecDepth 20000 in
theorem nr_262 {args : Array Value} {s : State} (h : (Jvm.Cond.and given_1 narrow_1).before args s = true) : Cond.before (Jvm.Cond.eq (Jvm.Term.elem (Jvm.Term.static "java/lang/Integer" "DigitTens" "[B") (Jvm.Term.int (54 : Int32))) (Jvm.Term.int (53 : Int32))) args s = true := (an_r (an_r (an_r (an_l (an_l (an_r (an_r (an_r (an_l (an_l (an_r h)))))))))))
set_option maxRecDepth 20000 in
theorem nr_263 {args : Array Value} {s : State} (h : (Jvm.Cond.and given_1 narrow_1).before args s = true) : Cond.before (Jvm.Cond.eq (Jvm.Term.elem (Jvm.Term.static "java/lang/Integer" "DigitTens" "[B") (Jvm.Term.int (55 : Int32))) (Jvm.Term.int (53 : Int32))) args s = true := (an_l (an_l (an_r (an_l (an_r (an_r (an_r (an_l (an_l (an_r h))))))))))
set_option maxRecDepth 20000 in
theorem nr_264 {args : Array Value} {s : State} (h : (Jvm.Cond.and given_1 narrow_1).before args s = true) : Cond.before (Jvm.Cond.eq (Jvm.Term.elem (Jvm.Term.static "java/lang/Integer" "DigitTens" "[B") (Jvm.Term.int (56 : Int32))) (Jvm.Term.int (53 : Int32))) args s = true := (an_l (an_r (an_l (an_r (an_l (an_r (an_r (an_r (an_l (an_l (an_r h)))))))))))
set_option maxRecDepth 20000 in
theorem nr_265 {args : Array Value} {s : State} (h : (Jvm.Cond.and given_1 narrow_1).before args s = true) : Cond.before (Jvm.Cond.eq (Jvm.Term.elem (Jvm.Term.static "java/lang/Integer" "DigitTens" "[B") (Jvm.Term.int (57 : Int32))) (Jvm.Term.int (53 : Int32))) args s = true := (an_r (an_r (an_l (an_r (an_l (an_r (an_r (an_r (an_l (an_l (an_r h)))))))))))
set_option maxRecDepth 20000 in
theorem nr_266 {args : Array Value} {s : State} (h : (Jvm.Cond.and given_1 narrow_1).before args s = true) : Cond.before (Jvm.Cond.eq (Jvm.Term.elem (Jvm.Term.static "java/lang/Integer" "DigitTens" "[B") (Jvm.Term.int (58 : Int32))) (Jvm.Term.int (53 : Int32))) args s = true := (an_l (an_r (an_r (an_l (an_r (an_r (an_r (an_l (an_l (an_r h))))))))))
set_option maxRecDepth 20000 in
theorem nr_267 {args : Array Value} {s : State} (h : (Jvm.Cond.and given_1 narrow_1).before args s = true) : Cond.before (Jvm.Cond.eq (Jvm.Term.elem (Jvm.Term.static "java/lang/Integer" "DigitTens" "[B") (Jvm.Term.int (59 : Int32))) (Jvm.Term.int (53 : Int32))) args s = true := (an_l (an_r (an_r (an_r (an_l (an_r (an_r (an_r (an_l (an_l (an_r h)))))))))))
set_option maxRecDepth 20000 in
theorem nr_268 {args : Array Value} {s : State} (h : (Jvm.Cond.and given_1 narrow_1).before args s = true) : Cond.before (Jvm.Cond.eq (Jvm.Term.elem (Jvm.Term.static "java/lang/Integer" "DigitTens" "[B") (Jvm.Term.int (60 : Int32))) (Jvm.Term.int (54 : Int32))) args s = true := (an_r (an_r (an_r (an_r (an_l (an_r (an_r (an_r (an_l (an_l (an_r h)))))))))))
set_option maxRecDepth 20000 in
theorem nr_269 {args : Array Value} {s : State} (h : (Jvm.Cond.and given_1 narrow_1).before args s = true) : Cond.before (Jvm.Cond.eq (Jvm.Term.elem (Jvm.Term.static "java/lang/Integer" "DigitTens" "[B") (Jvm.Term.int (61 : Int32))) (Jvm.Term.int (54 : Int32))) args s = true := (an_l (an_l (an_l (an_r (an_r (an_r (an_r (an_l (an_l (an_r h))))))))))
set_option maxRecDepth 20000 in
theorem nr_270 {args : Array Value} {s : State} (h : (Jvm.Cond.and given_1 narrow_1).before args s = true) : Cond.before (Jvm.Cond.eq (Jvm.Term.elem (Jvm.Term.static "java/lang/Integer" "DigitTens" "[B") (Jvm.Term.int (62 : Int32))) (Jvm.Term.int (54 : Int32))) args s = true := (an_l (an_r (an_l (an_l (an_r (an_r (an_r (an_r (an_l (an_l (an_r h)))))))))))
set_option maxRecDepth 20000 in
theorem nr_271 {args : Array Value} {s : State} (h : (Jvm.Cond.and given_1 narrow_1).before args s = true) : Cond.before (Jvm.Cond.eq (Jvm.Term.elem (Jvm.Term.static "java/lang/Integer" "DigitTens" "[B") (Jvm.Term.int (63 : Int32))) (Jvm.Term.int (54 : Int32))) args s = true := (an_r (an_r (an_l (an_l (an_r (an_r (an_r (an_r (an_l (an_l (an_r h)))))))))))
set_option maxRecDepth 20000 in
theorem nr_272 {args : Array Value} {s : State} (h : (Jvm.Cond.and given_1 narrow_1).before args s = true) : Cond.before (Jvm.Cond.eq (Jvm.Term.elem (Jvm.Term.static "java/lang/Integer" "DigitTens" "[B") (Jvm.Term.int (64 : Int32))) (Jvm.Term.int (54 : Int32))) args s = true := (an_l (an_r (an_l (an_r (an_r (an_r (an_r (an_l (an_l (an_r h))))))))))
set_option maxRecDepth 20000 in
theorem nr_273 {args : Array Value} {s : State} (h : (Jvm.Cond.and given_1 narrow_1).before args s = true) : Cond.before (Jvm.Cond.eq (Jvm.Term.elem (Jvm.Term.static "java/lang/Integer" "DigitTens" "[B") (Jvm.Term.int (65 : Int32))) (Jvm.Term.int (54 : Int32))) args s = true := (an_l (an_r (an_r (an_l (an_r (an_r (an_r (an_r (an_l (an_l (an_r h)))))))))))
set_option maxRecDepth 20000 in
theorem nr_274 {args : Array Value} {s : State} (h : (Jvm.Cond.and given_1 narrow_1).before args s = true) : Cond.before (Jvm.Cond.eq (Jvm.Term.elem (Jvm.Term.static "java/lang/Integer" "DigitTens" "[B") (Jvm.Term.int (66 : Int32))) (Jvm.Term.int (54 : Int32))) args s = true := (an_r (an_r (an_r (an_l (an_r (an_r (an_r (an_r (an_l (an_l (an_r h)))))))))))
set_option maxRecDepth 20000 in
theorem nr_275 {args : Array Value} {s : State} (h : (Jvm.Cond.and given_1 narrow_1).before args s = true) : Cond.before (Jvm.Cond.eq (Jvm.Term.elem (Jvm.Term.static "java/lang/Integer" "DigitTens" "[B") (Jvm.Term.int (67 : Int32))) (Jvm.Term.int (54 : Int32))) args s = true := (an_l (an_l (an_r (an_r (an_r (an_r (an_r (an_l (an_l (an_r h))))))))))
set_option maxRecDepth 20000 in
theorem nr_276 {args : Array Value} {s : State} (h : (Jvm.Cond.and given_1 narrow_1).before args s = true) : Cond.before (Jvm.Cond.eq (Jvm.Term.elem (Jvm.Term.static "java/lang/Integer" "DigitTens" "[B") (Jvm.Term.int (68 : Int32))) (Jvm.Term.int (54 : Int32))) args s = true := (an_l (an_r (an_l (an_r (an_r (an_r (an_r (an_r (an_l (an_l (an_r h)))))))))))
set_option maxRecDepth 20000 in
theorem nr_277 {args : Array Value} {s : State} (h : (Jvm.Cond.and given_1 narrow_1).before args s = true) : Cond.before (Jvm.Cond.eq (Jvm.Term.elem (Jvm.Term.static "java/lang/Integer" "DigitTens" "[B") (Jvm.Term.int (69 : Int32))) (Jvm.Term.int (54 : Int32))) args s = true := (an_r (an_r (an_l (an_r (an_r (an_r (an_r (an_r (an_l (an_l (an_r h)))))))))))
set_option maxRecDepth 20000 in
theorem nr_278 {args : Array Value} {s : State} (h : (Jvm.Cond.and given_1 narrow_1).before args s = true) : Cond.before (Jvm.Cond.eq (Jvm.Term.elem (Jvm.Term.static "java/lang/Integer" "DigitTens" "[B") (Jvm.Term.int (70 : Int32))) (Jvm.Term.int (55 : Int32))) args s = true := (an_l (an_r (an_r (an_r (an_r (an_r (an_r (an_l (an_l (an_r h))))))))))
set_option maxRecDepth 20000 in
theorem nr_279 {args : Array Value} {s : State} (h : (Jvm.Cond.and given_1 narrow_1).before args s = true) : Cond.before (Jvm.Cond.eq (Jvm.Term.elem (Jvm.Term.static "java/lang/Integer" "DigitTens" "[B") (Jvm.Term.int (71 : Int32))) (Jvm.Term.int (55 : Int32))) args s = true := (an_l (an_r (an_r (an_r (an_r (an_r (an_r (an_r (an_l (an_l (an_r h)))))))))))
set_option maxRecDepth 20000 in
theorem nr_280 {args : Array Value} {s : State} (h : (Jvm.Cond.and given_1 narrow_1).before args s = true) : Cond.before (Jvm.Cond.eq (Jvm.Term.elem (Jvm.Term.static "java/lang/Integer" "DigitTens" "[B") (Jvm.Term.int (72 : Int32))) (Jvm.Term.int (55 : Int32))) args s = true := (an_r (an_r (an_r (an_r (an_r (an_r (an_r (an_r (an_l (an_l (an_r h)))))))))))
set_option maxRecDepth 20000 in
theorem nr_281 {args : Array Value} {s : State} (h : (Jvm.Cond.and given_1 narrow_1).before args s = true) : Cond.before (Jvm.Cond.eq (Jvm.Term.elem (Jvm.Term.static "java/lang/Integer" "DigitTens" "[B") (Jvm.Term.int (73 : Int32))) (Jvm.Term.int (55 : Int32))) args s = true := (an_l (an_l (an_l (an_l (an_l (an_l (an_l (an_r (an_l (an_r h))))))))))
set_option maxRecDepth 20000 in
theorem nr_282 {args : Array Value} {s : State} (h : (Jvm.Cond.and given_1 narrow_1).before args s = true) : Cond.before (Jvm.Cond.eq (Jvm.Term.elem (Jvm.Term.static "java/lang/Integer" "DigitTens" "[B") (Jvm.Term.int (74 : Int32))) (Jvm.Term.int (55 : Int32))) args s = true := (an_r (an_l (an_l (an_l (an_l (an_l (an_l (an_r (an_l (an_r h))))))))))
set_option maxRecDepth 20000 in
theorem nr_283 {args : Array Value} {s : State} (h : (Jvm.Cond.and given_1 narrow_1).before args s = true) : Cond.before (Jvm.Cond.eq (Jvm.Term.elem (Jvm.Term.static "java/lang/Integer" "DigitTens" "[B") (Jvm.Term.int (75 : Int32))) (Jvm.Term.int (55 : Int32))) args s = true := (an_l (an_r (an_l (an_l (an_l (an_l (an_l (an_r (an_l (an_r h))))))))))
set_option maxRecDepth 20000 in
theorem nr_284 {args : Array Value} {s : State} (h : (Jvm.Cond.and given_1 narrow_1).before args s = true) : Cond.before (Jvm.Cond.eq (Jvm.Term.elem (Jvm.Term.static "java/lang/Integer" "DigitTens" "[B") (Jvm.Term.int (76 : Int32))) (Jvm.Term.int (55 : Int32))) args s = true := (an_l (an_r (an_r (an_l (an_l (an_l (an_l (an_l (an_r (an_l (an_r h)))))))))))
set_option maxRecDepth 20000 in
theorem nr_285 {args : Array Value} {s : State} (h : (Jvm.Cond.and given_1 narrow_1).before args s = true) : Cond.before (Jvm.Cond.eq (Jvm.Term.elem (Jvm.Term.static "java/lang/Integer" "DigitTens" "[B") (Jvm.Term.int (77 : Int32))) (Jvm.Term.int (55 : Int32))) args s = true := (an_r (an_r (an_r (an_l (an_l (an_l (an_l (an_l (an_r (an_l (an_r h)))))))))))
set_option maxRecDepth 20000 in
theorem nr_286 {args : Array Value} {s : State} (h : (Jvm.Cond.and given_1 narrow_1).before args s = true) : Cond.before (Jvm.Cond.eq (Jvm.Term.elem (Jvm.Term.static "java/lang/Integer" "DigitTens" "[B") (Jvm.Term.int (78 : Int32))) (Jvm.Term.int (55 : Int32))) args s = true := (an_l (an_l (an_r (an_l (an_l (an_l (an_l (an_r (an_l (an_r h))))))))))
set_option maxRecDepth 20000 in
theorem nr_287 {args : Array Value} {s : State} (h : (Jvm.Cond.and given_1 narrow_1).before args s = true) : Cond.before (Jvm.Cond.eq (Jvm.Term.elem (Jvm.Term.static "java/lang/Integer" "DigitTens" "[B") (Jvm.Term.int (79 : Int32))) (Jvm.Term.int (55 : Int32))) args s = true := (an_l (an_r (an_l (an_r (an_l (an_l (an_l (an_l (an_r (an_l (an_r h)))))))))))
set_option maxRecDepth 20000 in
theorem nr_288 {args : Array Value} {s : State} (h : (Jvm.Cond.and given_1 narrow_1).before args s = true) : Cond.before (Jvm.Cond.eq (Jvm.Term.elem (Jvm.Term.static "java/lang/Integer" "DigitTens" "[B") (Jvm.Term.int (80 : Int32))) (Jvm.Term.int (56 : Int32))) args s = true := (an_r (an_r (an_l (an_r (an_l (an_l (an_l (an_l (an_r (an_l (an_r h)))))))))))
set_option maxRecDepth 20000 in
theorem nr_289 {args : Array Value} {s : State} (h : (Jvm.Cond.and given_1 narrow_1).before args s = true) : Cond.before (Jvm.Cond.eq (Jvm.Term.elem (Jvm.Term.static "java/lang/Integer" "DigitTens" "[B") (Jvm.Term.int (81 : Int32))) (Jvm.Term.int (56 : Int32))) args s = true := (an_l (an_r (an_r (an_l (an_l (an_l (an_l (an_r (an_l (an_r h))))))))))
set_option maxRecDepth 20000 in
theorem nr_290 {args : Array Value} {s : State} (h : (Jvm.Cond.and given_1 narrow_1).before args s = true) : Cond.before (Jvm.Cond.eq (Jvm.Term.elem (Jvm.Term.static "java/lang/Integer" "DigitTens" "[B") (Jvm.Term.int (82 : Int32))) (Jvm.Term.int (56 : Int32))) args s = true := (an_l (an_r (an_r (an_r (an_l (an_l (an_l (an_l (an_r (an_l (an_r h)))))))))))
set_option maxRecDepth 20000 in
theorem nr_291 {args : Array Value} {s : State} (h : (Jvm.Cond.and given_1 narrow_1).before args s = true) : Cond.before (Jvm.Cond.eq (Jvm.Term.elem (Jvm.Term.static "java/lang/Integer" "DigitTens" "[B") (Jvm.Term.int (83 : Int32))) (Jvm.Term.int (56 : Int32))) args s = true := (an_r (an_r (an_r (an_r (an_l (an_l (an_l (an_l (an_r (an_l (an_r h)))))))))))
set_option maxRecDepth 20000 in
theorem nr_292 {args : Array Value} {s : State} (h : (Jvm.Cond.and given_1 narrow_1).before args s = true) : Cond.before (Jvm.Cond.eq (Jvm.Term.elem (Jvm.Term.static "java/lang/Integer" "DigitTens" "[B") (Jvm.Term.int (84 : Int32))) (Jvm.Term.int (56 : Int32))) args s = true := (an_l (an_l (an_l (an_r (an_l (an_l (an_l (an_r (an_l (an_r h))))))))))
set_option maxRecDepth 20000 in
theorem nr_293 {args : Array Value} {s : State} (h : (Jvm.Cond.and given_1 narrow_1).before args s = true) : Cond.before (Jvm.Cond.eq (Jvm.Term.elem (Jvm.Term.static "java/lang/Integer" "DigitTens" "[B") (Jvm.Term.int (85 : Int32))) (Jvm.Term.int (56 : Int32))) args s = true := (an_l (an_r (an_l (an_l (an_r (an_l (an_l (an_l (an_r (an_l (an_r h)))))))))))
set_option maxRecDepth 20000 in
theorem nr_294 {args : Array Value} {s : State} (h : (Jvm.Cond.and given_1 narrow_1).before args s = true) : Cond.before (Jvm.Cond.eq (Jvm.Term.elem (Jvm.Term.static "java/lang/Integer" "DigitTens" "[B") (Jvm.Term.int (86 : Int32))) (Jvm.Term.int (56 : Int32))) args s = true := (an_r (an_r (an_l (an_l (an_r (an_l (an_l (an_l (an_r (an_l (an_r h)))))))))))
set_option maxRecDepth 20000 in
theorem nr_295 {args : Array Value} {s : State} (h : (Jvm.Cond.and given_1 narrow_1).before args s = true) : Cond.before (Jvm.Cond.eq (Jvm.Term.elem (Jvm.Term.static "java/lang/Integer" "DigitTens" "[B") (Jvm.Term.int (87 : Int32))) (Jvm.Term.int (56 : Int32))) args s = true := (an_l (an_r (an_l (an_r (an_l (an_l (an_l (an_r (an_l (an_r h))))))))))
set_option maxRecDepth 20000 in
theorem nr_296 {args : Array Value} {s : State} (h : (Jvm.Cond.and given_1 narrow_1).before args s = true) : Cond.before (Jvm.Cond.eq (Jvm.Term.elem (Jvm.Term.static "java/lang/Integer" "DigitTens" "[B") (Jvm.Term.int (88 : Int32))) (Jvm.Term.int (56 : Int32))) args s = true := (an_l (an_r (an_r (an_l (an_r (an_l (an_l (an_l (an_r (an_l (an_r h)))))))))))
set_option maxRecDepth 20000 in
theorem nr_297 {args : Array Value} {s : State} (h : (Jvm.Cond.and given_1 narrow_1).before args s = true) : Cond.before (Jvm.Cond.eq (Jvm.Term.elem (Jvm.Term.static "java/lang/Integer" "DigitTens" "[B") (Jvm.Term.int (89 : Int32))) (Jvm.Term.int (56 : Int32))) args s = true := (an_r (an_r (an_r (an_l (an_r (an_l (an_l (an_l (an_r (an_l (an_r h)))))))))))
set_option maxRecDepth 20000 in
theorem nr_298 {args : Array Value} {s : State} (h : (Jvm.Cond.and given_1 narrow_1).before args s = true) : Cond.before (Jvm.Cond.eq (Jvm.Term.elem (Jvm.Term.static "java/lang/Integer" "DigitTens" "[B") (Jvm.Term.int (90 : Int32))) (Jvm.Term.int (57 : Int32))) args s = true := (an_l (an_l (an_r (an_r (an_l (an_l (an_l (an_r (an_l (an_r h))))))))))
set_option maxRecDepth 20000 in
theorem nr_299 {args : Array Value} {s : State} (h : (Jvm.Cond.and given_1 narrow_1).before args s = true) : Cond.before (Jvm.Cond.eq (Jvm.Term.elem (Jvm.Term.static "java/lang/Integer" "DigitTens" "[B") (Jvm.Term.int (91 : Int32))) (Jvm.Term.int (57 : Int32))) args s = true := (an_l (an_r (an_l (an_r (an_r (an_l (an_l (an_l (an_r (an_l (an_r h)))))))))))
set_option maxRecDepth 20000 in
theorem nr_300 {args : Array Value} {s : State} (h : (Jvm.Cond.and given_1 narrow_1).before args s = true) : Cond.before (Jvm.Cond.eq (Jvm.Term.elem (Jvm.Term.static "java/lang/Integer" "DigitTens" "[B") (Jvm.Term.int (92 : Int32))) (Jvm.Term.int (57 : Int32))) args s = true := (an_r (an_r (an_l (an_r (an_r (an_l (an_l (an_l (an_r (an_l (an_r h)))))))))))
set_option maxRecDepth 20000 in
theorem nr_301 {args : Array Value} {s : State} (h : (Jvm.Cond.and given_1 narrow_1).before args s = true) : Cond.before (Jvm.Cond.eq (Jvm.Term.elem (Jvm.Term.static "java/lang/Integer" "DigitTens" "[B") (Jvm.Term.int (93 : Int32))) (Jvm.Term.int (57 : Int32))) args s = true := (an_l (an_r (an_r (an_r (an_l (an_l (an_l (an_r (an_l (an_r h))))))))))
set_option maxRecDepth 20000 in
theorem nr_302 {args : Array Value} {s : State} (h : (Jvm.Cond.and given_1 narrow_1).before args s = true) : Cond.before (Jvm.Cond.eq (Jvm.Term.elem (Jvm.Term.static "java/lang/Integer" "DigitTens" "[B") (Jvm.Term.int (94 : Int32))) (Jvm.Term.int (57 : Int32))) args s = true := (an_l (an_r (an_r (an_r (an_r (an_l (an_l (an_l (an_r (an_l (an_r h)))))))))))
set_option maxRecDepth 20000 in
theorem nr_303 {args : Array Value} {s : State} (h : (Jvm.Cond.and given_1 narrow_1).before args s = true) : Cond.before (Jvm.Cond.eq (Jvm.Term.elem (Jvm.Term.static "java/lang/Integer" "DigitTens" "[B") (Jvm.Term.int (95 : Int32))) (Jvm.Term.int (57 : Int32))) args s = true := (an_r (an_r (an_r (an_r (an_r (an_l (an_l (an_l (an_r (an_l (an_r h)))))))))))
set_option maxRecDepth 20000 in
theorem nr_304 {args : Array Value} {s : State} (h : (Jvm.Cond.and given_1 narrow_1).before args s = true) : Cond.before (Jvm.Cond.eq (Jvm.Term.elem (Jvm.Term.static "java/lang/Integer" "DigitTens" "[B") (Jvm.Term.int (96 : Int32))) (Jvm.Term.int (57 : Int32))) args s = true := (an_l (an_l (an_l (an_l (an_r (an_l (an_l (an_r (an_l (an_r h))))))))))
set_option maxRecDepth 20000 in
theorem nr_305 {args : Array Value} {s : State} (h : (Jvm.Cond.and given_1 narrow_1).before args s = true) : Cond.before (Jvm.Cond.eq (Jvm.Term.elem (Jvm.Term.static "java/lang/Integer" "DigitTens" "[B") (Jvm.Term.int (97 : Int32))) (Jvm.Term.int (57 : Int32))) args s = true := (an_l (an_r (an_l (an_l (an_l (an_r (an_l (an_l (an_r (an_l (an_r h)))))))))))
set_option maxRecDepth 20000 in
theorem nr_306 {args : Array Value} {s : State} (h : (Jvm.Cond.and given_1 narrow_1).before args s = true) : Cond.before (Jvm.Cond.eq (Jvm.Term.elem (Jvm.Term.static "java/lang/Integer" "DigitTens" "[B") (Jvm.Term.int (98 : Int32))) (Jvm.Term.int (57 : Int32))) args s = true := (an_r (an_r (an_l (an_l (an_l (an_r (an_l (an_l (an_r (an_l (an_r h)))))))))))
set_option maxRecDepth 20000 in
theorem nr_307 {args : Array Value} {s : State} (h : (Jvm.Cond.and given_1 narrow_1).before args s = true) : Cond.before (Jvm.Cond.eq (Jvm.Term.elem (Jvm.Term.static "java/lang/Integer" "DigitTens" "[B") (Jvm.Term.int (99 : Int32))) (Jvm.Term.int (57 : Int32))) args s = true := (an_l (an_r (an_l (an_l (an_r (an_l (an_l (an_r (an_l (an_r h))))))))))
set_option maxRecDepth 20000 in
theorem st_0 {args : Array Value} {s : State} (hts : ∀ w ∈ lw_tb2, w.before args s = true) (hgv : (Jvm.Cond.and given_1 narrow_1).before args s = true) {A : Nat → Prop} (hA : ∀ a : Nat, a < s.heap.size → ¬ A a) : ∃ a v : Nat, vk_R "TurnLine$TextReader" 38 "line" a s ∧ strO a v [108, 105, 110, 101] A s := by
  obtain ⟨a, v, h1, h2⟩ := so_one (b := [108, 105, 110, 101]) (by decide) (nr_0 hgv) (nr_1 hgv) (nr_2 hgv) (nr_3 hgv) (fun j hj => match j, hj with | 0, _ => nr_4 hgv | 1, _ => nr_5 hgv | 2, _ => nr_6 hgv | 3, _ => nr_7 hgv | n + 4, h => absurd h (by simp)) hA
  exact ⟨a, v, vk_R.of (hts _ (tb_4 _ (List.mem_of_getElem? (i := 13) rfl))) h1, h2⟩
set_option maxRecDepth 20000 in
theorem st_1 {args : Array Value} {s : State} (hts : ∀ w ∈ lw_tb2, w.before args s = true) (hgv : (Jvm.Cond.and given_1 narrow_1).before args s = true) {A : Nat → Prop} (hA : ∀ a : Nat, a < s.heap.size → ¬ A a) : ∃ a v : Nat, vk_R "TurnLine$TextReader" 81 "window" a s ∧ strO a v [119, 105, 110, 100, 111, 119] A s := by
  obtain ⟨a, v, h1, h2⟩ := so_one (b := [119, 105, 110, 100, 111, 119]) (by decide) (nr_8 hgv) (nr_9 hgv) (nr_10 hgv) (nr_11 hgv) (fun j hj => match j, hj with | 0, _ => nr_12 hgv | 1, _ => nr_13 hgv | 2, _ => nr_14 hgv | 3, _ => nr_15 hgv | 4, _ => nr_16 hgv | 5, _ => nr_17 hgv | n + 6, h => absurd h (by simp)) hA
  exact ⟨a, v, vk_R.of (hts _ (tb_4 _ (List.mem_of_getElem? (i := 59) rfl))) h1, h2⟩
set_option maxRecDepth 20000 in
theorem st_2 {args : Array Value} {s : State} (hts : ∀ w ∈ lw_tb2, w.before args s = true) (hgv : (Jvm.Cond.and given_1 narrow_1).before args s = true) {A : Nat → Prop} (hA : ∀ a : Nat, a < s.heap.size → ¬ A a) : ∃ a v : Nat, vk_R "TurnLine$TextReader" 90 "message" a s ∧ strO a v [109, 101, 115, 115, 97, 103, 101] A s := by
  obtain ⟨a, v, h1, h2⟩ := so_one (b := [109, 101, 115, 115, 97, 103, 101]) (by decide) (nr_18 hgv) (nr_19 hgv) (nr_20 hgv) (nr_21 hgv) (fun j hj => match j, hj with | 0, _ => nr_22 hgv | 1, _ => nr_23 hgv | 2, _ => nr_24 hgv | 3, _ => nr_25 hgv | 4, _ => nr_26 hgv | 5, _ => nr_27 hgv | 6, _ => nr_28 hgv | n + 7, h => absurd h (by simp)) hA
  exact ⟨a, v, vk_R.of (hts _ (tb_4 _ (List.mem_of_getElem? (i := 65) rfl))) h1, h2⟩
set_option maxRecDepth 20000 in
theorem st_3 {args : Array Value} {s : State} (hts : ∀ w ∈ lw_tb2, w.before args s = true) (hgv : (Jvm.Cond.and given_1 narrow_1).before args s = true) {A : Nat → Prop} (hA : ∀ a : Nat, a < s.heap.size → ¬ A a) : ∃ a v : Nat, vk_R "TurnLine$TextReader" 95 "lose" a s ∧ strO a v [108, 111, 115, 101] A s := by
  obtain ⟨a, v, h1, h2⟩ := so_one (b := [108, 111, 115, 101]) (by decide) (nr_29 hgv) (nr_30 hgv) (nr_31 hgv) (nr_32 hgv) (fun j hj => match j, hj with | 0, _ => nr_33 hgv | 1, _ => nr_34 hgv | 2, _ => nr_35 hgv | 3, _ => nr_36 hgv | n + 4, h => absurd h (by simp)) hA
  exact ⟨a, v, vk_R.of (hts _ (tb_4 _ (List.mem_of_getElem? (i := 74) rfl))) h1, h2⟩
set_option maxRecDepth 20000 in
theorem st_4 {args : Array Value} {s : State} (hts : ∀ w ∈ lw_tb2, w.before args s = true) (hgv : (Jvm.Cond.and given_1 narrow_1).before args s = true) {A : Nat → Prop} (hA : ∀ a : Nat, a < s.heap.size → ¬ A a) : ∃ a v : Nat, vk_R "TurnLineLaw" 17 "line " a s ∧ strO a v [108, 105, 110, 101, 32] A s := by
  obtain ⟨a, v, h1, h2⟩ := so_one (b := [108, 105, 110, 101, 32]) (by decide) (nr_37 hgv) (nr_38 hgv) (nr_39 hgv) (nr_40 hgv) (fun j hj => match j, hj with | 0, _ => nr_41 hgv | 1, _ => nr_42 hgv | 2, _ => nr_43 hgv | 3, _ => nr_44 hgv | 4, _ => nr_45 hgv | n + 5, h => absurd h (by simp)) hA
  exact ⟨a, v, vk_R.of (hts _ (tb_2 _ (List.mem_of_getElem? (i := 238) rfl))) h1, h2⟩
set_option maxRecDepth 20000 in
theorem st_5 {args : Array Value} {s : State} (hts : ∀ w ∈ lw_tb2, w.before args s = true) (hgv : (Jvm.Cond.and given_1 narrow_1).before args s = true) {A : Nat → Prop} (hA : ∀ a : Nat, a < s.heap.size → ¬ A a) : ∃ a v : Nat, vk_R "TurnLineLaw" 30 " " a s ∧ strO a v [32] A s := by
  obtain ⟨a, v, h1, h2⟩ := so_one (b := [32]) (by decide) (nr_46 hgv) (nr_47 hgv) (nr_48 hgv) (nr_49 hgv) (fun j hj => match j, hj with | 0, _ => nr_50 hgv | n + 1, h => absurd h (by simp)) hA
  exact ⟨a, v, vk_R.of (hts _ (tb_3 _ (List.mem_of_getElem? (i := 176) rfl))) h1, h2⟩
set_option maxRecDepth 20000 in
theorem st_6 {args : Array Value} {s : State} (hts : ∀ w ∈ lw_tb2, w.before args s = true) (hgv : (Jvm.Cond.and given_1 narrow_1).before args s = true) {A : Nat → Prop} (hA : ∀ a : Nat, a < s.heap.size → ¬ A a) : ∃ a v : Nat, vk_R "TurnLineLaw" 35 ";" a s ∧ strO a v [59] A s := by
  obtain ⟨a, v, h1, h2⟩ := so_one (b := [59]) (by decide) (nr_51 hgv) (nr_52 hgv) (nr_53 hgv) (nr_54 hgv) (fun j hj => match j, hj with | 0, _ => nr_55 hgv | n + 1, h => absurd h (by simp)) hA
  exact ⟨a, v, vk_R.of (hts _ (tb_3 _ (List.mem_of_getElem? (i := 178) rfl))) h1, h2⟩
set_option maxRecDepth 20000 in
theorem st_7 {args : Array Value} {s : State} (hts : ∀ w ∈ lw_tb2, w.before args s = true) (hgv : (Jvm.Cond.and given_1 narrow_1).before args s = true) {A : Nat → Prop} (hA : ∀ a : Nat, a < s.heap.size → ¬ A a) : ∃ a v : Nat, vk_R "TurnLineLaw" 37 "window " a s ∧ strO a v [119, 105, 110, 100, 111, 119, 32] A s := by
  obtain ⟨a, v, h1, h2⟩ := so_one (b := [119, 105, 110, 100, 111, 119, 32]) (by decide) (nr_56 hgv) (nr_57 hgv) (nr_58 hgv) (nr_59 hgv) (fun j hj => match j, hj with | 0, _ => nr_60 hgv | 1, _ => nr_61 hgv | 2, _ => nr_62 hgv | 3, _ => nr_63 hgv | 4, _ => nr_64 hgv | 5, _ => nr_65 hgv | 6, _ => nr_66 hgv | n + 7, h => absurd h (by simp)) hA
  exact ⟨a, v, vk_R.of (hts _ (tb_3 _ (List.mem_of_getElem? (i := 179) rfl))) h1, h2⟩
set_option maxRecDepth 20000 in
theorem st_8 {args : Array Value} {s : State} (hts : ∀ w ∈ lw_tb2, w.before args s = true) (hgv : (Jvm.Cond.and given_1 narrow_1).before args s = true) {A : Nat → Prop} (hA : ∀ a : Nat, a < s.heap.size → ¬ A a) : ∃ a v : Nat, vk_R "TurnLineLaw" 39 "message " a s ∧ strO a v [109, 101, 115, 115, 97, 103, 101, 32] A s := by
  obtain ⟨a, v, h1, h2⟩ := so_one (b := [109, 101, 115, 115, 97, 103, 101, 32]) (by decide) (nr_67 hgv) (nr_68 hgv) (nr_69 hgv) (nr_70 hgv) (fun j hj => match j, hj with | 0, _ => nr_71 hgv | 1, _ => nr_72 hgv | 2, _ => nr_73 hgv | 3, _ => nr_74 hgv | 4, _ => nr_75 hgv | 5, _ => nr_76 hgv | 6, _ => nr_77 hgv | 7, _ => nr_78 hgv | n + 8, h => absurd h (by simp)) hA
  exact ⟨a, v, vk_R.of (hts _ (tb_3 _ (List.mem_of_getElem? (i := 180) rfl))) h1, h2⟩
set_option maxRecDepth 20000 in
theorem st_9 {args : Array Value} {s : State} (hts : ∀ w ∈ lw_tb2, w.before args s = true) (hgv : (Jvm.Cond.and given_1 narrow_1).before args s = true) {A : Nat → Prop} (hA : ∀ a : Nat, a < s.heap.size → ¬ A a) : ∃ a v : Nat, vk_R "TurnLineLaw" 41 "lose " a s ∧ strO a v [108, 111, 115, 101, 32] A s := by
  obtain ⟨a, v, h1, h2⟩ := so_one (b := [108, 111, 115, 101, 32]) (by decide) (nr_79 hgv) (nr_80 hgv) (nr_81 hgv) (nr_82 hgv) (fun j hj => match j, hj with | 0, _ => nr_83 hgv | 1, _ => nr_84 hgv | 2, _ => nr_85 hgv | 3, _ => nr_86 hgv | 4, _ => nr_87 hgv | n + 5, h => absurd h (by simp)) hA
  exact ⟨a, v, vk_R.of (hts _ (tb_3 _ (List.mem_of_getElem? (i := 181) rfl))) h1, h2⟩
set_option maxRecDepth 20000 in
theorem st_10 {args : Array Value} {s : State} (hts : ∀ w ∈ lw_tb2, w.before args s = true) (hgv : (Jvm.Cond.and given_1 narrow_1).before args s = true) : ∃ a : Nat, vk_R "TurnLine" 74 "no such length" a s := by
  obtain ⟨a, h1⟩ := so_ref (nr_88 hgv)
  exact ⟨a, vk_R.of (hts _ (tb_3 _ (List.mem_of_getElem? (i := 222) rfl))) h1⟩
set_option maxRecDepth 20000 in
theorem st_11 {args : Array Value} {s : State} (hts : ∀ w ∈ lw_tb2, w.before args s = true) (hgv : (Jvm.Cond.and given_1 narrow_1).before args s = true) : ∃ a : Nat, vk_R "TurnLine" 125 "no such size" a s := by
  obtain ⟨a, h1⟩ := so_ref (nr_89 hgv)
  exact ⟨a, vk_R.of (hts _ (tb_2 _ (List.mem_of_getElem? (i := 113) rfl))) h1⟩
set_option maxRecDepth 20000 in
theorem st_12 {args : Array Value} {s : State} (hts : ∀ w ∈ lw_tb2, w.before args s = true) (hgv : (Jvm.Cond.and given_1 narrow_1).before args s = true) : ∃ a : Nat, vk_R "TurnLine" 130 "no such number of a station" a s := by
  obtain ⟨a, h1⟩ := so_ref (nr_90 hgv)
  exact ⟨a, vk_R.of (hts _ (tb_4 _ (List.mem_of_getElem? (i := 111) rfl))) h1⟩
set_option maxRecDepth 20000 in
theorem st_13 {args : Array Value} {s : State} (hts : ∀ w ∈ lw_tb2, w.before args s = true) (hgv : (Jvm.Cond.and given_1 narrow_1).before args s = true) : ∃ a : Nat, vk_R "TurnLine" 146 "no such message" a s := by
  obtain ⟨a, h1⟩ := so_ref (nr_91 hgv)
  exact ⟨a, vk_R.of (hts _ (tb_4 _ (List.mem_of_getElem? (i := 216) rfl))) h1⟩
set_option maxRecDepth 20000 in
theorem st_14 {args : Array Value} {s : State} (hts : ∀ w ∈ lw_tb2, w.before args s = true) (hgv : (Jvm.Cond.and given_1 narrow_1).before args s = true) : ∃ a : Nat, vk_R "TurnLine" 171 "no such number of a frame" a s := by
  obtain ⟨a, h1⟩ := so_ref (nr_92 hgv)
  exact ⟨a, vk_R.of (hts _ (tb_2 _ (List.mem_of_getElem? (i := 191) rfl))) h1⟩
set_option maxRecDepth 20000 in
theorem st_15 {args : Array Value} {s : State} (hts : ∀ w ∈ lw_tb2, w.before args s = true) (hgv : (Jvm.Cond.and given_1 narrow_1).before args s = true) : ∃ a : Nat, vk_R "TurnLine" 203 "no such account" a s := by
  obtain ⟨a, h1⟩ := so_ref (nr_93 hgv)
  exact ⟨a, vk_R.of (hts _ (tb_4 _ (List.mem_of_getElem? (i := 196) rfl))) h1⟩
set_option maxRecDepth 20000 in
theorem st_16 {args : Array Value} {s : State} (hts : ∀ w ∈ lw_tb2, w.before args s = true) (hgv : (Jvm.Cond.and given_1 narrow_1).before args s = true) : ∃ a : Nat, vk_R "TurnLine" 232 "not so many in the buffer" a s := by
  obtain ⟨a, h1⟩ := so_ref (nr_94 hgv)
  exact ⟨a, vk_R.of (hts _ (tb_4 _ (List.mem_of_getElem? (i := 138) rfl))) h1⟩
set_option maxRecDepth 20000 in
theorem st_17 {args : Array Value} {s : State} (hts : ∀ w ∈ lw_tb2, w.before args s = true) (hgv : (Jvm.Cond.and given_1 narrow_1).before args s = true) : ∃ a : Nat, vk_R "TurnLine" 254 "too many frames altogether" a s := by
  obtain ⟨a, h1⟩ := so_ref (nr_95 hgv)
  exact ⟨a, vk_R.of (hts _ (tb_4 _ (List.mem_of_getElem? (i := 164) rfl))) h1⟩
set_option maxRecDepth 20000 in
theorem st_18 {args : Array Value} {s : State} (hts : ∀ w ∈ lw_tb2, w.before args s = true) (hgv : (Jvm.Cond.and given_1 narrow_1).before args s = true) : ∃ a : Nat, vk_R "TurnLine" 271 "no such station" a s := by
  obtain ⟨a, h1⟩ := so_ref (nr_96 hgv)
  exact ⟨a, vk_R.of (hts _ (tb_4 _ (List.mem_of_getElem? (i := 104) rfl))) h1⟩
set_option maxRecDepth 20000 in
theorem st_19 {args : Array Value} {s : State} (hts : ∀ w ∈ lw_tb2, w.before args s = true) (hgv : (Jvm.Cond.and given_1 narrow_1).before args s = true) : ∃ a : Nat, vk_R "TurnLine" 273 "no such number" a s := by
  obtain ⟨a, h1⟩ := so_ref (nr_97 hgv)
  exact ⟨a, vk_R.of (hts _ (tb_4 _ (List.mem_of_getElem? (i := 124) rfl))) h1⟩
set_option maxRecDepth 20000 in
theorem st_all {args : Array Value} {s : State} (hts : ∀ w ∈ lw_tb2, w.before args s = true) (hgv : (Jvm.Cond.and given_1 narrow_1).before args s = true) {A : Nat → Prop} (hA : ∀ a : Nat, a < s.heap.size → ¬ A a) : ∃ K : Nat → Nat, (∀ (i : Nat) (q : String × Nat × String), strT[i]? = some q → vk_R q.1 q.2.1 q.2.2 (K i) s) ∧ ∀ (i : Nat) (b : List Int32), strB[i]? = some b → strO (K i) (K (100 + i)) b A s := by
  have h0 : ∀ i : Nat, ∃ p : Nat × Nat, (∀ q : String × Nat × String, strT[i]? = some q → vk_R q.1 q.2.1 q.2.2 p.1 s) ∧ ∀ b : List Int32, strB[i]? = some b → strO p.1 p.2 b A s := by
    intro i
    match i with
    | 0 => obtain ⟨a, v, h1, h2⟩ := st_0 hts hgv hA; exact ⟨(a, v), fun q h => by cases h; exact h1, fun b h => by cases h; exact h2⟩
    | 1 => obtain ⟨a, v, h1, h2⟩ := st_1 hts hgv hA; exact ⟨(a, v), fun q h => by cases h; exact h1, fun b h => by cases h; exact h2⟩
    | 2 => obtain ⟨a, v, h1, h2⟩ := st_2 hts hgv hA; exact ⟨(a, v), fun q h => by cases h; exact h1, fun b h => by cases h; exact h2⟩
    | 3 => obtain ⟨a, v, h1, h2⟩ := st_3 hts hgv hA; exact ⟨(a, v), fun q h => by cases h; exact h1, fun b h => by cases h; exact h2⟩
    | 4 => obtain ⟨a, v, h1, h2⟩ := st_4 hts hgv hA; exact ⟨(a, v), fun q h => by cases h; exact h1, fun b h => by cases h; exact h2⟩
    | 5 => obtain ⟨a, v, h1, h2⟩ := st_5 hts hgv hA; exact ⟨(a, v), fun q h => by cases h; exact h1, fun b h => by cases h; exact h2⟩
    | 6 => obtain ⟨a, v, h1, h2⟩ := st_6 hts hgv hA; exact ⟨(a, v), fun q h => by cases h; exact h1, fun b h => by cases h; exact h2⟩
    | 7 => obtain ⟨a, v, h1, h2⟩ := st_7 hts hgv hA; exact ⟨(a, v), fun q h => by cases h; exact h1, fun b h => by cases h; exact h2⟩
    | 8 => obtain ⟨a, v, h1, h2⟩ := st_8 hts hgv hA; exact ⟨(a, v), fun q h => by cases h; exact h1, fun b h => by cases h; exact h2⟩
    | 9 => obtain ⟨a, v, h1, h2⟩ := st_9 hts hgv hA; exact ⟨(a, v), fun q h => by cases h; exact h1, fun b h => by cases h; exact h2⟩
    | 10 => obtain ⟨a, h1⟩ := st_10 hts hgv; exact ⟨(a, 0), fun q h => by cases h; exact h1, fun b h => by simp [strB] at h⟩
    | 11 => obtain ⟨a, h1⟩ := st_11 hts hgv; exact ⟨(a, 0), fun q h => by cases h; exact h1, fun b h => by simp [strB] at h⟩
    | 12 => obtain ⟨a, h1⟩ := st_12 hts hgv; exact ⟨(a, 0), fun q h => by cases h; exact h1, fun b h => by simp [strB] at h⟩
    | 13 => obtain ⟨a, h1⟩ := st_13 hts hgv; exact ⟨(a, 0), fun q h => by cases h; exact h1, fun b h => by simp [strB] at h⟩
    | 14 => obtain ⟨a, h1⟩ := st_14 hts hgv; exact ⟨(a, 0), fun q h => by cases h; exact h1, fun b h => by simp [strB] at h⟩
    | 15 => obtain ⟨a, h1⟩ := st_15 hts hgv; exact ⟨(a, 0), fun q h => by cases h; exact h1, fun b h => by simp [strB] at h⟩
    | 16 => obtain ⟨a, h1⟩ := st_16 hts hgv; exact ⟨(a, 0), fun q h => by cases h; exact h1, fun b h => by simp [strB] at h⟩
    | 17 => obtain ⟨a, h1⟩ := st_17 hts hgv; exact ⟨(a, 0), fun q h => by cases h; exact h1, fun b h => by simp [strB] at h⟩
    | 18 => obtain ⟨a, h1⟩ := st_18 hts hgv; exact ⟨(a, 0), fun q h => by cases h; exact h1, fun b h => by simp [strB] at h⟩
    | 19 => obtain ⟨a, h1⟩ := st_19 hts hgv; exact ⟨(a, 0), fun q h => by cases h; exact h1, fun b h => by simp [strB] at h⟩
    | n + 20 => exact ⟨(0, 0), fun q h => by simp [strT] at h, fun b h => by simp [strB] at h⟩
  obtain ⟨f, hf⟩ := Classical.axiomOfChoice h0
  have l1 : ∀ (i : Nat) (q : String × Nat × String), strT[i]? = some q → i < 20 := fun i q h => (List.getElem?_eq_some_iff.mp h).1
  have l2 : ∀ (i : Nat) (b : List Int32), strB[i]? = some b → i < 10 := fun i b h => (List.getElem?_eq_some_iff.mp h).1
  refine ⟨fun n => if n < 100 then (f n).1 else (f (n - 100)).2, fun i q h => ?_, fun i b h => ?_⟩
  · have := l1 i q h
    show vk_R q.1 q.2.1 q.2.2 (if i < 100 then (f i).1 else (f (i - 100)).2) s
    rw [if_pos (by omega)]
    exact (hf i).1 q h
  · have := l2 i b h
    show strO (if i < 100 then (f i).1 else (f (i - 100)).2) (if 100 + i < 100 then (f (100 + i)).1 else (f (100 + i - 100)).2) b A s
    rw [if_pos (by omega), if_neg (by omega), show 100 + i - 100 = i by omega]
    exact (hf i).2 b h
set_option maxRecDepth 20000 in
theorem nl_tl : ∀ w ∈ nestL, w ∈ lw_tb2 := (List.forall_mem_cons.mpr ⟨(tb_1 _ (List.mem_of_getElem? (i := 42) rfl)), (List.forall_mem_cons.mpr ⟨(tb_1 _ (List.mem_of_getElem? (i := 91) rfl)), (List.forall_mem_cons.mpr ⟨(tb_1 _ (List.mem_of_getElem? (i := 92) rfl)), (List.forall_mem_cons.mpr ⟨(tb_1 _ (List.mem_of_getElem? (i := 94) rfl)), (List.forall_mem_cons.mpr ⟨(tb_1 _ (List.mem_of_getElem? (i := 95) rfl)), (List.forall_mem_cons.mpr ⟨(tb_1 _ (List.mem_of_getElem? (i := 96) rfl)), (List.forall_mem_cons.mpr ⟨(tb_1 _ (List.mem_of_getElem? (i := 98) rfl)), (List.forall_mem_cons.mpr ⟨(tb_1 _ (List.mem_of_getElem? (i := 100) rfl)), (List.forall_mem_cons.mpr ⟨(tb_1 _ (List.mem_of_getElem? (i := 102) rfl)), (List.forall_mem_cons.mpr ⟨(tb_1 _ (List.mem_of_getElem? (i := 103) rfl)), (List.forall_mem_cons.mpr ⟨(tb_1 _ (List.mem_of_getElem? (i := 105) rfl)), (List.forall_mem_cons.mpr ⟨(tb_1 _ (List.mem_of_getElem? (i := 108) rfl)), (List.forall_mem_cons.mpr ⟨(tb_1 _ (List.mem_of_getElem? (i := 110) rfl)), (List.forall_mem_cons.mpr ⟨(tb_1 _ (List.mem_of_getElem? (i := 111) rfl)), (List.forall_mem_cons.mpr ⟨(tb_1 _ (List.mem_of_getElem? (i := 113) rfl)), (List.forall_mem_cons.mpr ⟨(tb_1 _ (List.mem_of_getElem? (i := 114) rfl)), (List.forall_mem_cons.mpr ⟨(tb_1 _ (List.mem_of_getElem? (i := 116) rfl)), (List.forall_mem_cons.mpr ⟨(tb_1 _ (List.mem_of_getElem? (i := 147) rfl)), (List.forall_mem_cons.mpr ⟨(tb_1 _ (List.mem_of_getElem? (i := 148) rfl)), (List.forall_mem_cons.mpr ⟨(tb_1 _ (List.mem_of_getElem? (i := 150) rfl)), (List.forall_mem_cons.mpr ⟨(tb_1 _ (List.mem_of_getElem? (i := 151) rfl)), (List.forall_mem_cons.mpr ⟨(tb_1 _ (List.mem_of_getElem? (i := 153) rfl)), (List.forall_mem_cons.mpr ⟨(tb_1 _ (List.mem_of_getElem? (i := 156) rfl)), (List.forall_mem_cons.mpr ⟨(tb_1 _ (List.mem_of_getElem? (i := 157) rfl)), (List.forall_mem_cons.mpr ⟨(tb_1 _ (List.mem_of_getElem? (i := 159) rfl)), (List.forall_mem_cons.mpr ⟨(tb_1 _ (List.mem_of_getElem? (i := 160) rfl)), (List.forall_mem_cons.mpr ⟨(tb_1 _ (List.mem_of_getElem? (i := 162) rfl)), (List.forall_mem_cons.mpr ⟨(tb_1 _ (List.mem_of_getElem? (i := 163) rfl)), (List.forall_mem_cons.mpr ⟨(tb_1 _ (List.mem_of_getElem? (i := 164) rfl)), (List.forall_mem_cons.mpr ⟨(tb_1 _ (List.mem_of_getElem? (i := 166) rfl)), (List.forall_mem_cons.mpr ⟨(tb_1 _ (List.mem_of_getElem? (i := 168) rfl)), (List.forall_mem_cons.mpr ⟨(tb_1 _ (List.mem_of_getElem? (i := 204) rfl)), (List.forall_mem_cons.mpr ⟨(tb_1 _ (List.mem_of_getElem? (i := 206) rfl)), (List.forall_mem_cons.mpr ⟨(tb_1 _ (List.mem_of_getElem? (i := 207) rfl)), (List.forall_mem_cons.mpr ⟨(tb_1 _ (List.mem_of_getElem? (i := 209) rfl)), (List.forall_mem_cons.mpr ⟨(tb_1 _ (List.mem_of_getElem? (i := 210) rfl)), (List.forall_mem_cons.mpr ⟨(tb_2 _ (List.mem_of_getElem? (i := 15) rfl)), (List.forall_mem_cons.mpr ⟨(tb_2 _ (List.mem_of_getElem? (i := 30) rfl)), (fun _ h => absurd h List.not_mem_nil)⟩)⟩)⟩)⟩)⟩)⟩)⟩)⟩)⟩)⟩)⟩)⟩)⟩)⟩)⟩)⟩)⟩)⟩)⟩)⟩)⟩)⟩)⟩)⟩)⟩)⟩)⟩)⟩)⟩)⟩)⟩)⟩)⟩)⟩)⟩)⟩)⟩)⟩)
set_option maxRecDepth 20000 in
theorem th_tl : ∀ w ∈ thL, w ∈ lw_tb2 := (List.forall_mem_cons.mpr ⟨(tb_2 _ (List.mem_of_getElem? (i := 74) rfl)), (List.forall_mem_cons.mpr ⟨(tb_4 _ (List.mem_of_getElem? (i := 97) rfl)), (List.forall_mem_cons.mpr ⟨(tb_4 _ (List.mem_of_getElem? (i := 131) rfl)), (List.forall_mem_cons.mpr ⟨(tb_2 _ (List.mem_of_getElem? (i := 76) rfl)), (List.forall_mem_cons.mpr ⟨(tb_2 _ (List.mem_of_getElem? (i := 78) rfl)), (List.forall_mem_cons.mpr ⟨(tb_2 _ (List.mem_of_getElem? (i := 80) rfl)), (fun _ h => absurd h List.not_mem_nil)⟩)⟩)⟩)⟩)⟩)⟩)
set_option maxRecDepth 20000 in
theorem nc_all {args : Array Value} {s : State} (hts : ∀ w ∈ lw_tb2, w.before args s = true) (hgv : (Jvm.Cond.and given_1 narrow_1).before args s = true) : ∀ q ∈ ncL, va_Nc q.1 q.2 s := (List.forall_mem_cons.mpr ⟨va_Nc.of (nr_99 hgv), (List.forall_mem_cons.mpr ⟨va_Nc.of (nr_98 hgv), (fun _ h => absurd h List.not_mem_nil)⟩)⟩)
set_option maxRecDepth 20000 in
theorem dg1_of {args : Array Value} {s : State} (hts : ∀ w ∈ lw_tb2, w.before args s = true) (hgv : (Jvm.Cond.and given_1 narrow_1).before args s = true) {A : Nat → Prop} (hA : ∀ a : Nat, a < s.heap.size → ¬ A a) : ∃ t : Nat, va_Z "java/lang/Integer" "DigitOnes" "[B" (.ref t) A s s.heap ∧ va_T .byte t 100 (fun j => .int (iI (dg1 j))) A s s.heap := by
  obtain ⟨t, ht, hT⟩ := va_Tof (f := fun j => .int (iI (dg1 j))) (A := A) (N := 100) (by decide) (nr_104 hgv) (va_eqt (nr_105 hgv)) (fun j hj => match j, hj with | 0, _ => va_eqt (nr_106 hgv) | 1, _ => va_eqt (nr_107 hgv) | 2, _ => va_eqt (nr_108 hgv) | 3, _ => va_eqt (nr_109 hgv) | 4, _ => va_eqt (nr_110 hgv) | 5, _ => va_eqt (nr_111 hgv) | 6, _ => va_eqt (nr_112 hgv) | 7, _ => va_eqt (nr_113 hgv) | 8, _ => va_eqt (nr_114 hgv) | 9, _ => va_eqt (nr_115 hgv) | 10, _ => va_eqt (nr_116 hgv) | 11, _ => va_eqt (nr_117 hgv) | 12, _ => va_eqt (nr_118 hgv) | 13, _ => va_eqt (nr_119 hgv) | 14, _ => va_eqt (nr_120 hgv) | 15, _ => va_eqt (nr_121 hgv) | 16, _ => va_eqt (nr_122 hgv) | 17, _ => va_eqt (nr_123 hgv) | 18, _ => va_eqt (nr_124 hgv) | 19, _ => va_eqt (nr_125 hgv) | 20, _ => va_eqt (nr_126 hgv) | 21, _ => va_eqt (nr_127 hgv) | 22, _ => va_eqt (nr_128 hgv) | 23, _ => va_eqt (nr_129 hgv) | 24, _ => va_eqt (nr_130 hgv) | 25, _ => va_eqt (nr_131 hgv) | 26, _ => va_eqt (nr_132 hgv) | 27, _ => va_eqt (nr_133 hgv) | 28, _ => va_eqt (nr_134 hgv) | 29, _ => va_eqt (nr_135 hgv) | 30, _ => va_eqt (nr_136 hgv) | 31, _ => va_eqt (nr_137 hgv) | 32, _ => va_eqt (nr_138 hgv) | 33, _ => va_eqt (nr_139 hgv) | 34, _ => va_eqt (nr_140 hgv) | 35, _ => va_eqt (nr_141 hgv) | 36, _ => va_eqt (nr_142 hgv) | 37, _ => va_eqt (nr_143 hgv) | 38, _ => va_eqt (nr_144 hgv) | 39, _ => va_eqt (nr_145 hgv) | 40, _ => va_eqt (nr_146 hgv) | 41, _ => va_eqt (nr_147 hgv) | 42, _ => va_eqt (nr_148 hgv) | 43, _ => va_eqt (nr_149 hgv) | 44, _ => va_eqt (nr_150 hgv) | 45, _ => va_eqt (nr_151 hgv) | 46, _ => va_eqt (nr_152 hgv) | 47, _ => va_eqt (nr_153 hgv) | 48, _ => va_eqt (nr_154 hgv) | 49, _ => va_eqt (nr_155 hgv) | 50, _ => va_eqt (nr_156 hgv) | 51, _ => va_eqt (nr_157 hgv) | 52, _ => va_eqt (nr_158 hgv) | 53, _ => va_eqt (nr_159 hgv) | 54, _ => va_eqt (nr_160 hgv) | 55, _ => va_eqt (nr_161 hgv) | 56, _ => va_eqt (nr_162 hgv) | 57, _ => va_eqt (nr_163 hgv) | 58, _ => va_eqt (nr_164 hgv) | 59, _ => va_eqt (nr_165 hgv) | 60, _ => va_eqt (nr_166 hgv) | 61, _ => va_eqt (nr_167 hgv) | 62, _ => va_eqt (nr_168 hgv) | 63, _ => va_eqt (nr_169 hgv) | 64, _ => va_eqt (nr_170 hgv) | 65, _ => va_eqt (nr_171 hgv) | 66, _ => va_eqt (nr_172 hgv) | 67, _ => va_eqt (nr_173 hgv) | 68, _ => va_eqt (nr_174 hgv) | 69, _ => va_eqt (nr_175 hgv) | 70, _ => va_eqt (nr_176 hgv) | 71, _ => va_eqt (nr_177 hgv) | 72, _ => va_eqt (nr_178 hgv) | 73, _ => va_eqt (nr_179 hgv) | 74, _ => va_eqt (nr_180 hgv) | 75, _ => va_eqt (nr_181 hgv) | 76, _ => va_eqt (nr_182 hgv) | 77, _ => va_eqt (nr_183 hgv) | 78, _ => va_eqt (nr_184 hgv) | 79, _ => va_eqt (nr_185 hgv) | 80, _ => va_eqt (nr_186 hgv) | 81, _ => va_eqt (nr_187 hgv) | 82, _ => va_eqt (nr_188 hgv) | 83, _ => va_eqt (nr_189 hgv) | 84, _ => va_eqt (nr_190 hgv) | 85, _ => va_eqt (nr_191 hgv) | 86, _ => va_eqt (nr_192 hgv) | 87, _ => va_eqt (nr_193 hgv) | 88, _ => va_eqt (nr_194 hgv) | 89, _ => va_eqt (nr_195 hgv) | 90, _ => va_eqt (nr_196 hgv) | 91, _ => va_eqt (nr_197 hgv) | 92, _ => va_eqt (nr_198 hgv) | 93, _ => va_eqt (nr_199 hgv) | 94, _ => va_eqt (nr_200 hgv) | 95, _ => va_eqt (nr_201 hgv) | 96, _ => va_eqt (nr_202 hgv) | 97, _ => va_eqt (nr_203 hgv) | 98, _ => va_eqt (nr_204 hgv) | 99, _ => va_eqt (nr_205 hgv) | n + 100, h => absurd h (by omega)) hA
  exact ⟨t, va_Zof (hts _ (tb_3 _ (List.mem_of_getElem? (i := 165) rfl))) (hts _ (tb_1 _ (List.mem_of_getElem? (i := 23) rfl))) ht hA, hT⟩
set_option maxRecDepth 20000 in
theorem dg2_of {args : Array Value} {s : State} (hts : ∀ w ∈ lw_tb2, w.before args s = true) (hgv : (Jvm.Cond.and given_1 narrow_1).before args s = true) {A : Nat → Prop} (hA : ∀ a : Nat, a < s.heap.size → ¬ A a) : ∃ t : Nat, va_Z "java/lang/Integer" "DigitTens" "[B" (.ref t) A s s.heap ∧ va_T .byte t 100 (fun j => .int (iI (dg2 j))) A s s.heap := by
  obtain ⟨t, ht, hT⟩ := va_Tof (f := fun j => .int (iI (dg2 j))) (A := A) (N := 100) (by decide) (nr_206 hgv) (va_eqt (nr_207 hgv)) (fun j hj => match j, hj with | 0, _ => va_eqt (nr_208 hgv) | 1, _ => va_eqt (nr_209 hgv) | 2, _ => va_eqt (nr_210 hgv) | 3, _ => va_eqt (nr_211 hgv) | 4, _ => va_eqt (nr_212 hgv) | 5, _ => va_eqt (nr_213 hgv) | 6, _ => va_eqt (nr_214 hgv) | 7, _ => va_eqt (nr_215 hgv) | 8, _ => va_eqt (nr_216 hgv) | 9, _ => va_eqt (nr_217 hgv) | 10, _ => va_eqt (nr_218 hgv) | 11, _ => va_eqt (nr_219 hgv) | 12, _ => va_eqt (nr_220 hgv) | 13, _ => va_eqt (nr_221 hgv) | 14, _ => va_eqt (nr_222 hgv) | 15, _ => va_eqt (nr_223 hgv) | 16, _ => va_eqt (nr_224 hgv) | 17, _ => va_eqt (nr_225 hgv) | 18, _ => va_eqt (nr_226 hgv) | 19, _ => va_eqt (nr_227 hgv) | 20, _ => va_eqt (nr_228 hgv) | 21, _ => va_eqt (nr_229 hgv) | 22, _ => va_eqt (nr_230 hgv) | 23, _ => va_eqt (nr_231 hgv) | 24, _ => va_eqt (nr_232 hgv) | 25, _ => va_eqt (nr_233 hgv) | 26, _ => va_eqt (nr_234 hgv) | 27, _ => va_eqt (nr_235 hgv) | 28, _ => va_eqt (nr_236 hgv) | 29, _ => va_eqt (nr_237 hgv) | 30, _ => va_eqt (nr_238 hgv) | 31, _ => va_eqt (nr_239 hgv) | 32, _ => va_eqt (nr_240 hgv) | 33, _ => va_eqt (nr_241 hgv) | 34, _ => va_eqt (nr_242 hgv) | 35, _ => va_eqt (nr_243 hgv) | 36, _ => va_eqt (nr_244 hgv) | 37, _ => va_eqt (nr_245 hgv) | 38, _ => va_eqt (nr_246 hgv) | 39, _ => va_eqt (nr_247 hgv) | 40, _ => va_eqt (nr_248 hgv) | 41, _ => va_eqt (nr_249 hgv) | 42, _ => va_eqt (nr_250 hgv) | 43, _ => va_eqt (nr_251 hgv) | 44, _ => va_eqt (nr_252 hgv) | 45, _ => va_eqt (nr_253 hgv) | 46, _ => va_eqt (nr_254 hgv) | 47, _ => va_eqt (nr_255 hgv) | 48, _ => va_eqt (nr_256 hgv) | 49, _ => va_eqt (nr_257 hgv) | 50, _ => va_eqt (nr_258 hgv) | 51, _ => va_eqt (nr_259 hgv) | 52, _ => va_eqt (nr_260 hgv) | 53, _ => va_eqt (nr_261 hgv) | 54, _ => va_eqt (nr_262 hgv) | 55, _ => va_eqt (nr_263 hgv) | 56, _ => va_eqt (nr_264 hgv) | 57, _ => va_eqt (nr_265 hgv) | 58, _ => va_eqt (nr_266 hgv) | 59, _ => va_eqt (nr_267 hgv) | 60, _ => va_eqt (nr_268 hgv) | 61, _ => va_eqt (nr_269 hgv) | 62, _ => va_eqt (nr_270 hgv) | 63, _ => va_eqt (nr_271 hgv) | 64, _ => va_eqt (nr_272 hgv) | 65, _ => va_eqt (nr_273 hgv) | 66, _ => va_eqt (nr_274 hgv) | 67, _ => va_eqt (nr_275 hgv) | 68, _ => va_eqt (nr_276 hgv) | 69, _ => va_eqt (nr_277 hgv) | 70, _ => va_eqt (nr_278 hgv) | 71, _ => va_eqt (nr_279 hgv) | 72, _ => va_eqt (nr_280 hgv) | 73, _ => va_eqt (nr_281 hgv) | 74, _ => va_eqt (nr_282 hgv) | 75, _ => va_eqt (nr_283 hgv) | 76, _ => va_eqt (nr_284 hgv) | 77, _ => va_eqt (nr_285 hgv) | 78, _ => va_eqt (nr_286 hgv) | 79, _ => va_eqt (nr_287 hgv) | 80, _ => va_eqt (nr_288 hgv) | 81, _ => va_eqt (nr_289 hgv) | 82, _ => va_eqt (nr_290 hgv) | 83, _ => va_eqt (nr_291 hgv) | 84, _ => va_eqt (nr_292 hgv) | 85, _ => va_eqt (nr_293 hgv) | 86, _ => va_eqt (nr_294 hgv) | 87, _ => va_eqt (nr_295 hgv) | 88, _ => va_eqt (nr_296 hgv) | 89, _ => va_eqt (nr_297 hgv) | 90, _ => va_eqt (nr_298 hgv) | 91, _ => va_eqt (nr_299 hgv) | 92, _ => va_eqt (nr_300 hgv) | 93, _ => va_eqt (nr_301 hgv) | 94, _ => va_eqt (nr_302 hgv) | 95, _ => va_eqt (nr_303 hgv) | 96, _ => va_eqt (nr_304 hgv) | 97, _ => va_eqt (nr_305 hgv) | 98, _ => va_eqt (nr_306 hgv) | 99, _ => va_eqt (nr_307 hgv) | n + 100, h => absurd h (by omega)) hA
  exact ⟨t, va_Zof (hts _ (tb_3 _ (List.mem_of_getElem? (i := 167) rfl))) (hts _ (tb_1 _ (List.mem_of_getElem? (i := 23) rfl))) ht hA, hT⟩
set_option maxRecDepth 20000 in
theorem i32_tb (x : Int32) : Int32.ofNat x.toBitVec.toNat = x := by
  apply Int32.toBitVec_inj.mp
  show BitVec.ofNat 32 x.toBitVec.toNat = x.toBitVec
  rw [BitVec.ofNat_toNat, BitVec.setWidth_eq]
theorem sc_of {b L : Nat} {xs : Nat → Int32} {A : Nat → Prop} {s : State} (hX : va_X b L xs s s.heap) (hb : b < s.heap.size) (hA : ∀ a : Nat, a < s.heap.size → ¬ A a) : va_T .int b L (fun j => .int (Int32.ofNat (xs j).toBitVec.toNat)) A s s.heap := by
  obtain ⟨scr, h1, h2, h3, h4, h5⟩ := hX
  exact ⟨scr, h1, h2, h3, Nat.le_of_eq h4.symm, by rw [h4], fun j hj => by rw [h5 j hj]; exact congrArg (fun x => some (Value.int x)) (i32_tb (xs j)).symm, hA b hb⟩
/-- the numbers of what stands beside the cells -/
def KF (K : Nat → Nat) (t1 t2 b L : Nat) (xs : Nat → Int32) : Nat → Nat := fun n => if n < 200 then K n else if n = 200 then t1 else if n = 201 then t2 else if n = 300 then b else if n = 301 then L else if 1000 ≤ n then (xs (n - 1000)).toBitVec.toNat else 0
theorem ex_all {args : Array Value} {s : State} (hts : ∀ w ∈ lw_tb2, w.before args s = true) (hgv : (Jvm.Cond.and given_1 narrow_1).before args s = true) {A : Nat → Prop} (hA : ∀ a : Nat, a < s.heap.size → ¬ A a) {b L : Nat} {xs : Nat → Int32} (hX : va_X b L xs s s.heap) (hb : b < s.heap.size) (hL : L ≤ 1000) : ∃ K : Nat → Nat, exF K A s ∧ K 300 = b := by
  obtain ⟨K, k1, k2⟩ := st_all hts hgv hA
  obtain ⟨t1, d1, d2⟩ := dg1_of hts hgv hA
  obtain ⟨t2, d3, d4⟩ := dg2_of hts hgv hA
  have l1 : ∀ (i : Nat) (q : String × Nat × String), strT[i]? = some q → i < 20 := fun i q h => (List.getElem?_eq_some_iff.mp h).1
  have l2 : ∀ (i : Nat) (b : List Int32), strB[i]? = some b → i < 10 := fun i b h => (List.getElem?_eq_some_iff.mp h).1
  have hs : (fun j => Value.int (Int32.ofNat (KF K t1 t2 b L xs (1000 + j)))) = (fun j => .int (Int32.ofNat (xs j).toBitVec.toNat)) := by
    funext j
    unfold KF
    rw [if_neg (by omega), if_neg (by omega), if_neg (by omega), if_neg (by omega), if_neg (by omega), if_pos (by omega), Nat.add_sub_cancel_left]
  refine ⟨KF K t1 t2 b L xs, ⟨⟨⟨fun w hw => va_Nw.of (nest_on w hw) (hts w (nl_tl w hw)), va_AO.of (hts _ (tb_2 _ (List.mem_of_getElem? (i := 11) rfl)))⟩, fun w hw => va_Nw.of (thL_on w hw) (hts w (th_tl w hw)), nc_all hts hgv⟩, vx_Zqof (hts _ (tb_2 _ (List.mem_of_getElem? (i := 99) rfl))) (hts _ (tb_1 _ (List.mem_of_getElem? (i := 9) rfl))) (nr_100 hgv) hA, vx_Zqof (hts _ (tb_2 _ (List.mem_of_getElem? (i := 101) rfl))) (hts _ (tb_1 _ (List.mem_of_getElem? (i := 9) rfl))) (nr_101 hgv) hA, va_Zof (hts _ (tb_3 _ (List.mem_of_getElem? (i := 15) rfl))) (hts _ (tb_1 _ (List.mem_of_getElem? (i := 16) rfl))) (va_eqi (nr_102 hgv)) hA, va_Zqof (hts _ (tb_3 _ (List.mem_of_getElem? (i := 94) rfl))) (hts _ (tb_1 _ (List.mem_of_getElem? (i := 21) rfl))) (nr_103 hgv) hA, fun i q h => ?_, fun i b2 h => ?_, ⟨⟨d1, d2⟩, d3, d4⟩, ?_, hL⟩, rfl⟩
  · have := l1 i q h
    have e : KF K t1 t2 b L xs i = K i := if_pos (by omega)
    rw [e]
    exact k1 i q h
  · have := l2 i b2 h
    have e : KF K t1 t2 b L xs i = K i := if_pos (by omega)
    have e2 : KF K t1 t2 b L xs (100 + i) = K (100 + i) := if_pos (by omega)
    rw [e, e2]
    exact k2 i b2 h
  · show va_T .int b L (fun j => Value.int (Int32.ofNat (KF K t1 t2 b L xs (1000 + j)))) A s s.heap
    rw [hs]
    exact sc_of hX hb hA
set_option maxRecDepth 20000 in
theorem kl_all {args : Array Value} {s : State} (hts : ∀ w ∈ lw_tb2, w.before args s = true) (hgv : (Jvm.Cond.and given_1 narrow_1).before args s = true) : ∃ G : va_G, ∀ (c : Nat) (q : vw_C), vwCl[c]? = some q → u_Kn s q.1 q.2.1 q.2.2 (G.1 c) (G.2 c) := by
  obtain ⟨c0, i0, k0⟩ := u_known (C := RX0) (T := TX0) (N := 3) (n := 3) hts tu_0 (hts _ (tb_1 _ (List.mem_of_getElem? (i := 225) rfl)))
  obtain ⟨c1, i1, k1⟩ := u_known (C := RX1) (T := TX1) (N := 6) (n := 6) hts tu_1 (hts _ (tb_1 _ (List.mem_of_getElem? (i := 195) rfl)))
  obtain ⟨c2, i2, k2⟩ := u_known (C := RX2) (T := TX2) (N := 2) (n := 2) hts tu_2 (hts _ (tb_2 _ (List.mem_of_getElem? (i := 5) rfl)))
  obtain ⟨c3, i3, k3⟩ := u_known (C := RX3) (T := TX3) (N := 11) (n := 11) hts tu_3 (hts _ (tb_1 _ (List.mem_of_getElem? (i := 77) rfl)))
  obtain ⟨c4, i4, k4⟩ := u_known (C := RX4) (T := TX4) (N := 2) (n := 2) hts tu_4 (hts _ (tb_2 _ (List.mem_of_getElem? (i := 22) rfl)))
  obtain ⟨c5, i5, k5⟩ := u_known (C := RX5) (T := TX5) (N := 13) (n := 13) hts tu_5 (hts _ (tb_1 _ (List.mem_of_getElem? (i := 83) rfl)))
  obtain ⟨c6, i6, k6⟩ := u_known (C := RX6) (T := TX6) (N := 11) (n := 11) hts tu_6 (hts _ (tb_1 _ (List.mem_of_getElem? (i := 35) rfl)))
  obtain ⟨c7, i7, k7⟩ := u_known (C := RX7) (T := TX7) (N := 9) (n := 9) hts tu_7 (hts _ (tb_1 _ (List.mem_of_getElem? (i := 27) rfl)))
  obtain ⟨c8, i8, k8⟩ := u_known (C := RX8) (T := TX8) (N := 4) (n := 4) hts tu_8 (hts _ (tb_2 _ (List.mem_of_getElem? (i := 237) rfl)))
  refine ⟨(fun k => if k = 0 then c0 else if k = 1 then c1 else if k = 2 then c2 else if k = 3 then c3 else if k = 4 then c4 else if k = 5 then c5 else if k = 6 then c6 else if k = 7 then c7 else c8, fun k => if k = 0 then i0 else if k = 1 then i1 else if k = 2 then i2 else if k = 3 then i3 else if k = 4 then i4 else if k = 5 then i5 else if k = 6 then i6 else if k = 7 then i7 else i8), fun c q hq => ?_⟩
  match c, hq with
  | 0, hq => cases hq; exact k0
  | 1, hq => cases hq; exact k1
  | 2, hq => cases hq; exact k2
  | 3, hq => cases hq; exact k3
  | 4, hq => cases hq; exact k4
  | 5, hq => cases hq; exact k5
  | 6, hq => cases hq; exact k6
  | 7, hq => cases hq; exact k7
  | 8, hq => cases hq; exact k8
  | n + 9, hq => exact absurd hq (by simp [vwCl])
set_option maxRecDepth 20000 in
theorem ka_all {args : Array Value} {s : State} (hts : ∀ w ∈ lw_tb2, w.before args s = true) (hgv : (Jvm.Cond.and given_1 narrow_1).before args s = true) : ∃ g : Nat → ClassId, ∀ (k : Nat) (q : ClassId × FieldType), ([(g 0, .byte), (g 1, .int), (g 2, .long), (g 3, .int), (g 4, .object "TurnLine$Line")] : List (ClassId × FieldType))[k]? = some q → ArrOfT s q.1 q.2 ∧ va_RA s q.1 q.2 := by
  obtain ⟨a0, h0⟩ := ak_of (ty := .byte) (fun C h => by cases h) (hts _ (tb_1 _ (List.mem_of_getElem? (i := 75) rfl)))
  obtain ⟨a1, h1⟩ := ak_of (ty := .int) (fun C h => by cases h) (hts _ (tb_1 _ (List.mem_of_getElem? (i := 144) rfl)))
  obtain ⟨a2, h2⟩ := ak_of (ty := .long) (fun C h => by cases h) (hts _ (tb_1 _ (List.mem_of_getElem? (i := 145) rfl)))
  obtain ⟨a3, h3⟩ := ak_of (ty := .int) (fun C h => by cases h) (hts _ (tb_1 _ (List.mem_of_getElem? (i := 144) rfl)))
  obtain ⟨a4, h4⟩ := ak_obj (C := "TurnLine$Line") (va_AO.of (hts _ (tb_2 _ (List.mem_of_getElem? (i := 11) rfl))))
  refine ⟨fun k => if k = 0 then a0 else if k = 1 then a1 else if k = 2 then a2 else if k = 3 then a3 else a4, fun k q hq => ?_⟩
  match k, hq with
  | 0, hq => cases hq; exact h0
  | 1, hq => cases hq; exact h1
  | 2, hq => cases hq; exact h2
  | 3, hq => cases hq; exact h3
  | 4, hq => cases hq; exact h4
  | n + 5, hq => exact absurd hq (by simp)
/-- the classes, the constants, the statics, the script at the law's entry -/
theorem lw_ext {args : Array Value} {s : State} (hts : ∀ w ∈ lw_tb2, w.before args s = true) (hgv : (Jvm.Cond.and given_1 narrow_1).before args s = true) {A : Nat → Prop} (hA : ∀ a : Nat, a < s.heap.size → ¬ A a) {b L : Nat} {xs : Nat → Int32} (hX : va_X b L xs s s.heap) (hb : b < s.heap.size) (hL : L ≤ 1000) : ∃ G : GG, va_K G.1.1 vwCl (gtys G) s ∧ exF G.1.2 A s ∧ G.1.2 300 = b := by
  obtain ⟨D, hD⟩ := kl_all hts hgv
  obtain ⟨g, hg⟩ := ka_all hts hgv
  obtain ⟨K, hK, hK3⟩ := ex_all hts hgv hA hX hb hL
  exact ⟨((D, K), g), ⟨hD, hg⟩, hK, hK3⟩
end ExtL
