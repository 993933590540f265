section PureL4
def adLn (a b c d e f g h i : Nat) : Nat → Nat := fun n => match n with
  | 0 => a | 1 => b | 2 => c | 3 => d | 4 => e | 5 => f | 6 => g | 7 => h | _ => i
/-- a new Line's numbers -/
def liI : Int → Int → Int := up (up (up (fun _ _ => 0) 0 (up (up (up (fun _ => 0) 4 3) 5 20) 9 (-1))) 1 stI) 2 stI

end PureL4
