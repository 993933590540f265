section Pure9
def adM (a b c d e f g h i j : Nat) : Nat → Nat := fun n => match n with
  | 0 => a | 1 => b | 2 => c | 3 => d | 4 => e | 5 => f | 6 => g | 7 => h | 8 => i | _ => j
def Z0 : Int → Int → Int := fun _ _ => 0
def stI : Int → Int := up (up (fun _ => 0) 3 4) 7 4

end Pure9
