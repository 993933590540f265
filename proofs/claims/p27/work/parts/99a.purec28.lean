section PureC28
def ad12 (a b c d e f g h i j k l : Nat) : Nat → Nat := fun n => match n with
  | 0 => a | 1 => b | 2 => c | 3 => d | 4 => e | 5 => f | 6 => g | 7 => h | 8 => i | 9 => j | 10 => k | _ => l
def B7 (a b c d e f g : Nat → Nat) : Nat → Nat → Nat := fun n => match n with
  | 0 => a | 1 => b | 2 => c | 3 => d | 4 => e | 5 => f | _ => g

end PureC28
