section PureL5
def frW (G : GG) (a b : Nat) (f pl : Int → Int) : va_W := [(a, .inr (1, [.ref b, vI (f 0), vI (f 1), vI (f 2), vI (f 3), vI (f 4)])), (b, .inl (G.2 1, 15, .inl (fI pl)))]
theorem frW_e {G : GG} {a b : Nat} {f pl : Int → Int} {x y : Int} : frW G a b (up (up f 0 x) 1 y) pl = frW G a b (up (up (up f 0 x) 1 y) 2 (f 2 + 0)) pl := by
  unfold frW
  rw [show f 2 + 0 = f 2 by omega]
  rfl
def apF (v : Int) (f : Int → Int) : Int → Int := up (up (up f 0 (f 0 + 1)) 1 (f 1 + v % 256)) 2 (f 2 + bI (isMk (v % 256)))

end PureL5
