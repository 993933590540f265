section PureL6
/-- all scalars of a reader but the value are small -/
def sbX (f : Int → Int) : Prop := ∀ i : Int, 0 ≤ i → i ≤ 9 → i ≠ 5 → -1073741824 < f i ∧ f i < 1073741824
def rdW (G : GG) (a b : Nat) (f bu : Int → Int) : va_W := [(a, .inr (6, [.ref b, vI (f 0), vI (f 1), vI (f 2), vI (f 3), vI (f 4), vI (f 5), vI (f 6), vI (f 7), vI (f 8), vI (f 9)])), (b, .inl (G.2 0, 700, .inl (fI bu)))]

end PureL6
