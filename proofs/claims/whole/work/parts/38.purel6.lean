section PureL6
def rdW (G : GG) (a b : Nat) (f bu : Int → Int) : va_W := [(a, .inr (6, [.ref b, vI (f 0), vI (f 1), vI (f 2), vI (f 3), vI (f 4), vI (f 5), vI (f 6), vI (f 7), vI (f 8), vI (f 9)])), (b, .inl (G.2 0, 700, .inl (fI bu)))]

end PureL6
