section Pure9
/-- a new Station's numbers -/
def stI : Int → Int := up (up (fun _ => 0) 3 4) 7 4

end Pure9
