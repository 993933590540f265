section PureL7
/-- the byte of an int behind an unsigned shift -/
def u8 (a sh : Int) : Int := ((iI a).toUInt32 >>> ((iI sh).toUInt32 &&& Int32.toUInt32 31)).toInt32.toInt8.toInt32.toInt
theorem u8_b (a sh : Int) : (iI ((iI a).toUInt32 >>> ((iI sh).toUInt32 &&& Int32.toUInt32 31)).toInt32.toInt).toInt8.toInt32 = iI (u8 a sh) := by
  unfold u8
  rw [iI_of, iI_of]
theorem u8_nar {a sh : Int} : vp_nar .byte (iI (u8 a sh)) = iI (u8 a sh) := by
  unfold u8
  rw [iI_of]
  exact pk_vb _

end PureL7
