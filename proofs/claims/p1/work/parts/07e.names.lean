/-! a method of the JDK -/
def RX14 : String := "java/util/Arrays"
abbrev cX14_fill : ByteArray := prog_28_method_103_code
def yX14_fill : MethodName := ⟨RX14, "fill", "([II)V"⟩
