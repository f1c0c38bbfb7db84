theorem op_law {K : Nat → Nat} {S T : FS} {za zb : Int32} (h : RelR K S (T.2 55)) : OK2 S T (f_X11_law S za zb) (f_X12_law T za zb) := by
  sorry
