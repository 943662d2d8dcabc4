/-! further facts of the box -/
theorem zt_m2 : ((-2) : Int32).toInt = -2 := by decide
