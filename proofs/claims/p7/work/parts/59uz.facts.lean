/-! further facts of the box (wip/safe/gen35.py) -/
theorem zo_63_14 : zT 63 14 = (5, 0, 3000) := by decide +kernel
