/-! the rows in their order, worked out -/
theorem ok_1 : okR 1 0 1 = true := by decide +kernel
theorem ok_2 : okR 2 0 2 = true := by decide +kernel
theorem ok_3 : okR 3 0 6 = true := by decide +kernel
theorem ok_4 : okR 4 0 24 = true := by decide +kernel
theorem ok_5 : okR 5 0 120 = true := by decide +kernel
theorem ok_6a : okR 6 0 120 = true := by decide +kernel
theorem ok_6b : okR 6 120 120 = true := by decide +kernel
theorem ok_6c : okR 6 240 120 = true := by decide +kernel
theorem ok_6d : okR 6 360 120 = true := by decide +kernel
theorem ok_6e : okR 6 480 120 = true := by decide +kernel
theorem ok_6f : okR 6 600 120 = true := by decide +kernel
