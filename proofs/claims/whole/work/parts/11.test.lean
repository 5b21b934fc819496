theorem t_1 : goodWord (.native ⟨"a", "b", "c"⟩) = true := by decide +kernel
theorem t_2 : goodWord (.superclass "a" "b") = true := by decide +kernel
theorem t_3 : goodWord (.castable "a" "b") = true := by decide +kernel
theorem t_4 : goodWord (.declares ⟨"a", "b", "c"⟩) = true := by decide +kernel
theorem t_5 : goodWord (.soleField "a" "b") = true := by decide +kernel
theorem t_6 : goodWord (.privateMethod ⟨"a", "b", "c"⟩) = true := by decide +kernel
theorem t_7 : goodWord (.arrayOver (.array .int)) = true := by decide +kernel
theorem t_8 : goodWord (.stringRef "a" 1 "b") = true := by decide +kernel
