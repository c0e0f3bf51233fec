set_option maxRecDepth 100000 in
theorem gk205_10 : gT205_10.all (gokb 205) = true := by decide +kernel
set_option maxRecDepth 100000 in
theorem gk205_11 : gT205_11.all (gokb 205) = true := by decide +kernel
set_option maxRecDepth 100000 in
theorem gk205_12 : gT205_12.all (gokb 205) = true := by decide +kernel
set_option maxRecDepth 100000 in
theorem gk205_13 : gT205_13.all (gokb 205) = true := by decide +kernel
set_option maxRecDepth 100000 in
theorem gk205_14 : gT205_14.all (gokb 205) = true := by decide +kernel
set_option maxRecDepth 100000 in
theorem gk205_15 : gT205_15.all (gokb 205) = true := by decide +kernel
set_option maxRecDepth 100000 in
theorem gk205_16 : gT205_16.all (gokb 205) = true := by decide +kernel
set_option maxRecDepth 100000 in
theorem gk205_17 : gT205_17.all (gokb 205) = true := by decide +kernel
set_option maxRecDepth 100000 in
theorem gk205_18 : gT205_18.all (gokb 205) = true := by decide +kernel
set_option maxRecDepth 100000 in
theorem gk205_19 : gT205_19.all (gokb 205) = true := by decide +kernel
theorem gk205 : gT205.all (gokb 205) = true := by
  unfold gT205
  simp only [List.all_append, gk205_0, gk205_1, gk205_2, gk205_3, gk205_4, gk205_5, gk205_6, gk205_7, gk205_8, gk205_9, gk205_10, gk205_11, gk205_12, gk205_13, gk205_14, gk205_15, gk205_16, gk205_17, gk205_18, gk205_19, Bool.and_self]
