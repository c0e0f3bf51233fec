set_option maxRecDepth 100000 in
theorem gk205_0 : gT205_0.all (gokb 205) = true := by decide +kernel
set_option maxRecDepth 100000 in
theorem gk205_1 : gT205_1.all (gokb 205) = true := by decide +kernel
set_option maxRecDepth 100000 in
theorem gk205_2 : gT205_2.all (gokb 205) = true := by decide +kernel
set_option maxRecDepth 100000 in
theorem gk205_3 : gT205_3.all (gokb 205) = true := by decide +kernel
set_option maxRecDepth 100000 in
theorem gk205_4 : gT205_4.all (gokb 205) = true := by decide +kernel
set_option maxRecDepth 100000 in
theorem gk205_5 : gT205_5.all (gokb 205) = true := by decide +kernel
set_option maxRecDepth 100000 in
theorem gk205_6 : gT205_6.all (gokb 205) = true := by decide +kernel
set_option maxRecDepth 100000 in
theorem gk205_7 : gT205_7.all (gokb 205) = true := by decide +kernel
set_option maxRecDepth 100000 in
theorem gk205_8 : gT205_8.all (gokb 205) = true := by decide +kernel
set_option maxRecDepth 100000 in
theorem gk205_9 : gT205_9.all (gokb 205) = true := by decide +kernel
