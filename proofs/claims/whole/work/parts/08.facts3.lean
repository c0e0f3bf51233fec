set_option maxRecDepth 100000 in
theorem gMt_0 : ((gMt.drop 0).take 16).all gMk = true := by decide +kernel
set_option maxRecDepth 100000 in
theorem gMt_16 : ((gMt.drop 16).take 16).all gMk = true := by decide +kernel
set_option maxRecDepth 100000 in
theorem gMt_32 : ((gMt.drop 32).take 16).all gMk = true := by decide +kernel
set_option maxRecDepth 100000 in
theorem gMt_48 : ((gMt.drop 48).take 16).all gMk = true := by decide +kernel
set_option maxRecDepth 100000 in
theorem gMt_64 : ((gMt.drop 64).take 16).all gMk = true := by decide +kernel
set_option maxRecDepth 100000 in
theorem gMt_80 : ((gMt.drop 80).take 16).all gMk = true := by decide +kernel
set_option maxRecDepth 100000 in
theorem gMt_96 : ((gMt.drop 96).take 16).all gMk = true := by decide +kernel
set_option maxRecDepth 100000 in
theorem gMt_112 : ((gMt.drop 112).take 16).all gMk = true := by decide +kernel
set_option maxRecDepth 100000 in
theorem gMt_128 : ((gMt.drop 128).take 16).all gMk = true := by decide +kernel
set_option maxRecDepth 100000 in
theorem gMt_144 : ((gMt.drop 144).take 16).all gMk = true := by decide +kernel
set_option maxRecDepth 100000 in
theorem gMt_160 : ((gMt.drop 160).take 16).all gMk = true := by decide +kernel
set_option maxRecDepth 100000 in
theorem gMt_176 : ((gMt.drop 176).take 16).all gMk = true := by decide +kernel
set_option maxRecDepth 100000 in
theorem gMt_192 : ((gMt.drop 192).take 16).all gMk = true := by decide +kernel
set_option maxRecDepth 100000 in
theorem gMt_208 : ((gMt.drop 208).take 16).all gMk = true := by decide +kernel
set_option maxRecDepth 100000 in
theorem gMt_224 : ((gMt.drop 224).take 16).all gMk = true := by decide +kernel
set_option maxRecDepth 100000 in
theorem gMt_240 : ((gMt.drop 240).take 16).all gMk = true := by decide +kernel
set_option maxRecDepth 100000 in
theorem gMt_split : gMt = (gMt.drop 0).take 16 ++ ((gMt.drop 16).take 16 ++ ((gMt.drop 32).take 16 ++ ((gMt.drop 48).take 16 ++ ((gMt.drop 64).take 16 ++ ((gMt.drop 80).take 16 ++ ((gMt.drop 96).take 16 ++ ((gMt.drop 112).take 16 ++ ((gMt.drop 128).take 16 ++ ((gMt.drop 144).take 16 ++ ((gMt.drop 160).take 16 ++ ((gMt.drop 176).take 16 ++ ((gMt.drop 192).take 16 ++ ((gMt.drop 208).take 16 ++ ((gMt.drop 224).take 16 ++ ((gMt.drop 240).take 16))))))))))))))) := by decide +kernel
theorem gMt_ok : gMt.all gMk = true := by
  rw [gMt_split]
  simp only [List.all_append, gMt_0, gMt_16, gMt_32, gMt_48, gMt_64, gMt_80, gMt_96, gMt_112, gMt_128, gMt_144, gMt_160, gMt_176, gMt_192, gMt_208, gMt_224, gMt_240, Bool.and_self]
