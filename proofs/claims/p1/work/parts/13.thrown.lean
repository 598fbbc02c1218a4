/-! What "throw new E()" needs of the tables, for the three exceptions of the class -/
set_option maxRecDepth 100000 in
theorem th_Mill_IAE : gThr "MatchMill" 53 55 "java/lang/IllegalArgumentException" xNames := ⟨by decide +kernel, by decide +kernel, by decide +kernel⟩
set_option maxRecDepth 100000 in
theorem th_Mill_ISE : gThr "MatchMill" 63 65 "java/lang/IllegalStateException" xNames := ⟨by decide +kernel, by decide +kernel, by decide +kernel⟩
set_option maxRecDepth 100000 in
theorem th_Mill_UOE : gThr "MatchMill" 167 169 "java/lang/UnsupportedOperationException" xNames := ⟨by decide +kernel, by decide +kernel, by decide +kernel⟩
