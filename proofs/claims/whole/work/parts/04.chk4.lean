/-! THE CODE TABLES AGAINST THE CLASS FILES, 4 -/
set_option maxRecDepth 100000 in
theorem en_k110 : en_okm en_m110 := by unfold en_okm; decide +kernel
set_option maxRecDepth 100000 in
theorem en_k111 : en_okm en_m111 := by unfold en_okm; decide +kernel
set_option maxRecDepth 100000 in
theorem en_k112 : en_okm en_m112 := by unfold en_okm; decide +kernel
set_option maxRecDepth 100000 in
theorem en_k113 : en_okm en_m113 := by unfold en_okm; decide +kernel
set_option maxRecDepth 100000 in
theorem en_k114 : en_okm en_m114 := by unfold en_okm; decide +kernel
set_option maxRecDepth 100000 in
theorem en_k115 : en_okm en_m115 := by unfold en_okm; decide +kernel
set_option maxRecDepth 100000 in
theorem en_k116 : en_okm en_m116 := by unfold en_okm; decide +kernel
set_option maxRecDepth 100000 in
theorem en_k117 : en_okm en_m117 := by unfold en_okm; decide +kernel
set_option maxRecDepth 100000 in
theorem en_k118 : en_okm en_m118 := by unfold en_okm; decide +kernel
set_option maxRecDepth 100000 in
theorem en_k119 : en_okm en_m119 := by unfold en_okm; decide +kernel
set_option maxRecDepth 100000 in
theorem en_k120 : en_okm en_m120 := by unfold en_okm; decide +kernel
set_option maxRecDepth 100000 in
theorem en_k121 : en_okm en_m121 := by unfold en_okm; decide +kernel
set_option maxRecDepth 100000 in
theorem en_k122 : en_okm en_m122 := by unfold en_okm; decide +kernel
set_option maxRecDepth 100000 in
theorem en_k123 : en_okm en_m123 := by unfold en_okm; decide +kernel
set_option maxRecDepth 100000 in
theorem en_k124 : en_okm en_m124 := by unfold en_okm; decide +kernel
set_option maxRecDepth 100000 in
theorem en_k125 : en_okm en_m125 := by unfold en_okm; decide +kernel
set_option maxRecDepth 100000 in
theorem en_k126 : en_okm en_m126 := by unfold en_okm; decide +kernel
set_option maxRecDepth 100000 in
theorem en_k127 : en_okm en_m127 := by unfold en_okm; decide +kernel
set_option maxRecDepth 100000 in
theorem en_k128 : en_okm en_m128 := by unfold en_okm; decide +kernel
