/-! THE CODE TABLES AGAINST THE CLASS FILES, 3 -/
set_option maxRecDepth 100000 in
theorem en_k93 : en_okm en_m93 := by unfold en_okm; decide +kernel
set_option maxRecDepth 100000 in
theorem en_k94 : en_okm en_m94 := by unfold en_okm; decide +kernel
set_option maxRecDepth 100000 in
theorem en_k95 : en_okm en_m95 := by unfold en_okm; decide +kernel
set_option maxRecDepth 100000 in
theorem en_k96 : en_okm en_m96 := by unfold en_okm; decide +kernel
set_option maxRecDepth 100000 in
theorem en_k97 : en_okm en_m97 := by unfold en_okm; decide +kernel
set_option maxRecDepth 100000 in
theorem en_k98 : en_okm en_m98 := by unfold en_okm; decide +kernel
set_option maxRecDepth 100000 in
theorem en_k99 : en_okm en_m99 := by unfold en_okm; decide +kernel
set_option maxRecDepth 100000 in
theorem en_k100 : en_okm en_m100 := by unfold en_okm; decide +kernel
set_option maxRecDepth 100000 in
theorem en_k101 : en_okm en_m101 := by unfold en_okm; decide +kernel
set_option maxRecDepth 100000 in
theorem en_k102 : en_okm en_m102 := by unfold en_okm; decide +kernel
set_option maxRecDepth 100000 in
theorem en_k103 : en_okm en_m103 := by unfold en_okm; decide +kernel
set_option maxRecDepth 100000 in
theorem en_k104 : en_okm en_m104 := by unfold en_okm; decide +kernel
set_option maxRecDepth 100000 in
theorem en_k105 : en_okm en_m105 := by unfold en_okm; decide +kernel
set_option maxRecDepth 100000 in
theorem en_k106 : en_okm en_m106 := by unfold en_okm; decide +kernel
set_option maxRecDepth 100000 in
theorem en_k107 : en_okm en_m107 := by unfold en_okm; decide +kernel
set_option maxRecDepth 100000 in
theorem en_k108 : en_okm en_m108 := by unfold en_okm; decide +kernel
set_option maxRecDepth 100000 in
theorem en_k109 : en_okm en_m109 := by unfold en_okm; decide +kernel
