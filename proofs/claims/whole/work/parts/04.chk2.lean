/-! THE CODE TABLES AGAINST THE CLASS FILES, 2 -/
set_option maxRecDepth 100000 in
theorem en_k61 : en_okm en_m61 := by unfold en_okm; decide +kernel
set_option maxRecDepth 100000 in
theorem en_k62 : en_okm en_m62 := by unfold en_okm; decide +kernel
set_option maxRecDepth 100000 in
theorem en_k63 : en_okm en_m63 := by unfold en_okm; decide +kernel
set_option maxRecDepth 100000 in
theorem en_k64 : en_okm en_m64 := by unfold en_okm; decide +kernel
set_option maxRecDepth 100000 in
theorem en_k65 : en_okm en_m65 := by unfold en_okm; decide +kernel
set_option maxRecDepth 100000 in
theorem en_k66 : en_okm en_m66 := by unfold en_okm; decide +kernel
set_option maxRecDepth 100000 in
theorem en_k67 : en_okm en_m67 := by unfold en_okm; decide +kernel
set_option maxRecDepth 100000 in
theorem en_k68 : en_okm en_m68 := by unfold en_okm; decide +kernel
set_option maxRecDepth 100000 in
theorem en_k69 : en_okm en_m69 := by unfold en_okm; decide +kernel
set_option maxRecDepth 100000 in
theorem en_k70 : en_okm en_m70 := by unfold en_okm; decide +kernel
set_option maxRecDepth 100000 in
theorem en_k71 : en_okm en_m71 := by unfold en_okm; decide +kernel
set_option maxRecDepth 100000 in
theorem en_k72 : en_okm en_m72 := by unfold en_okm; decide +kernel
set_option maxRecDepth 100000 in
theorem en_k73 : en_okm en_m73 := by unfold en_okm; decide +kernel
set_option maxRecDepth 100000 in
theorem en_k74 : en_okm en_m74 := by unfold en_okm; decide +kernel
set_option maxRecDepth 100000 in
theorem en_k75 : en_okm en_m75 := by unfold en_okm; decide +kernel
set_option maxRecDepth 100000 in
theorem en_k76 : en_okm en_m76 := by unfold en_okm; decide +kernel
set_option maxRecDepth 100000 in
theorem en_k77 : en_okm en_m77 := by unfold en_okm; decide +kernel
set_option maxRecDepth 100000 in
theorem en_k78 : en_okm en_m78 := by unfold en_okm; decide +kernel
set_option maxRecDepth 100000 in
theorem en_k79 : en_okm en_m79 := by unfold en_okm; decide +kernel
set_option maxRecDepth 100000 in
theorem en_k80 : en_okm en_m80 := by unfold en_okm; decide +kernel
set_option maxRecDepth 100000 in
theorem en_k81 : en_okm en_m81 := by unfold en_okm; decide +kernel
set_option maxRecDepth 100000 in
theorem en_k82 : en_okm en_m82 := by unfold en_okm; decide +kernel
set_option maxRecDepth 100000 in
theorem en_k83 : en_okm en_m83 := by unfold en_okm; decide +kernel
set_option maxRecDepth 100000 in
theorem en_k84 : en_okm en_m84 := by unfold en_okm; decide +kernel
set_option maxRecDepth 100000 in
theorem en_k85 : en_okm en_m85 := by unfold en_okm; decide +kernel
set_option maxRecDepth 100000 in
theorem en_k86 : en_okm en_m86 := by unfold en_okm; decide +kernel
set_option maxRecDepth 100000 in
theorem en_k87 : en_okm en_m87 := by unfold en_okm; decide +kernel
set_option maxRecDepth 100000 in
theorem en_k88 : en_okm en_m88 := by unfold en_okm; decide +kernel
set_option maxRecDepth 100000 in
theorem en_k89 : en_okm en_m89 := by unfold en_okm; decide +kernel
set_option maxRecDepth 100000 in
theorem en_k90 : en_okm en_m90 := by unfold en_okm; decide +kernel
set_option maxRecDepth 100000 in
theorem en_k91 : en_okm en_m91 := by unfold en_okm; decide +kernel
set_option maxRecDepth 100000 in
theorem en_k92 : en_okm en_m92 := by unfold en_okm; decide +kernel
