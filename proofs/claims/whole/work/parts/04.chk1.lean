/-! THE CODE TABLES AGAINST THE CLASS FILES, 1 -/
set_option maxRecDepth 100000 in
theorem en_k0 : en_okm en_m0 := by unfold en_okm; decide +kernel
set_option maxRecDepth 100000 in
theorem en_k1 : en_okm en_m1 := by unfold en_okm; decide +kernel
set_option maxRecDepth 100000 in
theorem en_k2 : en_okm en_m2 := by unfold en_okm; decide +kernel
set_option maxRecDepth 100000 in
theorem en_k3 : en_okm en_m3 := by unfold en_okm; decide +kernel
set_option maxRecDepth 100000 in
theorem en_k4 : en_okm en_m4 := by unfold en_okm; decide +kernel
set_option maxRecDepth 100000 in
theorem en_k5 : en_okm en_m5 := by unfold en_okm; decide +kernel
set_option maxRecDepth 100000 in
theorem en_k6 : en_okm en_m6 := by unfold en_okm; decide +kernel
set_option maxRecDepth 100000 in
theorem en_k7 : en_okm en_m7 := by unfold en_okm; decide +kernel
set_option maxRecDepth 100000 in
theorem en_k8 : en_okm en_m8 := by unfold en_okm; decide +kernel
set_option maxRecDepth 100000 in
theorem en_k9 : en_okm en_m9 := by unfold en_okm; decide +kernel
set_option maxRecDepth 100000 in
theorem en_k10 : en_okm en_m10 := by unfold en_okm; decide +kernel
set_option maxRecDepth 100000 in
theorem en_k11 : en_okm en_m11 := by unfold en_okm; decide +kernel
set_option maxRecDepth 100000 in
theorem en_k12 : en_okm en_m12 := by unfold en_okm; decide +kernel
set_option maxRecDepth 100000 in
theorem en_k13 : en_okm en_m13 := by unfold en_okm; decide +kernel
set_option maxRecDepth 100000 in
theorem en_k14 : en_okm en_m14 := by unfold en_okm; decide +kernel
set_option maxRecDepth 100000 in
theorem en_k15 : en_okm en_m15 := by unfold en_okm; decide +kernel
set_option maxRecDepth 100000 in
theorem en_k16 : en_okm en_m16 := by unfold en_okm; decide +kernel
set_option maxRecDepth 100000 in
theorem en_k17 : en_okm en_m17 := by unfold en_okm; decide +kernel
set_option maxRecDepth 100000 in
theorem en_k18 : en_okm en_m18 := by unfold en_okm; decide +kernel
set_option maxRecDepth 100000 in
theorem en_k19 : en_okm en_m19 := by unfold en_okm; decide +kernel
set_option maxRecDepth 100000 in
theorem en_k20 : en_okm en_m20 := by unfold en_okm; decide +kernel
set_option maxRecDepth 100000 in
theorem en_k21 : en_okm en_m21 := by unfold en_okm; decide +kernel
set_option maxRecDepth 100000 in
theorem en_k22 : en_okm en_m22 := by unfold en_okm; decide +kernel
set_option maxRecDepth 100000 in
theorem en_k23 : en_okm en_m23 := by unfold en_okm; decide +kernel
set_option maxRecDepth 100000 in
theorem en_k24 : en_okm en_m24 := by unfold en_okm; decide +kernel
set_option maxRecDepth 100000 in
theorem en_k25 : en_okm en_m25 := by unfold en_okm; decide +kernel
set_option maxRecDepth 100000 in
theorem en_k26 : en_okm en_m26 := by unfold en_okm; decide +kernel
set_option maxRecDepth 100000 in
theorem en_k27 : en_okm en_m27 := by unfold en_okm; decide +kernel
set_option maxRecDepth 100000 in
theorem en_k28 : en_okm en_m28 := by unfold en_okm; decide +kernel
set_option maxRecDepth 100000 in
theorem en_k29 : en_okm en_m29 := by unfold en_okm; decide +kernel
set_option maxRecDepth 100000 in
theorem en_k30 : en_okm en_m30 := by unfold en_okm; decide +kernel
set_option maxRecDepth 100000 in
theorem en_k31 : en_okm en_m31 := by unfold en_okm; decide +kernel
set_option maxRecDepth 100000 in
theorem en_k32 : en_okm en_m32 := by unfold en_okm; decide +kernel
set_option maxRecDepth 100000 in
theorem en_k33 : en_okm en_m33 := by unfold en_okm; decide +kernel
set_option maxRecDepth 100000 in
theorem en_k34 : en_okm en_m34 := by unfold en_okm; decide +kernel
set_option maxRecDepth 100000 in
theorem en_k35 : en_okm en_m35 := by unfold en_okm; decide +kernel
set_option maxRecDepth 100000 in
theorem en_k36 : en_okm en_m36 := by unfold en_okm; decide +kernel
set_option maxRecDepth 100000 in
theorem en_k37 : en_okm en_m37 := by unfold en_okm; decide +kernel
set_option maxRecDepth 100000 in
theorem en_k38 : en_okm en_m38 := by unfold en_okm; decide +kernel
set_option maxRecDepth 100000 in
theorem en_k39 : en_okm en_m39 := by unfold en_okm; decide +kernel
set_option maxRecDepth 100000 in
theorem en_k40 : en_okm en_m40 := by unfold en_okm; decide +kernel
set_option maxRecDepth 100000 in
theorem en_k41 : en_okm en_m41 := by unfold en_okm; decide +kernel
set_option maxRecDepth 100000 in
theorem en_k42 : en_okm en_m42 := by unfold en_okm; decide +kernel
set_option maxRecDepth 100000 in
theorem en_k43 : en_okm en_m43 := by unfold en_okm; decide +kernel
set_option maxRecDepth 100000 in
theorem en_k44 : en_okm en_m44 := by unfold en_okm; decide +kernel
set_option maxRecDepth 100000 in
theorem en_k45 : en_okm en_m45 := by unfold en_okm; decide +kernel
set_option maxRecDepth 100000 in
theorem en_k46 : en_okm en_m46 := by unfold en_okm; decide +kernel
set_option maxRecDepth 100000 in
theorem en_k47 : en_okm en_m47 := by unfold en_okm; decide +kernel
set_option maxRecDepth 100000 in
theorem en_k48 : en_okm en_m48 := by unfold en_okm; decide +kernel
set_option maxRecDepth 100000 in
theorem en_k49 : en_okm en_m49 := by unfold en_okm; decide +kernel
set_option maxRecDepth 100000 in
theorem en_k50 : en_okm en_m50 := by unfold en_okm; decide +kernel
set_option maxRecDepth 100000 in
theorem en_k51 : en_okm en_m51 := by unfold en_okm; decide +kernel
set_option maxRecDepth 100000 in
theorem en_k52 : en_okm en_m52 := by unfold en_okm; decide +kernel
set_option maxRecDepth 100000 in
theorem en_k53 : en_okm en_m53 := by unfold en_okm; decide +kernel
set_option maxRecDepth 100000 in
theorem en_k54 : en_okm en_m54 := by unfold en_okm; decide +kernel
set_option maxRecDepth 100000 in
theorem en_k55 : en_okm en_m55 := by unfold en_okm; decide +kernel
set_option maxRecDepth 100000 in
theorem en_k56 : en_okm en_m56 := by unfold en_okm; decide +kernel
set_option maxRecDepth 100000 in
theorem en_k57 : en_okm en_m57 := by unfold en_okm; decide +kernel
set_option maxRecDepth 100000 in
theorem en_k58 : en_okm en_m58 := by unfold en_okm; decide +kernel
set_option maxRecDepth 100000 in
theorem en_k59 : en_okm en_m59 := by unfold en_okm; decide +kernel
set_option maxRecDepth 100000 in
theorem en_k60 : en_okm en_m60 := by unfold en_okm; decide +kernel
