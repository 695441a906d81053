/-! THE CLASS AS PURE FUNCTIONS, 4: PluggedBus, which ports there are, what the host hears -/
section Cx4
variable {d p k n m q : Nat} {f : en_T} {Q : en_Q} {v w a b x : Int32}
theorem cs_lt2 (hp : p < 6) : (nI p < 2) = (p < 2) := cb_lt (b := 2) (by omega) (by omega)
theorem cs_lt6 (hp : p < 6) : (nI p < 6) = True := by
  rw [show (6 : Int32) = nI 6 from rfl, cb_lt (by omega) (by omega)]
  simp [hp]
theorem cs_lt0 (hp : p < 6) : (nI p < 0) = False := by simp [nI_pos (show p < 2 ^ 31 by omega)]
theorem cs_hub (h2 : ¬ p < 2) (hp : p < 6) : nI p / 2 - 1 = nI (p / 2 - 1) := by
  rw [show (2 : Int32) = nI 2 from rfl, pk_div (by omega) (by omega) (by omega), show (1 : Int32) = nI 1 from rfl, pk_sub (by omega)]
theorem cs_fb : 2 * nI p + 2 = nI (2 * p + 2) := by
  rw [show (2 : Int32) = nI 2 from rfl, pk_mul, nI_add]
set_option maxRecDepth 100000 in
set_option maxHeartbeats 800000 in
theorem cv_isPort : en_Ev (d + 1) 49 [.inl v] f Q = Q (some (.inl (if ¬ v < 0 ∧ v < 6 then 1 else 0))) f := by
  simp only [e49, r49_0, r49_1, r49_4, r49_5, r49_7, r49_10, r49_11, r49_14, r49_15, true_and, and_true, Option.toList_some, Option.toList_none, List.cons_append, List.nil_append, List.length_nil, List.length_cons, Nat.reduceAdd, Nat.reduceLeDiff, Nat.zero_le, cb_0, cb_1, cb_01, cb_i, cb_j, eq_self, cb_le, cb_nn, ↓reduceIte, en_ua, Nat.reduceEqDiff, false_and, and_false, and_self]
  by_cases h : v < 0 <;> by_cases h2 : v < 6 <;> simp [h, h2]
set_option maxRecDepth 100000 in
set_option maxHeartbeats 800000 in
theorem cv_hubPortOf : en_Ev (d + 1) 50 [.inl v] f Q = Q (some (.inl (v / 2 - 1))) f := by
  simp only [e50, r50_0, r50_1, r50_2, r50_3, r50_4, r50_5, true_and, and_true, Option.toList_some, Option.toList_none, List.cons_append, List.nil_append, List.length_nil, List.length_cons, Nat.reduceAdd, Nat.reduceLeDiff, Nat.zero_le, cb_0, cb_1, cb_01, cb_i, cb_j, eq_self, cb_le, cb_nn, ↓reduceIte, en_ua, Nat.reduceEqDiff, false_and, and_false, and_self, Int32.reduceLT, Int32.reduceAdd, Int32.reduceSub, Int32.reduceMul, Int32.reduceDiv, not_true_eq_false, not_false_eq_true, false_implies, true_implies, implies_true, cl_0, cl_1, cl_2, cl_3, cl_4, cl_5, cl_6, cl_7, cl_8, cl_9, cl_10, cl_11, cl_12, cl_13, cl_14, cl_15, cl_16, ci_6_0, ci_6_1, ci_6_2, ci_6_3, ci_6_4, ci_6_5, ci_8_0, ci_8_1, ci_8_2, ci_8_3, ci_8_4, ci_8_5, ci_8_6, ci_8_7, ci_16_0, ci_16_1, ci_16_2, ci_16_3, ci_16_4, ci_16_5, ci_16_6, ci_16_7, ci_16_8, ci_16_9, ci_16_10, ci_16_11, ci_16_12, ci_16_13, ci_16_14, ci_16_15, ci_4_0, ci_4_1, ci_4_2, ci_4_3, ci_40_0, ci_40_1, ci_40_2, ci_40_3, ci_40_4, ci_40_5, ci_40_6, ci_40_7, ci_40_8, ci_40_9, ci_40_10, ci_40_11, ci_40_12, ci_40_13, ci_40_14, ci_40_15, cq_m1_0, cq_m1_1, cq_m1_2, cq_m1_3, cq_m1_4, cq_m1_5, cq_m1_6, cq_m1_7, cq_m1_8, cq_0_m1, cq_0_1, cq_0_2, cq_0_3, cq_0_4, cq_0_5, cq_0_6, cq_0_7, cq_0_8, cq_1_m1, cq_1_0, cq_1_2, cq_1_3, cq_1_4, cq_1_5, cq_1_6, cq_1_7, cq_1_8, cq_2_m1, cq_2_0, cq_2_1, cq_2_3, cq_2_4, cq_2_5, cq_2_6, cq_2_7, cq_2_8, cq_3_m1, cq_3_0, cq_3_1, cq_3_2, cq_3_4, cq_3_5, cq_3_6, cq_3_7, cq_3_8, cq_4_m1, cq_4_0, cq_4_1, cq_4_2, cq_4_3, cq_4_5, cq_4_6, cq_4_7, cq_4_8, cq_5_m1, cq_5_0, cq_5_1, cq_5_2, cq_5_3, cq_5_4, cq_5_6, cq_5_7, cq_5_8, cq_6_m1, cq_6_0, cq_6_1, cq_6_2, cq_6_3, cq_6_4, cq_6_5, cq_6_7, cq_6_8, cq_7_m1, cq_7_0, cq_7_1, cq_7_2, cq_7_3, cq_7_4, cq_7_5, cq_7_6, cq_7_8, cq_8_m1, cq_8_0, cq_8_1, cq_8_2, cq_8_3, cq_8_4, cq_8_5, cq_8_6, cq_8_7]
set_option maxRecDepth 100000 in
set_option maxHeartbeats 800000 in
theorem cv_firstBehind : en_Ev (d + 1) 51 [.inl v] f Q = Q (some (.inl (2 * v + 2))) f := by
  simp only [e51, r51_0, r51_1, r51_2, r51_3, r51_4, r51_5, true_and, and_true, Option.toList_some, Option.toList_none, List.cons_append, List.nil_append, List.length_nil, List.length_cons, Nat.reduceAdd, Nat.reduceLeDiff, Nat.zero_le, cb_0, cb_1, cb_01, cb_i, cb_j, eq_self, cb_le, cb_nn, ↓reduceIte, en_ua, Nat.reduceEqDiff, false_and, and_false, and_self, Int32.reduceLT, Int32.reduceAdd, Int32.reduceSub, Int32.reduceMul, Int32.reduceDiv, not_true_eq_false, not_false_eq_true, false_implies, true_implies, implies_true, cl_0, cl_1, cl_2, cl_3, cl_4, cl_5, cl_6, cl_7, cl_8, cl_9, cl_10, cl_11, cl_12, cl_13, cl_14, cl_15, cl_16, ci_6_0, ci_6_1, ci_6_2, ci_6_3, ci_6_4, ci_6_5, ci_8_0, ci_8_1, ci_8_2, ci_8_3, ci_8_4, ci_8_5, ci_8_6, ci_8_7, ci_16_0, ci_16_1, ci_16_2, ci_16_3, ci_16_4, ci_16_5, ci_16_6, ci_16_7, ci_16_8, ci_16_9, ci_16_10, ci_16_11, ci_16_12, ci_16_13, ci_16_14, ci_16_15, ci_4_0, ci_4_1, ci_4_2, ci_4_3, ci_40_0, ci_40_1, ci_40_2, ci_40_3, ci_40_4, ci_40_5, ci_40_6, ci_40_7, ci_40_8, ci_40_9, ci_40_10, ci_40_11, ci_40_12, ci_40_13, ci_40_14, ci_40_15, cq_m1_0, cq_m1_1, cq_m1_2, cq_m1_3, cq_m1_4, cq_m1_5, cq_m1_6, cq_m1_7, cq_m1_8, cq_0_m1, cq_0_1, cq_0_2, cq_0_3, cq_0_4, cq_0_5, cq_0_6, cq_0_7, cq_0_8, cq_1_m1, cq_1_0, cq_1_2, cq_1_3, cq_1_4, cq_1_5, cq_1_6, cq_1_7, cq_1_8, cq_2_m1, cq_2_0, cq_2_1, cq_2_3, cq_2_4, cq_2_5, cq_2_6, cq_2_7, cq_2_8, cq_3_m1, cq_3_0, cq_3_1, cq_3_2, cq_3_4, cq_3_5, cq_3_6, cq_3_7, cq_3_8, cq_4_m1, cq_4_0, cq_4_1, cq_4_2, cq_4_3, cq_4_5, cq_4_6, cq_4_7, cq_4_8, cq_5_m1, cq_5_0, cq_5_1, cq_5_2, cq_5_3, cq_5_4, cq_5_6, cq_5_7, cq_5_8, cq_6_m1, cq_6_0, cq_6_1, cq_6_2, cq_6_3, cq_6_4, cq_6_5, cq_6_7, cq_6_8, cq_7_m1, cq_7_0, cq_7_1, cq_7_2, cq_7_3, cq_7_4, cq_7_5, cq_7_6, cq_7_8, cq_8_m1, cq_8_0, cq_8_1, cq_8_2, cq_8_3, cq_8_4, cq_8_5, cq_8_6, cq_8_7]
set_option maxRecDepth 100000 in
set_option maxHeartbeats 800000 in
theorem cv_isThere (hp : p < 6) : en_Ev (d + 2) 52 [.inr (0, 0), .inl (nI p)] f Q = Q (some (.inl (if p < 2 ∨ f.1 4 (p / 2 - 1) 3 = 3 then 1 else 0))) f := by
  by_cases h2 : p < 2
  · simp only [e52, r52_0, r52_1, r52_4, r52_7, r52_8, r52_9, r52_12, r52_13, r52_16, r52_17, r52_20, r52_21, r52_24, r52_27, r52_28, r52_31, r52_32, r52_35, r52_36, true_and, and_true, Option.toList_some, Option.toList_none, List.cons_append, List.nil_append, List.length_nil, List.length_cons, Nat.reduceAdd, Nat.reduceLeDiff, Nat.zero_le, cb_0, cb_1, cb_01, cb_i, cb_j, eq_self, cb_le, cb_nn, ↓reduceIte, en_ua, Nat.reduceEqDiff, false_and, and_false, and_self, Int32.reduceLT, Int32.reduceAdd, Int32.reduceSub, Int32.reduceMul, Int32.reduceDiv, not_true_eq_false, not_false_eq_true, false_implies, true_implies, implies_true, cl_0, cl_1, cl_2, cl_3, cl_4, cl_5, cl_6, cl_7, cl_8, cl_9, cl_10, cl_11, cl_12, cl_13, cl_14, cl_15, cl_16, ci_6_0, ci_6_1, ci_6_2, ci_6_3, ci_6_4, ci_6_5, ci_8_0, ci_8_1, ci_8_2, ci_8_3, ci_8_4, ci_8_5, ci_8_6, ci_8_7, ci_16_0, ci_16_1, ci_16_2, ci_16_3, ci_16_4, ci_16_5, ci_16_6, ci_16_7, ci_16_8, ci_16_9, ci_16_10, ci_16_11, ci_16_12, ci_16_13, ci_16_14, ci_16_15, ci_4_0, ci_4_1, ci_4_2, ci_4_3, ci_40_0, ci_40_1, ci_40_2, ci_40_3, ci_40_4, ci_40_5, ci_40_6, ci_40_7, ci_40_8, ci_40_9, ci_40_10, ci_40_11, ci_40_12, ci_40_13, ci_40_14, ci_40_15, cq_m1_0, cq_m1_1, cq_m1_2, cq_m1_3, cq_m1_4, cq_m1_5, cq_m1_6, cq_m1_7, cq_m1_8, cq_0_m1, cq_0_1, cq_0_2, cq_0_3, cq_0_4, cq_0_5, cq_0_6, cq_0_7, cq_0_8, cq_1_m1, cq_1_0, cq_1_2, cq_1_3, cq_1_4, cq_1_5, cq_1_6, cq_1_7, cq_1_8, cq_2_m1, cq_2_0, cq_2_1, cq_2_3, cq_2_4, cq_2_5, cq_2_6, cq_2_7, cq_2_8, cq_3_m1, cq_3_0, cq_3_1, cq_3_2, cq_3_4, cq_3_5, cq_3_6, cq_3_7, cq_3_8, cq_4_m1, cq_4_0, cq_4_1, cq_4_2, cq_4_3, cq_4_5, cq_4_6, cq_4_7, cq_4_8, cq_5_m1, cq_5_0, cq_5_1, cq_5_2, cq_5_3, cq_5_4, cq_5_6, cq_5_7, cq_5_8, cq_6_m1, cq_6_0, cq_6_1, cq_6_2, cq_6_3, cq_6_4, cq_6_5, cq_6_7, cq_6_8, cq_7_m1, cq_7_0, cq_7_1, cq_7_2, cq_7_3, cq_7_4, cq_7_5, cq_7_6, cq_7_8, cq_8_m1, cq_8_0, cq_8_1, cq_8_2, cq_8_3, cq_8_4, cq_8_5, cq_8_6, cq_8_7, ↓cv_isPort, ↓cv_hubPortOf, cs_lt2 hp, cs_lt6 hp, cs_lt0 hp, h2]
    simp
  · have hq : p / 2 - 1 < 6 := by omega
    simp only [e52, r52_0, r52_1, r52_4, r52_7, r52_8, r52_9, r52_12, r52_13, r52_16, r52_17, r52_20, r52_21, r52_24, r52_27, r52_28, r52_31, r52_32, r52_35, r52_36, true_and, and_true, Option.toList_some, Option.toList_none, List.cons_append, List.nil_append, List.length_nil, List.length_cons, Nat.reduceAdd, Nat.reduceLeDiff, Nat.zero_le, cb_0, cb_1, cb_01, cb_i, cb_j, eq_self, cb_le, cb_nn, ↓reduceIte, en_ua, Nat.reduceEqDiff, false_and, and_false, and_self, Int32.reduceLT, Int32.reduceAdd, Int32.reduceSub, Int32.reduceMul, Int32.reduceDiv, not_true_eq_false, not_false_eq_true, false_implies, true_implies, implies_true, cl_0, cl_1, cl_2, cl_3, cl_4, cl_5, cl_6, cl_7, cl_8, cl_9, cl_10, cl_11, cl_12, cl_13, cl_14, cl_15, cl_16, ci_6_0, ci_6_1, ci_6_2, ci_6_3, ci_6_4, ci_6_5, ci_8_0, ci_8_1, ci_8_2, ci_8_3, ci_8_4, ci_8_5, ci_8_6, ci_8_7, ci_16_0, ci_16_1, ci_16_2, ci_16_3, ci_16_4, ci_16_5, ci_16_6, ci_16_7, ci_16_8, ci_16_9, ci_16_10, ci_16_11, ci_16_12, ci_16_13, ci_16_14, ci_16_15, ci_4_0, ci_4_1, ci_4_2, ci_4_3, ci_40_0, ci_40_1, ci_40_2, ci_40_3, ci_40_4, ci_40_5, ci_40_6, ci_40_7, ci_40_8, ci_40_9, ci_40_10, ci_40_11, ci_40_12, ci_40_13, ci_40_14, ci_40_15, cq_m1_0, cq_m1_1, cq_m1_2, cq_m1_3, cq_m1_4, cq_m1_5, cq_m1_6, cq_m1_7, cq_m1_8, cq_0_m1, cq_0_1, cq_0_2, cq_0_3, cq_0_4, cq_0_5, cq_0_6, cq_0_7, cq_0_8, cq_1_m1, cq_1_0, cq_1_2, cq_1_3, cq_1_4, cq_1_5, cq_1_6, cq_1_7, cq_1_8, cq_2_m1, cq_2_0, cq_2_1, cq_2_3, cq_2_4, cq_2_5, cq_2_6, cq_2_7, cq_2_8, cq_3_m1, cq_3_0, cq_3_1, cq_3_2, cq_3_4, cq_3_5, cq_3_6, cq_3_7, cq_3_8, cq_4_m1, cq_4_0, cq_4_1, cq_4_2, cq_4_3, cq_4_5, cq_4_6, cq_4_7, cq_4_8, cq_5_m1, cq_5_0, cq_5_1, cq_5_2, cq_5_3, cq_5_4, cq_5_6, cq_5_7, cq_5_8, cq_6_m1, cq_6_0, cq_6_1, cq_6_2, cq_6_3, cq_6_4, cq_6_5, cq_6_7, cq_6_8, cq_7_m1, cq_7_0, cq_7_1, cq_7_2, cq_7_3, cq_7_4, cq_7_5, cq_7_6, cq_7_8, cq_8_m1, cq_8_0, cq_8_1, cq_8_2, cq_8_3, cq_8_4, cq_8_5, cq_8_6, cq_8_7, ↓cv_isPort, ↓cv_hubPortOf, cs_lt2 hp, cs_lt6 hp, cs_lt0 hp, h2, cs_hub h2 hp, cb_in6 hq, cb_c6 hq, hq]
    by_cases h3 : f.1 4 (p / 2 - 1) 3 = 3 <;> simp [h3]
set_option maxRecDepth 100000 in
set_option maxHeartbeats 800000 in
theorem cv_isThere0 (h : ¬ (¬ v < 0 ∧ v < 6)) : en_Ev (d + 2) 52 [.inr (0, 0), .inl v] f Q = Q (some (.inl 0)) f := by
  simp only [e52, r52_0, r52_1, r52_4, r52_7, r52_8, r52_9, r52_12, r52_13, r52_16, r52_17, r52_20, r52_21, r52_24, r52_27, r52_28, r52_31, r52_32, r52_35, r52_36, true_and, and_true, Option.toList_some, Option.toList_none, List.cons_append, List.nil_append, List.length_nil, List.length_cons, Nat.reduceAdd, Nat.reduceLeDiff, Nat.zero_le, cb_0, cb_1, cb_01, cb_i, cb_j, eq_self, cb_le, cb_nn, ↓reduceIte, en_ua, Nat.reduceEqDiff, false_and, and_false, and_self, Int32.reduceLT, Int32.reduceAdd, Int32.reduceSub, Int32.reduceMul, Int32.reduceDiv, not_true_eq_false, not_false_eq_true, false_implies, true_implies, implies_true, cl_0, cl_1, cl_2, cl_3, cl_4, cl_5, cl_6, cl_7, cl_8, cl_9, cl_10, cl_11, cl_12, cl_13, cl_14, cl_15, cl_16, ci_6_0, ci_6_1, ci_6_2, ci_6_3, ci_6_4, ci_6_5, ci_8_0, ci_8_1, ci_8_2, ci_8_3, ci_8_4, ci_8_5, ci_8_6, ci_8_7, ci_16_0, ci_16_1, ci_16_2, ci_16_3, ci_16_4, ci_16_5, ci_16_6, ci_16_7, ci_16_8, ci_16_9, ci_16_10, ci_16_11, ci_16_12, ci_16_13, ci_16_14, ci_16_15, ci_4_0, ci_4_1, ci_4_2, ci_4_3, ci_40_0, ci_40_1, ci_40_2, ci_40_3, ci_40_4, ci_40_5, ci_40_6, ci_40_7, ci_40_8, ci_40_9, ci_40_10, ci_40_11, ci_40_12, ci_40_13, ci_40_14, ci_40_15, cq_m1_0, cq_m1_1, cq_m1_2, cq_m1_3, cq_m1_4, cq_m1_5, cq_m1_6, cq_m1_7, cq_m1_8, cq_0_m1, cq_0_1, cq_0_2, cq_0_3, cq_0_4, cq_0_5, cq_0_6, cq_0_7, cq_0_8, cq_1_m1, cq_1_0, cq_1_2, cq_1_3, cq_1_4, cq_1_5, cq_1_6, cq_1_7, cq_1_8, cq_2_m1, cq_2_0, cq_2_1, cq_2_3, cq_2_4, cq_2_5, cq_2_6, cq_2_7, cq_2_8, cq_3_m1, cq_3_0, cq_3_1, cq_3_2, cq_3_4, cq_3_5, cq_3_6, cq_3_7, cq_3_8, cq_4_m1, cq_4_0, cq_4_1, cq_4_2, cq_4_3, cq_4_5, cq_4_6, cq_4_7, cq_4_8, cq_5_m1, cq_5_0, cq_5_1, cq_5_2, cq_5_3, cq_5_4, cq_5_6, cq_5_7, cq_5_8, cq_6_m1, cq_6_0, cq_6_1, cq_6_2, cq_6_3, cq_6_4, cq_6_5, cq_6_7, cq_6_8, cq_7_m1, cq_7_0, cq_7_1, cq_7_2, cq_7_3, cq_7_4, cq_7_5, cq_7_6, cq_7_8, cq_8_m1, cq_8_0, cq_8_1, cq_8_2, cq_8_3, cq_8_4, cq_8_5, cq_8_6, cq_8_7, ↓cv_isPort, h]
theorem r53_1 {cs : en_S} {post : en_Q} {lo : en_L} {st : List en_V} : en_R cs 53 d post 1 lo (.inl x :: st) f = (if x = 1 then en_R cs 53 d post 28 lo st f else if x = 2 then en_R cs 53 d post 54 lo st f else if x = 3 then en_R cs 53 d post 82 lo st f else en_R cs 53 d post 96 lo st f) := by
  have hc : en_cd 53 1 = some (.tableswitch 95 1 3 #[27, 53, 81], 27, 0, 0) := by decide +kernel
  by_cases h1 : x = 1
  · subst h1; exact en_R_n (by rw [en_stp_c hc]; rfl)
  · by_cases h2 : x = 2
    · subst h2; exact en_R_n (by rw [en_stp_c hc]; rfl)
    · by_cases h3 : x = 3
      · subst h3; exact en_R_n (by rw [en_stp_c hc]; rfl)
      · rw [if_neg h1, if_neg h2, if_neg h3]
        refine en_R_n (by
          rw [en_stp_c hc]
          show en_tsw 1 lo (.inl x :: st) f 95 1 3 #[27, 53, 81] = _
          have g1 : x.toInt ≠ 1 := fun z => h1 (Int32.toInt_inj.mp z)
          have g2 : x.toInt ≠ 2 := fun z => h2 (Int32.toInt_inj.mp z)
          have g3 : x.toInt ≠ 3 := fun z => h3 (Int32.toInt_inj.mp z)
          show (if x.toInt < 1 then en_jp 1 95 lo st f else if 3 < x.toInt then en_jp 1 95 lo st f else _) = _
          by_cases z : x.toInt < 1
          · rw [if_pos z]; rfl
          · rw [if_neg z, if_pos (by omega)]; rfl)
def cx_isDev (v a b : Int32) : Prop := (v = 1 ∧ (¬ a < 1 ∧ ¬ 8 < a) ∧ ¬ b < 0 ∧ ¬ 3 < b) ∨ (v = 2 ∧ (¬ a < 1 ∧ ¬ 8 < a) ∧ ¬ b < 1 ∧ ¬ 60 < b) ∨ (v = 3 ∧ a = 0 ∧ b = 0)
noncomputable def cx_isDevI (v a b : Int32) : Int32 := @ite _ (cx_isDev v a b) (Classical.propDecidable _) 1 0
set_option maxRecDepth 100000 in
set_option maxHeartbeats 800000 in
theorem cv_isDevice : en_Ev (d + 1) 53 [.inl v, .inl a, .inl b] f Q = Q (some (.inl (cx_isDevI v a b))) f := by
  simp only [e53, r53_0, r53_28, r53_29, r53_30, r53_33, r53_34, r53_36, r53_39, r53_40, r53_43, r53_44, r53_45, r53_48, r53_49, r53_52, r53_53, r53_54, r53_55, r53_56, r53_59, r53_60, r53_62, r53_65, r53_66, r53_67, r53_70, r53_71, r53_73, r53_76, r53_77, r53_80, r53_81, r53_82, r53_83, r53_86, r53_87, r53_90, r53_91, r53_94, r53_95, r53_96, r53_97, r53_1, true_and, and_true, Option.toList_some, Option.toList_none, List.cons_append, List.nil_append, List.length_nil, List.length_cons, Nat.reduceAdd, Nat.reduceLeDiff, Nat.zero_le, cb_0, cb_1, cb_01, cb_i, cb_j, eq_self, cb_le, cb_nn, ↓reduceIte, en_ua, Nat.reduceEqDiff, false_and, and_false, and_self, Int32.reduceLT, Int32.reduceAdd, Int32.reduceSub, Int32.reduceMul, Int32.reduceDiv, not_true_eq_false, not_false_eq_true, false_implies, true_implies, implies_true, cl_0, cl_1, cl_2, cl_3, cl_4, cl_5, cl_6, cl_7, cl_8, cl_9, cl_10, cl_11, cl_12, cl_13, cl_14, cl_15, cl_16, ci_6_0, ci_6_1, ci_6_2, ci_6_3, ci_6_4, ci_6_5, ci_8_0, ci_8_1, ci_8_2, ci_8_3, ci_8_4, ci_8_5, ci_8_6, ci_8_7, ci_16_0, ci_16_1, ci_16_2, ci_16_3, ci_16_4, ci_16_5, ci_16_6, ci_16_7, ci_16_8, ci_16_9, ci_16_10, ci_16_11, ci_16_12, ci_16_13, ci_16_14, ci_16_15, ci_4_0, ci_4_1, ci_4_2, ci_4_3, ci_40_0, ci_40_1, ci_40_2, ci_40_3, ci_40_4, ci_40_5, ci_40_6, ci_40_7, ci_40_8, ci_40_9, ci_40_10, ci_40_11, ci_40_12, ci_40_13, ci_40_14, ci_40_15, cq_m1_0, cq_m1_1, cq_m1_2, cq_m1_3, cq_m1_4, cq_m1_5, cq_m1_6, cq_m1_7, cq_m1_8, cq_0_m1, cq_0_1, cq_0_2, cq_0_3, cq_0_4, cq_0_5, cq_0_6, cq_0_7, cq_0_8, cq_1_m1, cq_1_0, cq_1_2, cq_1_3, cq_1_4, cq_1_5, cq_1_6, cq_1_7, cq_1_8, cq_2_m1, cq_2_0, cq_2_1, cq_2_3, cq_2_4, cq_2_5, cq_2_6, cq_2_7, cq_2_8, cq_3_m1, cq_3_0, cq_3_1, cq_3_2, cq_3_4, cq_3_5, cq_3_6, cq_3_7, cq_3_8, cq_4_m1, cq_4_0, cq_4_1, cq_4_2, cq_4_3, cq_4_5, cq_4_6, cq_4_7, cq_4_8, cq_5_m1, cq_5_0, cq_5_1, cq_5_2, cq_5_3, cq_5_4, cq_5_6, cq_5_7, cq_5_8, cq_6_m1, cq_6_0, cq_6_1, cq_6_2, cq_6_3, cq_6_4, cq_6_5, cq_6_7, cq_6_8, cq_7_m1, cq_7_0, cq_7_1, cq_7_2, cq_7_3, cq_7_4, cq_7_5, cq_7_6, cq_7_8, cq_8_m1, cq_8_0, cq_8_1, cq_8_2, cq_8_3, cq_8_4, cq_8_5, cq_8_6, cq_8_7]
  unfold cx_isDevI cx_isDev
  by_cases h1 : v = 1
  · subst h1
    by_cases g1 : a < 1 <;> by_cases g2 : 8 < a <;> by_cases g3 : b < 0 <;> by_cases g4 : 3 < b <;> simp [g1, g2, g3, g4]
  · by_cases h2 : v = 2
    · subst h2
      by_cases g1 : a < 1 <;> by_cases g2 : 8 < a <;> by_cases g3 : b < 1 <;> by_cases g4 : 60 < b <;> simp [g1, g2, g3, g4]
    · by_cases h3 : v = 3
      · subst h3
        by_cases g1 : a = 0 <;> by_cases g2 : b = 0 <;> simp [g1, g2]
      · simp [h1, h2, h3]
def cx_mark (f : en_F) (p : Nat) : en_F := if p < 2 ∨ ¬ f 4 (p / 2 - 1) 8 = 0 then en_up f 3 p 2 1 else f
set_option maxRecDepth 100000 in
set_option maxHeartbeats 800000 in
theorem cv_mark (hp : p < 6) : en_Ev (d + 2) 54 [.inr (0, 0), .inl (nI p)] f Q = Q none (cx_mark f.1 p, f.2) := by
  unfold cx_mark
  by_cases h2 : p < 2
  · simp only [e54, r54_0, r54_1, r54_2, r54_5, r54_6, r54_9, r54_10, r54_13, r54_14, r54_17, r54_20, r54_23, r54_24, r54_27, r54_28, r54_29, r54_30, r54_33, true_and, and_true, Option.toList_some, Option.toList_none, List.cons_append, List.nil_append, List.length_nil, List.length_cons, Nat.reduceAdd, Nat.reduceLeDiff, Nat.zero_le, cb_0, cb_1, cb_01, cb_i, cb_j, eq_self, cb_le, cb_nn, ↓reduceIte, en_ua, Nat.reduceEqDiff, false_and, and_false, and_self, Int32.reduceLT, Int32.reduceAdd, Int32.reduceSub, Int32.reduceMul, Int32.reduceDiv, not_true_eq_false, not_false_eq_true, false_implies, true_implies, implies_true, cl_0, cl_1, cl_2, cl_3, cl_4, cl_5, cl_6, cl_7, cl_8, cl_9, cl_10, cl_11, cl_12, cl_13, cl_14, cl_15, cl_16, ci_6_0, ci_6_1, ci_6_2, ci_6_3, ci_6_4, ci_6_5, ci_8_0, ci_8_1, ci_8_2, ci_8_3, ci_8_4, ci_8_5, ci_8_6, ci_8_7, ci_16_0, ci_16_1, ci_16_2, ci_16_3, ci_16_4, ci_16_5, ci_16_6, ci_16_7, ci_16_8, ci_16_9, ci_16_10, ci_16_11, ci_16_12, ci_16_13, ci_16_14, ci_16_15, ci_4_0, ci_4_1, ci_4_2, ci_4_3, ci_40_0, ci_40_1, ci_40_2, ci_40_3, ci_40_4, ci_40_5, ci_40_6, ci_40_7, ci_40_8, ci_40_9, ci_40_10, ci_40_11, ci_40_12, ci_40_13, ci_40_14, ci_40_15, cq_m1_0, cq_m1_1, cq_m1_2, cq_m1_3, cq_m1_4, cq_m1_5, cq_m1_6, cq_m1_7, cq_m1_8, cq_0_m1, cq_0_1, cq_0_2, cq_0_3, cq_0_4, cq_0_5, cq_0_6, cq_0_7, cq_0_8, cq_1_m1, cq_1_0, cq_1_2, cq_1_3, cq_1_4, cq_1_5, cq_1_6, cq_1_7, cq_1_8, cq_2_m1, cq_2_0, cq_2_1, cq_2_3, cq_2_4, cq_2_5, cq_2_6, cq_2_7, cq_2_8, cq_3_m1, cq_3_0, cq_3_1, cq_3_2, cq_3_4, cq_3_5, cq_3_6, cq_3_7, cq_3_8, cq_4_m1, cq_4_0, cq_4_1, cq_4_2, cq_4_3, cq_4_5, cq_4_6, cq_4_7, cq_4_8, cq_5_m1, cq_5_0, cq_5_1, cq_5_2, cq_5_3, cq_5_4, cq_5_6, cq_5_7, cq_5_8, cq_6_m1, cq_6_0, cq_6_1, cq_6_2, cq_6_3, cq_6_4, cq_6_5, cq_6_7, cq_6_8, cq_7_m1, cq_7_0, cq_7_1, cq_7_2, cq_7_3, cq_7_4, cq_7_5, cq_7_6, cq_7_8, cq_8_m1, cq_8_0, cq_8_1, cq_8_2, cq_8_3, cq_8_4, cq_8_5, cq_8_6, cq_8_7, ↓cv_hubPortOf, cs_lt2 hp, h2, cb_in6 hp, cb_c6 hp, hp]
    simp
  · have hq : p / 2 - 1 < 6 := by omega
    simp only [e54, r54_0, r54_1, r54_2, r54_5, r54_6, r54_9, r54_10, r54_13, r54_14, r54_17, r54_20, r54_23, r54_24, r54_27, r54_28, r54_29, r54_30, r54_33, true_and, and_true, Option.toList_some, Option.toList_none, List.cons_append, List.nil_append, List.length_nil, List.length_cons, Nat.reduceAdd, Nat.reduceLeDiff, Nat.zero_le, cb_0, cb_1, cb_01, cb_i, cb_j, eq_self, cb_le, cb_nn, ↓reduceIte, en_ua, Nat.reduceEqDiff, false_and, and_false, and_self, Int32.reduceLT, Int32.reduceAdd, Int32.reduceSub, Int32.reduceMul, Int32.reduceDiv, not_true_eq_false, not_false_eq_true, false_implies, true_implies, implies_true, cl_0, cl_1, cl_2, cl_3, cl_4, cl_5, cl_6, cl_7, cl_8, cl_9, cl_10, cl_11, cl_12, cl_13, cl_14, cl_15, cl_16, ci_6_0, ci_6_1, ci_6_2, ci_6_3, ci_6_4, ci_6_5, ci_8_0, ci_8_1, ci_8_2, ci_8_3, ci_8_4, ci_8_5, ci_8_6, ci_8_7, ci_16_0, ci_16_1, ci_16_2, ci_16_3, ci_16_4, ci_16_5, ci_16_6, ci_16_7, ci_16_8, ci_16_9, ci_16_10, ci_16_11, ci_16_12, ci_16_13, ci_16_14, ci_16_15, ci_4_0, ci_4_1, ci_4_2, ci_4_3, ci_40_0, ci_40_1, ci_40_2, ci_40_3, ci_40_4, ci_40_5, ci_40_6, ci_40_7, ci_40_8, ci_40_9, ci_40_10, ci_40_11, ci_40_12, ci_40_13, ci_40_14, ci_40_15, cq_m1_0, cq_m1_1, cq_m1_2, cq_m1_3, cq_m1_4, cq_m1_5, cq_m1_6, cq_m1_7, cq_m1_8, cq_0_m1, cq_0_1, cq_0_2, cq_0_3, cq_0_4, cq_0_5, cq_0_6, cq_0_7, cq_0_8, cq_1_m1, cq_1_0, cq_1_2, cq_1_3, cq_1_4, cq_1_5, cq_1_6, cq_1_7, cq_1_8, cq_2_m1, cq_2_0, cq_2_1, cq_2_3, cq_2_4, cq_2_5, cq_2_6, cq_2_7, cq_2_8, cq_3_m1, cq_3_0, cq_3_1, cq_3_2, cq_3_4, cq_3_5, cq_3_6, cq_3_7, cq_3_8, cq_4_m1, cq_4_0, cq_4_1, cq_4_2, cq_4_3, cq_4_5, cq_4_6, cq_4_7, cq_4_8, cq_5_m1, cq_5_0, cq_5_1, cq_5_2, cq_5_3, cq_5_4, cq_5_6, cq_5_7, cq_5_8, cq_6_m1, cq_6_0, cq_6_1, cq_6_2, cq_6_3, cq_6_4, cq_6_5, cq_6_7, cq_6_8, cq_7_m1, cq_7_0, cq_7_1, cq_7_2, cq_7_3, cq_7_4, cq_7_5, cq_7_6, cq_7_8, cq_8_m1, cq_8_0, cq_8_1, cq_8_2, cq_8_3, cq_8_4, cq_8_5, cq_8_6, cq_8_7, ↓cv_hubPortOf, cs_lt2 hp, h2, cs_hub h2 hp, cb_in6 hq, cb_c6 hq, hq, cb_in6 hp, cb_c6 hp, hp]
    by_cases h3 : f.1 4 (p / 2 - 1) 8 = 0 <;> simp [h3]
def cx_tell (f : en_F) (p : Nat) : Int32 × en_F := if f 3 p 2 = 0 then (0, f) else (if f 4 p 3 = 0 then 1 else 3, en_up f 3 p 2 0)
set_option maxRecDepth 100000 in
set_option maxHeartbeats 800000 in
theorem cv_tell (hp : p < 6) : en_Ev (d + 2) 56 [.inr (0, 0), .inl (nI p)] f Q = Q (some (.inl (cx_tell f.1 p).1)) ((cx_tell f.1 p).2, f.2) := by
  unfold cx_tell
  simp only [e56, r56_0, r56_1, r56_4, r56_5, r56_6, r56_7, r56_8, r56_11, r56_14, r56_15, r56_16, r56_17, r56_18, r56_21, r56_22, r56_25, r56_28, r56_29, r56_32, r56_33, true_and, and_true, Option.toList_some, Option.toList_none, List.cons_append, List.nil_append, List.length_nil, List.length_cons, Nat.reduceAdd, Nat.reduceLeDiff, Nat.zero_le, cb_0, cb_1, cb_01, cb_i, cb_j, eq_self, cb_le, cb_nn, ↓reduceIte, en_ua, Nat.reduceEqDiff, false_and, and_false, and_self, Int32.reduceLT, Int32.reduceAdd, Int32.reduceSub, Int32.reduceMul, Int32.reduceDiv, not_true_eq_false, not_false_eq_true, false_implies, true_implies, implies_true, cl_0, cl_1, cl_2, cl_3, cl_4, cl_5, cl_6, cl_7, cl_8, cl_9, cl_10, cl_11, cl_12, cl_13, cl_14, cl_15, cl_16, ci_6_0, ci_6_1, ci_6_2, ci_6_3, ci_6_4, ci_6_5, ci_8_0, ci_8_1, ci_8_2, ci_8_3, ci_8_4, ci_8_5, ci_8_6, ci_8_7, ci_16_0, ci_16_1, ci_16_2, ci_16_3, ci_16_4, ci_16_5, ci_16_6, ci_16_7, ci_16_8, ci_16_9, ci_16_10, ci_16_11, ci_16_12, ci_16_13, ci_16_14, ci_16_15, ci_4_0, ci_4_1, ci_4_2, ci_4_3, ci_40_0, ci_40_1, ci_40_2, ci_40_3, ci_40_4, ci_40_5, ci_40_6, ci_40_7, ci_40_8, ci_40_9, ci_40_10, ci_40_11, ci_40_12, ci_40_13, ci_40_14, ci_40_15, cq_m1_0, cq_m1_1, cq_m1_2, cq_m1_3, cq_m1_4, cq_m1_5, cq_m1_6, cq_m1_7, cq_m1_8, cq_0_m1, cq_0_1, cq_0_2, cq_0_3, cq_0_4, cq_0_5, cq_0_6, cq_0_7, cq_0_8, cq_1_m1, cq_1_0, cq_1_2, cq_1_3, cq_1_4, cq_1_5, cq_1_6, cq_1_7, cq_1_8, cq_2_m1, cq_2_0, cq_2_1, cq_2_3, cq_2_4, cq_2_5, cq_2_6, cq_2_7, cq_2_8, cq_3_m1, cq_3_0, cq_3_1, cq_3_2, cq_3_4, cq_3_5, cq_3_6, cq_3_7, cq_3_8, cq_4_m1, cq_4_0, cq_4_1, cq_4_2, cq_4_3, cq_4_5, cq_4_6, cq_4_7, cq_4_8, cq_5_m1, cq_5_0, cq_5_1, cq_5_2, cq_5_3, cq_5_4, cq_5_6, cq_5_7, cq_5_8, cq_6_m1, cq_6_0, cq_6_1, cq_6_2, cq_6_3, cq_6_4, cq_6_5, cq_6_7, cq_6_8, cq_7_m1, cq_7_0, cq_7_1, cq_7_2, cq_7_3, cq_7_4, cq_7_5, cq_7_6, cq_7_8, cq_8_m1, cq_8_0, cq_8_1, cq_8_2, cq_8_3, cq_8_4, cq_8_5, cq_8_6, cq_8_7, ↓cv_isFull hp, cb_in6 hp, cb_c6 hp, hp, cb_e1]
  by_cases h3 : f.1 3 p 2 = 0
  · simp [h3]
  · by_cases h4 : f.1 4 p 3 = 0 <;> simp [h3, h4]
/-- the orders below n of port p that aren't over are over: GONE -/
def cx_relO (g : en_F) (p n : Nat) : en_F := fun k i j => if (k = 8 ∧ j = 7) ∧ i < n ∧ g 8 i 2 = nI p ∧ g 8 i 7 = 0 then 3 else g k i j
theorem cx_relO_r {g : en_F} {p n k i j : Nat} (h : ¬ (k = 8 ∧ j = 7)) : cx_relO g p n k i j = g k i j := if_neg (fun q => h q.1)
theorem cx_relO_0 {g : en_F} {p : Nat} : cx_relO g p 0 = g := by
  funext k i j
  exact if_neg (fun q => Nat.not_lt_zero _ q.2.1)
theorem cx_relO_s {g : en_F} {p n : Nat} : (if g 8 n 2 = nI p then cx_end (cx_relO g p n) n 3 else cx_relO g p n) = cx_relO g p (n + 1) := by
  have e7 : cx_relO g p n 8 n 7 = g 8 n 7 := if_neg (fun q => Nat.lt_irrefl _ q.2.1)
  funext k i j
  by_cases hk : k = 8 ∧ j = 7
  · obtain ⟨rfl, rfl⟩ := hk
    by_cases hi : i = n
    · subst hi
      by_cases h1 : g 8 i 2 = nI p <;> by_cases h2 : g 8 i 7 = 0 <;> simp [cx_relO, cx_end, h1, h2, en_up]
    · have hlt : (i < n + 1) = (i < n) := by simp; omega
      by_cases h1 : g 8 n 2 = nI p <;> by_cases h2 : g 8 n 7 = 0 <;> simp [cx_relO, cx_end, h1, h2, en_up, hi, hlt]
  · rw [cx_relO_r hk]
    have hup : ∀ h : en_F, en_up h 8 n 7 3 k i j = h k i j := fun h => by
      unfold en_up
      rw [if_neg (fun q => hk ⟨q.1, q.2.2⟩)]
    by_cases h1 : g 8 n 2 = nI p
    · rw [if_pos h1]
      unfold cx_end
      rw [e7]
      by_cases h2 : g 8 n 7 = 0
      · rw [if_pos h2, hup, cx_relO_r hk]
      · rw [if_neg h2, cx_relO_r hk]
    · rw [if_neg h1, cx_relO_r hk]
set_option maxRecDepth 100000 in
set_option maxHeartbeats 800000 in
theorem cv_relL {g f2 : en_F} (hp : p < 6) (hn : n ≤ 16) (hc : g 0 0 4 = nI n) : ∀ m i, i + m = n → en_R en_s0 59 (d + 1) Q 12 [some (.inr (0, 0)), some (.inl (nI p)), some (.inl (nI i))] [] (cx_relO g p i, f2) = Q none (cx_relO g p n, f2) := by
  intro m
  induction m with
  | zero =>
    intro i hi
    have e : i = n := by omega
    subst e
    simp only [r59_0, r59_1, r59_4, r59_5, r59_6, r59_7, r59_10, r59_11, r59_12, r59_13, r59_14, r59_17, r59_20, r59_21, r59_24, r59_25, r59_26, r59_29, r59_30, r59_33, r59_34, r59_37, r59_38, r59_39, r59_40, r59_43, r59_46, r59_49, true_and, and_true, Option.toList_some, Option.toList_none, List.cons_append, List.nil_append, List.length_nil, List.length_cons, Nat.reduceAdd, Nat.reduceLeDiff, Nat.zero_le, cb_0, cb_1, cb_01, cb_i, cb_j, eq_self, cb_le, cb_nn, ↓reduceIte, en_ua, Nat.reduceEqDiff, false_and, and_false, and_self, cx_relO_r (g := g) (p := p) (n := i) (show ¬ (0 = 8 ∧ 4 = 7) by omega), hc, cb_lt (show i < 2 ^ 31 by omega) (show i < 2 ^ 31 by omega), Nat.lt_irrefl, not_false_eq_true]
  | succ m ih =>
    intro i hi
    have hin : i < n := by omega
    have hi16 : i < 16 := by omega
    rw [r59_12]
    simp only [r59_0, r59_1, r59_4, r59_5, r59_6, r59_7, r59_10, r59_11, r59_13, r59_14, r59_17, r59_20, r59_21, r59_24, r59_25, r59_26, r59_29, r59_30, r59_33, r59_34, r59_37, r59_38, r59_39, r59_40, r59_43, r59_46, r59_49, true_and, and_true, Option.toList_some, Option.toList_none, List.cons_append, List.nil_append, List.length_nil, List.length_cons, Nat.reduceAdd, Nat.reduceLeDiff, Nat.zero_le, cb_0, cb_1, cb_01, cb_i, cb_j, eq_self, cb_le, cb_nn, ↓reduceIte, en_ua, Nat.reduceEqDiff, false_and, and_false, and_self, cx_relO_r (g := g) (p := p) (n := i) (show ¬ (0 = 8 ∧ 4 = 7) by omega), hc, cb_lt (show i < 2 ^ 31 by omega) (show n < 2 ^ 31 by omega), hin, not_true_eq_false, cb_in16 hi16, cb_c16 hi16, hi16, cx_relO_r (g := g) (p := p) (n := i) (show ¬ (8 = 8 ∧ 2 = 7) by omega), ↓cv_end hi16, nI_1]
    have e1 := ih (i + 1) (by omega)
    rw [← cx_relO_s] at e1
    by_cases h1 : g 8 i 2 = nI p
    · rw [if_pos h1] at e1 ⊢; exact e1
    · rw [if_neg h1] at e1 ⊢; exact e1
def cx_rel (f : en_F) (p n : Nat) : en_F := cx_relO (cx_leave f p 0) p n
set_option maxRecDepth 100000 in
set_option maxHeartbeats 800000 in
theorem cv_rel (hp : p < 6) (hn : n ≤ 16) (hc : f.1 0 0 4 = nI n) : en_Ev (d + 2) 59 [.inr (0, 0), .inl (nI p)] f Q = Q none (cx_rel f.1 p n, f.2) := by
  simp only [e59, r59_0, r59_1, r59_4, r59_5, r59_6, r59_7, r59_10, r59_11, r59_13, r59_14, r59_17, r59_20, r59_21, r59_24, r59_25, r59_26, r59_29, r59_30, r59_33, r59_34, r59_37, r59_38, r59_39, r59_40, r59_43, r59_46, r59_49, true_and, and_true, Option.toList_some, Option.toList_none, List.cons_append, List.nil_append, List.length_nil, List.length_cons, Nat.reduceAdd, Nat.reduceLeDiff, Nat.zero_le, cb_0, cb_1, cb_01, cb_i, cb_j, eq_self, cb_le, cb_nn, ↓reduceIte, en_ua, Nat.reduceEqDiff, false_and, and_false, and_self, cb_in6 hp, cb_c6 hp, hp, ↓cv_leave hp]
  have := cv_relL (d := d) (Q := Q) (g := cx_leave f.1 p 0) (f2 := f.2) hp hn (show cx_leave f.1 p 0 0 0 4 = nI n by rw [← hc]; rfl) n 0 (by omega)
  rw [cx_relO_0] at this
  exact this
end Cx4
