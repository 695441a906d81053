/-! THE CLASS AS PURE FUNCTIONS, 5: detaching, hearing, who is meant -/
section Cx5
variable {d p k n m q i : Nat} {f : en_T} {Q : en_Q} {v w a b x : Int32}
theorem cs_l6 (h : i ≤ 6) : (nI i < 6) = (i < 6) := cb_lt (b := 6) (by omega) (by omega)
theorem cs_l2 (h : i ≤ 2) : (nI i < 2) = (i < 2) := cb_lt (b := 2) (by omega) (by omega)
theorem cx_rel_k {f : en_F} {p n k i j : Nat} (h : k ≠ 8) (h2 : k ≠ 3) : cx_rel f p n k i j = f k i j := by
  unfold cx_rel
  rw [cx_relO_r (fun q => h q.1)]
  simp [cx_leave, en_up, h2]
def cx_det (f : en_F) (p n : Nat) : en_F := if (f 3 p 3 = 3 ∧ f 3 p 9 = 3) ∧ p < 2 then cx_rel (cx_rel (cx_rel f p n) (2 * p + 2) n) (2 * p + 3) n else cx_rel f p n
theorem cx_det_k {f : en_F} {p n k i j : Nat} (h : k ≠ 8) (h2 : k ≠ 3) : cx_det f p n k i j = f k i j := by
  unfold cx_det
  split
  · rw [cx_rel_k h h2, cx_rel_k h h2, cx_rel_k h h2]
  · rw [cx_rel_k h h2]
set_option maxRecDepth 100000 in
set_option maxHeartbeats 800000 in
theorem cv_det (hp : p < 6) (hn : n ≤ 16) (hc : f.1 0 0 4 = nI n) : en_Ev (d + 3) 58 [.inr (0, 0), .inl (nI p)] f Q = Q none (cx_det f.1 p n, f.2) := by
  have hc1 : (cx_rel f.1 p n) 0 0 4 = nI n := by rw [cx_rel_k (by omega) (by omega)]; exact hc
  have hc2 : (cx_rel (cx_rel f.1 p n) (2 * p + 2) n) 0 0 4 = nI n := by rw [cx_rel_k (by omega) (by omega)]; exact hc1
  by_cases h2 : p < 2
  · have hq : 2 * p + 2 < 6 := by omega
    have hq1 : 2 * p + 2 + 1 < 6 := by omega
    simp only [e58, r58_0, r58_1, r58_4, r58_5, r58_6, r58_7, r58_10, r58_11, r58_12, r58_13, r58_16, r58_17, r58_20, r58_21, r58_22, r58_25, r58_26, r58_27, r58_30, r58_33, r58_34, r58_35, r58_38, r58_39, r58_40, r58_43, true_and, and_true, Option.toList_some, Option.toList_none, List.cons_append, List.nil_append, List.length_nil, List.length_cons, Nat.reduceAdd, Nat.reduceLeDiff, Nat.zero_le, cb_0, cb_1, cb_01, cb_i, cb_j, eq_self, cb_le, cb_nn, ↓reduceIte, en_ua, Nat.reduceEqDiff, false_and, and_false, and_self, Int32.reduceLT, Int32.reduceAdd, Int32.reduceSub, Int32.reduceMul, Int32.reduceDiv, not_true_eq_false, not_false_eq_true, false_implies, true_implies, implies_true, cl_0, cl_1, cl_2, cl_3, cl_4, cl_5, cl_6, cl_7, cl_8, cl_9, cl_10, cl_11, cl_12, cl_13, cl_14, cl_15, cl_16, ci_6_0, ci_6_1, ci_6_2, ci_6_3, ci_6_4, ci_6_5, ci_8_0, ci_8_1, ci_8_2, ci_8_3, ci_8_4, ci_8_5, ci_8_6, ci_8_7, ci_16_0, ci_16_1, ci_16_2, ci_16_3, ci_16_4, ci_16_5, ci_16_6, ci_16_7, ci_16_8, ci_16_9, ci_16_10, ci_16_11, ci_16_12, ci_16_13, ci_16_14, ci_16_15, ci_4_0, ci_4_1, ci_4_2, ci_4_3, ci_40_0, ci_40_1, ci_40_2, ci_40_3, ci_40_4, ci_40_5, ci_40_6, ci_40_7, ci_40_8, ci_40_9, ci_40_10, ci_40_11, ci_40_12, ci_40_13, ci_40_14, ci_40_15, cq_m1_0, cq_m1_1, cq_m1_2, cq_m1_3, cq_m1_4, cq_m1_5, cq_m1_6, cq_m1_7, cq_m1_8, cq_0_m1, cq_0_1, cq_0_2, cq_0_3, cq_0_4, cq_0_5, cq_0_6, cq_0_7, cq_0_8, cq_1_m1, cq_1_0, cq_1_2, cq_1_3, cq_1_4, cq_1_5, cq_1_6, cq_1_7, cq_1_8, cq_2_m1, cq_2_0, cq_2_1, cq_2_3, cq_2_4, cq_2_5, cq_2_6, cq_2_7, cq_2_8, cq_3_m1, cq_3_0, cq_3_1, cq_3_2, cq_3_4, cq_3_5, cq_3_6, cq_3_7, cq_3_8, cq_4_m1, cq_4_0, cq_4_1, cq_4_2, cq_4_3, cq_4_5, cq_4_6, cq_4_7, cq_4_8, cq_5_m1, cq_5_0, cq_5_1, cq_5_2, cq_5_3, cq_5_4, cq_5_6, cq_5_7, cq_5_8, cq_6_m1, cq_6_0, cq_6_1, cq_6_2, cq_6_3, cq_6_4, cq_6_5, cq_6_7, cq_6_8, cq_7_m1, cq_7_0, cq_7_1, cq_7_2, cq_7_3, cq_7_4, cq_7_5, cq_7_6, cq_7_8, cq_8_m1, cq_8_0, cq_8_1, cq_8_2, cq_8_3, cq_8_4, cq_8_5, cq_8_6, cq_8_7, cb_in6 hp, cb_c6 hp, hp, ↓cv_isReadyAs hp, ↓cv_rel (f := f) hp hn hc, ↓cv_firstBehind, ↓cv_rel (p := 2 * p + 2) (f := (cx_rel f.1 p n, f.2)) hq hn hc1, ↓cv_rel (p := 2 * p + 2 + 1) (f := (cx_rel (cx_rel f.1 p n) (2 * p + 2) n, f.2)) hq1 hn hc2, cs_lt2 hp, h2, cs_fb, nI_1, cb_e0]
    unfold cx_det
    by_cases h3 : f.1 3 p 3 = 3 ∧ f.1 3 p 9 = 3
    · simp [h3, h2]
    · simp [h3]
  · simp only [e58, r58_0, r58_1, r58_4, r58_5, r58_6, r58_7, r58_10, r58_11, r58_12, r58_13, r58_16, r58_17, r58_20, r58_21, r58_22, r58_25, r58_26, r58_27, r58_30, r58_33, r58_34, r58_35, r58_38, r58_39, r58_40, r58_43, true_and, and_true, Option.toList_some, Option.toList_none, List.cons_append, List.nil_append, List.length_nil, List.length_cons, Nat.reduceAdd, Nat.reduceLeDiff, Nat.zero_le, cb_0, cb_1, cb_01, cb_i, cb_j, eq_self, cb_le, cb_nn, ↓reduceIte, en_ua, Nat.reduceEqDiff, false_and, and_false, and_self, Int32.reduceLT, Int32.reduceAdd, Int32.reduceSub, Int32.reduceMul, Int32.reduceDiv, not_true_eq_false, not_false_eq_true, false_implies, true_implies, implies_true, cl_0, cl_1, cl_2, cl_3, cl_4, cl_5, cl_6, cl_7, cl_8, cl_9, cl_10, cl_11, cl_12, cl_13, cl_14, cl_15, cl_16, ci_6_0, ci_6_1, ci_6_2, ci_6_3, ci_6_4, ci_6_5, ci_8_0, ci_8_1, ci_8_2, ci_8_3, ci_8_4, ci_8_5, ci_8_6, ci_8_7, ci_16_0, ci_16_1, ci_16_2, ci_16_3, ci_16_4, ci_16_5, ci_16_6, ci_16_7, ci_16_8, ci_16_9, ci_16_10, ci_16_11, ci_16_12, ci_16_13, ci_16_14, ci_16_15, ci_4_0, ci_4_1, ci_4_2, ci_4_3, ci_40_0, ci_40_1, ci_40_2, ci_40_3, ci_40_4, ci_40_5, ci_40_6, ci_40_7, ci_40_8, ci_40_9, ci_40_10, ci_40_11, ci_40_12, ci_40_13, ci_40_14, ci_40_15, cq_m1_0, cq_m1_1, cq_m1_2, cq_m1_3, cq_m1_4, cq_m1_5, cq_m1_6, cq_m1_7, cq_m1_8, cq_0_m1, cq_0_1, cq_0_2, cq_0_3, cq_0_4, cq_0_5, cq_0_6, cq_0_7, cq_0_8, cq_1_m1, cq_1_0, cq_1_2, cq_1_3, cq_1_4, cq_1_5, cq_1_6, cq_1_7, cq_1_8, cq_2_m1, cq_2_0, cq_2_1, cq_2_3, cq_2_4, cq_2_5, cq_2_6, cq_2_7, cq_2_8, cq_3_m1, cq_3_0, cq_3_1, cq_3_2, cq_3_4, cq_3_5, cq_3_6, cq_3_7, cq_3_8, cq_4_m1, cq_4_0, cq_4_1, cq_4_2, cq_4_3, cq_4_5, cq_4_6, cq_4_7, cq_4_8, cq_5_m1, cq_5_0, cq_5_1, cq_5_2, cq_5_3, cq_5_4, cq_5_6, cq_5_7, cq_5_8, cq_6_m1, cq_6_0, cq_6_1, cq_6_2, cq_6_3, cq_6_4, cq_6_5, cq_6_7, cq_6_8, cq_7_m1, cq_7_0, cq_7_1, cq_7_2, cq_7_3, cq_7_4, cq_7_5, cq_7_6, cq_7_8, cq_8_m1, cq_8_0, cq_8_1, cq_8_2, cq_8_3, cq_8_4, cq_8_5, cq_8_6, cq_8_7, cb_in6 hp, cb_c6 hp, hp, ↓cv_isReadyAs hp, ↓cv_rel (f := f) hp hn hc, cs_lt2 hp, h2, cb_e0]
    unfold cx_det
    simp [h2]
def cx_hear (f : en_F) (p : Nat) (v : Int32) (n : Nat) : en_F := if v &&& 1 = 0 then f else if v &&& 2 = 0 then cx_det f p n else en_up (cx_det f p n) 3 p 3 1
theorem cx_hear_k {f : en_F} {p n k i j : Nat} {v : Int32} (h : k ≠ 8) (h2 : k ≠ 3) : cx_hear f p v n k i j = f k i j := by
  unfold cx_hear
  split
  · rfl
  · split
    · rw [cx_det_k h h2]
    · unfold en_up; rw [if_neg (fun q => h2 q.1), cx_det_k h h2]
set_option maxRecDepth 100000 in
set_option maxHeartbeats 800000 in
theorem cv_hear (hp : p < 6) (hn : n ≤ 16) (hc : f.1 0 0 4 = nI n) : en_Ev (d + 4) 57 [.inr (0, 0), .inl (nI p), .inl v] f Q = Q none (cx_hear f.1 p v n, f.2) := by
  simp only [e57, r57_0, r57_1, r57_2, r57_3, r57_6, r57_7, r57_8, r57_9, r57_12, r57_13, r57_14, r57_15, r57_18, r57_19, r57_22, r57_23, r57_24, r57_25, r57_28, true_and, and_true, Option.toList_some, Option.toList_none, List.cons_append, List.nil_append, List.length_nil, List.length_cons, Nat.reduceAdd, Nat.reduceLeDiff, Nat.zero_le, cb_0, cb_1, cb_01, cb_i, cb_j, eq_self, cb_le, cb_nn, ↓reduceIte, en_ua, Nat.reduceEqDiff, false_and, and_false, and_self, Int32.reduceLT, Int32.reduceAdd, Int32.reduceSub, Int32.reduceMul, Int32.reduceDiv, not_true_eq_false, not_false_eq_true, false_implies, true_implies, implies_true, cl_0, cl_1, cl_2, cl_3, cl_4, cl_5, cl_6, cl_7, cl_8, cl_9, cl_10, cl_11, cl_12, cl_13, cl_14, cl_15, cl_16, ci_6_0, ci_6_1, ci_6_2, ci_6_3, ci_6_4, ci_6_5, ci_8_0, ci_8_1, ci_8_2, ci_8_3, ci_8_4, ci_8_5, ci_8_6, ci_8_7, ci_16_0, ci_16_1, ci_16_2, ci_16_3, ci_16_4, ci_16_5, ci_16_6, ci_16_7, ci_16_8, ci_16_9, ci_16_10, ci_16_11, ci_16_12, ci_16_13, ci_16_14, ci_16_15, ci_4_0, ci_4_1, ci_4_2, ci_4_3, ci_40_0, ci_40_1, ci_40_2, ci_40_3, ci_40_4, ci_40_5, ci_40_6, ci_40_7, ci_40_8, ci_40_9, ci_40_10, ci_40_11, ci_40_12, ci_40_13, ci_40_14, ci_40_15, cq_m1_0, cq_m1_1, cq_m1_2, cq_m1_3, cq_m1_4, cq_m1_5, cq_m1_6, cq_m1_7, cq_m1_8, cq_0_m1, cq_0_1, cq_0_2, cq_0_3, cq_0_4, cq_0_5, cq_0_6, cq_0_7, cq_0_8, cq_1_m1, cq_1_0, cq_1_2, cq_1_3, cq_1_4, cq_1_5, cq_1_6, cq_1_7, cq_1_8, cq_2_m1, cq_2_0, cq_2_1, cq_2_3, cq_2_4, cq_2_5, cq_2_6, cq_2_7, cq_2_8, cq_3_m1, cq_3_0, cq_3_1, cq_3_2, cq_3_4, cq_3_5, cq_3_6, cq_3_7, cq_3_8, cq_4_m1, cq_4_0, cq_4_1, cq_4_2, cq_4_3, cq_4_5, cq_4_6, cq_4_7, cq_4_8, cq_5_m1, cq_5_0, cq_5_1, cq_5_2, cq_5_3, cq_5_4, cq_5_6, cq_5_7, cq_5_8, cq_6_m1, cq_6_0, cq_6_1, cq_6_2, cq_6_3, cq_6_4, cq_6_5, cq_6_7, cq_6_8, cq_7_m1, cq_7_0, cq_7_1, cq_7_2, cq_7_3, cq_7_4, cq_7_5, cq_7_6, cq_7_8, cq_8_m1, cq_8_0, cq_8_1, cq_8_2, cq_8_3, cq_8_4, cq_8_5, cq_8_6, cq_8_7, cb_in6 hp, cb_c6 hp, hp, ↓cv_det (f := f) hp hn hc]
  unfold cx_hear
  by_cases h1 : v &&& 1 = 0
  · simp [h1]
  · by_cases h2 : v &&& 2 = 0 <;> simp [h1, h2]
def cx_detF (f : en_F) (p n : Nat) : en_F := en_up (cx_det f p n) 3 p 3 4
set_option maxRecDepth 100000 in
set_option maxHeartbeats 800000 in
theorem cv_detF (hp : p < 6) (hn : n ≤ 16) (hc : f.1 0 0 4 = nI n) : en_Ev (d + 4) 60 [.inr (0, 0), .inl (nI p)] f Q = Q none (cx_detF f.1 p n, f.2) := by
  simp only [e60, r60_0, r60_1, r60_2, r60_5, r60_6, r60_9, r60_10, r60_11, r60_12, r60_15, true_and, and_true, Option.toList_some, Option.toList_none, List.cons_append, List.nil_append, List.length_nil, List.length_cons, Nat.reduceAdd, Nat.reduceLeDiff, Nat.zero_le, cb_0, cb_1, cb_01, cb_i, cb_j, eq_self, cb_le, cb_nn, ↓reduceIte, en_ua, Nat.reduceEqDiff, false_and, and_false, and_self, Int32.reduceLT, Int32.reduceAdd, Int32.reduceSub, Int32.reduceMul, Int32.reduceDiv, not_true_eq_false, not_false_eq_true, false_implies, true_implies, implies_true, cl_0, cl_1, cl_2, cl_3, cl_4, cl_5, cl_6, cl_7, cl_8, cl_9, cl_10, cl_11, cl_12, cl_13, cl_14, cl_15, cl_16, ci_6_0, ci_6_1, ci_6_2, ci_6_3, ci_6_4, ci_6_5, ci_8_0, ci_8_1, ci_8_2, ci_8_3, ci_8_4, ci_8_5, ci_8_6, ci_8_7, ci_16_0, ci_16_1, ci_16_2, ci_16_3, ci_16_4, ci_16_5, ci_16_6, ci_16_7, ci_16_8, ci_16_9, ci_16_10, ci_16_11, ci_16_12, ci_16_13, ci_16_14, ci_16_15, ci_4_0, ci_4_1, ci_4_2, ci_4_3, ci_40_0, ci_40_1, ci_40_2, ci_40_3, ci_40_4, ci_40_5, ci_40_6, ci_40_7, ci_40_8, ci_40_9, ci_40_10, ci_40_11, ci_40_12, ci_40_13, ci_40_14, ci_40_15, cq_m1_0, cq_m1_1, cq_m1_2, cq_m1_3, cq_m1_4, cq_m1_5, cq_m1_6, cq_m1_7, cq_m1_8, cq_0_m1, cq_0_1, cq_0_2, cq_0_3, cq_0_4, cq_0_5, cq_0_6, cq_0_7, cq_0_8, cq_1_m1, cq_1_0, cq_1_2, cq_1_3, cq_1_4, cq_1_5, cq_1_6, cq_1_7, cq_1_8, cq_2_m1, cq_2_0, cq_2_1, cq_2_3, cq_2_4, cq_2_5, cq_2_6, cq_2_7, cq_2_8, cq_3_m1, cq_3_0, cq_3_1, cq_3_2, cq_3_4, cq_3_5, cq_3_6, cq_3_7, cq_3_8, cq_4_m1, cq_4_0, cq_4_1, cq_4_2, cq_4_3, cq_4_5, cq_4_6, cq_4_7, cq_4_8, cq_5_m1, cq_5_0, cq_5_1, cq_5_2, cq_5_3, cq_5_4, cq_5_6, cq_5_7, cq_5_8, cq_6_m1, cq_6_0, cq_6_1, cq_6_2, cq_6_3, cq_6_4, cq_6_5, cq_6_7, cq_6_8, cq_7_m1, cq_7_0, cq_7_1, cq_7_2, cq_7_3, cq_7_4, cq_7_5, cq_7_6, cq_7_8, cq_8_m1, cq_8_0, cq_8_1, cq_8_2, cq_8_3, cq_8_4, cq_8_5, cq_8_6, cq_8_7, cb_in6 hp, cb_c6 hp, hp, ↓cv_det (f := f) hp hn hc]
  rfl
theorem cx_tell_k {f : en_F} {p k i j : Nat} (h2 : k ≠ 3) : (cx_tell f p).2 k i j = f k i j := by
  unfold cx_tell
  split
  · rfl
  · show en_up f 3 p 2 0 k i j = _
    unfold en_up; rw [if_neg (fun q => h2 q.1)]
def cx_own1 (f : en_F) (p n : Nat) : en_F := cx_hear (cx_tell f p).2 p (cx_tell f p).1 n
theorem cx_own1_k {f : en_F} {p n k i j : Nat} (h : k ≠ 8) (h2 : k ≠ 3) : cx_own1 f p n k i j = f k i j := by
  unfold cx_own1
  rw [cx_hear_k h h2, cx_tell_k h2]
def cx_own (f : en_F) (n : Nat) : en_F := cx_own1 (cx_own1 f 0 n) 1 n
set_option maxRecDepth 100000 in
set_option maxHeartbeats 800000 in
theorem cv_own (hn : n ≤ 16) (hc : f.1 0 0 4 = nI n) : en_Ev (d + 5) 55 [.inr (0, 0)] f Q = Q none (cx_own f.1 n, f.2) := by
  have step : ∀ (p : Nat) (f : en_T), p < 2 → f.1 0 0 4 = nI n → en_R en_s0 55 (d + 4) Q 2 [some (.inr (0, 0)), some (.inl (nI p))] [] f = en_R en_s0 55 (d + 4) Q 2 [some (.inr (0, 0)), some (.inl (nI (p + 1)))] [] (cx_own1 f.1 p n, f.2) := by
    intro p f h2 hc
    have hp : p < 6 := by omega
    have hc1 : (cx_tell f.1 p).2 0 0 4 = nI n := by rw [cx_tell_k (by omega)]; exact hc
    rw [r55_2]
    simp only [r55_0, r55_1, r55_3, r55_4, r55_7, r55_8, r55_9, r55_10, r55_11, r55_14, r55_17, r55_20, r55_23, true_and, and_true, Option.toList_some, Option.toList_none, List.cons_append, List.nil_append, List.length_nil, List.length_cons, Nat.reduceAdd, Nat.reduceLeDiff, Nat.zero_le, cb_0, cb_1, cb_01, cb_i, cb_j, eq_self, cb_le, cb_nn, ↓reduceIte, en_ua, Nat.reduceEqDiff, false_and, and_false, and_self, Int32.reduceLT, Int32.reduceAdd, Int32.reduceSub, Int32.reduceMul, Int32.reduceDiv, not_true_eq_false, not_false_eq_true, false_implies, true_implies, implies_true, cl_0, cl_1, cl_2, cl_3, cl_4, cl_5, cl_6, cl_7, cl_8, cl_9, cl_10, cl_11, cl_12, cl_13, cl_14, cl_15, cl_16, ci_6_0, ci_6_1, ci_6_2, ci_6_3, ci_6_4, ci_6_5, ci_8_0, ci_8_1, ci_8_2, ci_8_3, ci_8_4, ci_8_5, ci_8_6, ci_8_7, ci_16_0, ci_16_1, ci_16_2, ci_16_3, ci_16_4, ci_16_5, ci_16_6, ci_16_7, ci_16_8, ci_16_9, ci_16_10, ci_16_11, ci_16_12, ci_16_13, ci_16_14, ci_16_15, ci_4_0, ci_4_1, ci_4_2, ci_4_3, ci_40_0, ci_40_1, ci_40_2, ci_40_3, ci_40_4, ci_40_5, ci_40_6, ci_40_7, ci_40_8, ci_40_9, ci_40_10, ci_40_11, ci_40_12, ci_40_13, ci_40_14, ci_40_15, cq_m1_0, cq_m1_1, cq_m1_2, cq_m1_3, cq_m1_4, cq_m1_5, cq_m1_6, cq_m1_7, cq_m1_8, cq_0_m1, cq_0_1, cq_0_2, cq_0_3, cq_0_4, cq_0_5, cq_0_6, cq_0_7, cq_0_8, cq_1_m1, cq_1_0, cq_1_2, cq_1_3, cq_1_4, cq_1_5, cq_1_6, cq_1_7, cq_1_8, cq_2_m1, cq_2_0, cq_2_1, cq_2_3, cq_2_4, cq_2_5, cq_2_6, cq_2_7, cq_2_8, cq_3_m1, cq_3_0, cq_3_1, cq_3_2, cq_3_4, cq_3_5, cq_3_6, cq_3_7, cq_3_8, cq_4_m1, cq_4_0, cq_4_1, cq_4_2, cq_4_3, cq_4_5, cq_4_6, cq_4_7, cq_4_8, cq_5_m1, cq_5_0, cq_5_1, cq_5_2, cq_5_3, cq_5_4, cq_5_6, cq_5_7, cq_5_8, cq_6_m1, cq_6_0, cq_6_1, cq_6_2, cq_6_3, cq_6_4, cq_6_5, cq_6_7, cq_6_8, cq_7_m1, cq_7_0, cq_7_1, cq_7_2, cq_7_3, cq_7_4, cq_7_5, cq_7_6, cq_7_8, cq_8_m1, cq_8_0, cq_8_1, cq_8_2, cq_8_3, cq_8_4, cq_8_5, cq_8_6, cq_8_7, hp, cs_lt2 hp, h2, ↓cv_tell hp, ↓cv_hear (f := ((cx_tell f.1 p).2, f.2)) hp hn hc1, nI_1]
    rfl
  have e0 : en_Ev (d + 5) 55 [.inr (0, 0)] f Q = en_R en_s0 55 (d + 4) Q 2 [some (.inr (0, 0)), some (.inl (nI 0))] [] f := by
    simp only [e55, r55_0, r55_1, r55_3, r55_4, r55_7, r55_8, r55_9, r55_10, r55_11, r55_14, r55_17, r55_20, r55_23, true_and, and_true, Option.toList_some, Option.toList_none, List.cons_append, List.nil_append, List.length_nil, List.length_cons, Nat.reduceAdd, Nat.reduceLeDiff, Nat.zero_le, cb_0, cb_1, cb_01, cb_i, cb_j, eq_self, cb_le, cb_nn, ↓reduceIte, en_ua, Nat.reduceEqDiff, false_and, and_false, and_self]; rfl
  rw [e0, step 0 f (by omega) hc, step 1 _ (by omega) (by show (cx_own1 f.1 0 n) 0 0 4 = nI n; rw [cx_own1_k (by omega) (by omega)]; exact hc)]
  rw [r55_2]
  simp only [r55_0, r55_1, r55_3, r55_4, r55_7, r55_8, r55_9, r55_10, r55_11, r55_14, r55_17, r55_20, r55_23, true_and, and_true, Option.toList_some, Option.toList_none, List.cons_append, List.nil_append, List.length_nil, List.length_cons, Nat.reduceAdd, Nat.reduceLeDiff, Nat.zero_le, cb_0, cb_1, cb_01, cb_i, cb_j, eq_self, cb_le, cb_nn, ↓reduceIte, en_ua, Nat.reduceEqDiff, false_and, and_false, and_self, Int32.reduceLT, Int32.reduceAdd, Int32.reduceSub, Int32.reduceMul, Int32.reduceDiv, not_true_eq_false, not_false_eq_true, false_implies, true_implies, implies_true, cl_0, cl_1, cl_2, cl_3, cl_4, cl_5, cl_6, cl_7, cl_8, cl_9, cl_10, cl_11, cl_12, cl_13, cl_14, cl_15, cl_16, ci_6_0, ci_6_1, ci_6_2, ci_6_3, ci_6_4, ci_6_5, ci_8_0, ci_8_1, ci_8_2, ci_8_3, ci_8_4, ci_8_5, ci_8_6, ci_8_7, ci_16_0, ci_16_1, ci_16_2, ci_16_3, ci_16_4, ci_16_5, ci_16_6, ci_16_7, ci_16_8, ci_16_9, ci_16_10, ci_16_11, ci_16_12, ci_16_13, ci_16_14, ci_16_15, ci_4_0, ci_4_1, ci_4_2, ci_4_3, ci_40_0, ci_40_1, ci_40_2, ci_40_3, ci_40_4, ci_40_5, ci_40_6, ci_40_7, ci_40_8, ci_40_9, ci_40_10, ci_40_11, ci_40_12, ci_40_13, ci_40_14, ci_40_15, cq_m1_0, cq_m1_1, cq_m1_2, cq_m1_3, cq_m1_4, cq_m1_5, cq_m1_6, cq_m1_7, cq_m1_8, cq_0_m1, cq_0_1, cq_0_2, cq_0_3, cq_0_4, cq_0_5, cq_0_6, cq_0_7, cq_0_8, cq_1_m1, cq_1_0, cq_1_2, cq_1_3, cq_1_4, cq_1_5, cq_1_6, cq_1_7, cq_1_8, cq_2_m1, cq_2_0, cq_2_1, cq_2_3, cq_2_4, cq_2_5, cq_2_6, cq_2_7, cq_2_8, cq_3_m1, cq_3_0, cq_3_1, cq_3_2, cq_3_4, cq_3_5, cq_3_6, cq_3_7, cq_3_8, cq_4_m1, cq_4_0, cq_4_1, cq_4_2, cq_4_3, cq_4_5, cq_4_6, cq_4_7, cq_4_8, cq_5_m1, cq_5_0, cq_5_1, cq_5_2, cq_5_3, cq_5_4, cq_5_6, cq_5_7, cq_5_8, cq_6_m1, cq_6_0, cq_6_1, cq_6_2, cq_6_3, cq_6_4, cq_6_5, cq_6_7, cq_6_8, cq_7_m1, cq_7_0, cq_7_1, cq_7_2, cq_7_3, cq_7_4, cq_7_5, cq_7_6, cq_7_8, cq_8_m1, cq_8_0, cq_8_1, cq_8_2, cq_8_3, cq_8_4, cq_8_5, cq_8_6, cq_8_7, cs_l2 (i := 1 + 1) (by omega), Nat.reduceAdd, Nat.lt_irrefl]
  rfl
/-- the sum of the costs of READY keyboards and hubs -/
def cx_rc (f : en_F) : Nat → Nat → Int32 → Int32
  | 0, _, s => s
  | m + 1, i, s => cx_rc f m (i + 1) (if f 3 i 3 = 3 ∧ (f 3 i 9 = 2 ∨ f 3 i 9 = 3) then s + f 3 i 12 else s)
set_option maxRecDepth 100000 in
set_option maxHeartbeats 800000 in
theorem cv_rcL : ∀ m i s, i + m = 6 → en_R en_s0 61 (d + 1) Q 4 [some (.inr (0, 0)), some (.inl s), some (.inl (nI i))] [] f = Q (some (.inl (cx_rc f.1 m i s))) f := by
  intro m
  induction m with
  | zero =>
    intro i s hi
    have e : i = 6 := by omega
    subst e
    simp only [r61_0, r61_1, r61_2, r61_3, r61_4, r61_5, r61_7, r61_10, r61_11, r61_14, r61_15, r61_16, r61_17, r61_20, r61_23, r61_24, r61_27, r61_28, r61_29, r61_30, r61_33, r61_36, r61_37, r61_38, r61_41, r61_42, r61_43, r61_46, r61_47, r61_48, r61_51, r61_54, r61_55, true_and, and_true, Option.toList_some, Option.toList_none, List.cons_append, List.nil_append, List.length_nil, List.length_cons, Nat.reduceAdd, Nat.reduceLeDiff, Nat.zero_le, cb_0, cb_1, cb_01, cb_i, cb_j, eq_self, cb_le, cb_nn, ↓reduceIte, en_ua, Nat.reduceEqDiff, false_and, and_false, and_self, cs_l6 (i := 6) (by omega), Nat.lt_irrefl, not_false_eq_true, cx_rc]
  | succ m ih =>
    intro i s hi
    have hp : i < 6 := by omega
    rw [r61_4]
    simp only [r61_0, r61_1, r61_2, r61_3, r61_5, r61_7, r61_10, r61_11, r61_14, r61_15, r61_16, r61_17, r61_20, r61_23, r61_24, r61_27, r61_28, r61_29, r61_30, r61_33, r61_36, r61_37, r61_38, r61_41, r61_42, r61_43, r61_46, r61_47, r61_48, r61_51, r61_54, r61_55, true_and, and_true, Option.toList_some, Option.toList_none, List.cons_append, List.nil_append, List.length_nil, List.length_cons, Nat.reduceAdd, Nat.reduceLeDiff, Nat.zero_le, cb_0, cb_1, cb_01, cb_i, cb_j, eq_self, cb_le, cb_nn, ↓reduceIte, en_ua, Nat.reduceEqDiff, false_and, and_false, and_self, Int32.reduceLT, Int32.reduceAdd, Int32.reduceSub, Int32.reduceMul, Int32.reduceDiv, not_true_eq_false, not_false_eq_true, false_implies, true_implies, implies_true, cl_0, cl_1, cl_2, cl_3, cl_4, cl_5, cl_6, cl_7, cl_8, cl_9, cl_10, cl_11, cl_12, cl_13, cl_14, cl_15, cl_16, ci_6_0, ci_6_1, ci_6_2, ci_6_3, ci_6_4, ci_6_5, ci_8_0, ci_8_1, ci_8_2, ci_8_3, ci_8_4, ci_8_5, ci_8_6, ci_8_7, ci_16_0, ci_16_1, ci_16_2, ci_16_3, ci_16_4, ci_16_5, ci_16_6, ci_16_7, ci_16_8, ci_16_9, ci_16_10, ci_16_11, ci_16_12, ci_16_13, ci_16_14, ci_16_15, ci_4_0, ci_4_1, ci_4_2, ci_4_3, ci_40_0, ci_40_1, ci_40_2, ci_40_3, ci_40_4, ci_40_5, ci_40_6, ci_40_7, ci_40_8, ci_40_9, ci_40_10, ci_40_11, ci_40_12, ci_40_13, ci_40_14, ci_40_15, cq_m1_0, cq_m1_1, cq_m1_2, cq_m1_3, cq_m1_4, cq_m1_5, cq_m1_6, cq_m1_7, cq_m1_8, cq_0_m1, cq_0_1, cq_0_2, cq_0_3, cq_0_4, cq_0_5, cq_0_6, cq_0_7, cq_0_8, cq_1_m1, cq_1_0, cq_1_2, cq_1_3, cq_1_4, cq_1_5, cq_1_6, cq_1_7, cq_1_8, cq_2_m1, cq_2_0, cq_2_1, cq_2_3, cq_2_4, cq_2_5, cq_2_6, cq_2_7, cq_2_8, cq_3_m1, cq_3_0, cq_3_1, cq_3_2, cq_3_4, cq_3_5, cq_3_6, cq_3_7, cq_3_8, cq_4_m1, cq_4_0, cq_4_1, cq_4_2, cq_4_3, cq_4_5, cq_4_6, cq_4_7, cq_4_8, cq_5_m1, cq_5_0, cq_5_1, cq_5_2, cq_5_3, cq_5_4, cq_5_6, cq_5_7, cq_5_8, cq_6_m1, cq_6_0, cq_6_1, cq_6_2, cq_6_3, cq_6_4, cq_6_5, cq_6_7, cq_6_8, cq_7_m1, cq_7_0, cq_7_1, cq_7_2, cq_7_3, cq_7_4, cq_7_5, cq_7_6, cq_7_8, cq_8_m1, cq_8_0, cq_8_1, cq_8_2, cq_8_3, cq_8_4, cq_8_5, cq_8_6, cq_8_7, cs_l6 (show i ≤ 6 by omega), hp, cb_in6 hp, cb_c6 hp, ↓cv_isReadyAs hp, nI_1, ih (i + 1) _ (by omega), cb_e0, cx_rc]
    by_cases h : f.1 3 i 3 = 3
    · by_cases h2 : f.1 3 i 9 = 2
      · simp [h, h2]
      · by_cases h3 : f.1 3 i 9 = 3 <;> simp [h, h2, h3]
    · simp [h]
set_option maxRecDepth 100000 in
set_option maxHeartbeats 800000 in
theorem cv_rc : en_Ev (d + 2) 61 [.inr (0, 0)] f Q = Q (some (.inl (cx_rc f.1 6 0 0))) f := by
  have e0 : en_Ev (d + 2) 61 [.inr (0, 0)] f Q = en_R en_s0 61 (d + 1) Q 4 [some (.inr (0, 0)), some (.inl 0), some (.inl (nI 0))] [] f := by
    simp only [e61, r61_0, r61_1, r61_2, r61_3, r61_5, r61_7, r61_10, r61_11, r61_14, r61_15, r61_16, r61_17, r61_20, r61_23, r61_24, r61_27, r61_28, r61_29, r61_30, r61_33, r61_36, r61_37, r61_38, r61_41, r61_42, r61_43, r61_46, r61_47, r61_48, r61_51, r61_54, r61_55, true_and, and_true, Option.toList_some, Option.toList_none, List.cons_append, List.nil_append, List.length_nil, List.length_cons, Nat.reduceAdd, Nat.reduceLeDiff, Nat.zero_le, cb_0, cb_1, cb_01, cb_i, cb_j, eq_self, cb_le, cb_nn, ↓reduceIte, en_ua, Nat.reduceEqDiff, false_and, and_false, and_self]; rfl
  rw [e0, cv_rcL 6 0 0 rfl]
def cx_hears (f : en_F) (p : Nat) : Bool := decide (¬ f 4 p 3 = 0 ∧ ¬ f 3 p 1 = 0 ∧ (p < 2 ∨ ¬ f 3 (p / 2 - 1) 1 = 0))
set_option maxRecDepth 100000 in
set_option maxHeartbeats 800000 in
theorem cv_hears (hp : p < 6) : en_Ev (d + 2) 63 [.inr (0, 0), .inl (nI p)] f Q = Q (some (.inl (if cx_hears f.1 p = true then 1 else 0))) f := by
  unfold cx_hears
  by_cases h2 : p < 2
  · simp only [e63, r63_0, r63_1, r63_4, r63_5, r63_6, r63_9, r63_12, r63_13, r63_16, r63_17, r63_18, r63_21, r63_24, r63_25, r63_26, r63_29, r63_30, r63_33, r63_34, r63_37, r63_38, r63_41, r63_44, r63_45, r63_48, r63_49, true_and, and_true, Option.toList_some, Option.toList_none, List.cons_append, List.nil_append, List.length_nil, List.length_cons, Nat.reduceAdd, Nat.reduceLeDiff, Nat.zero_le, cb_0, cb_1, cb_01, cb_i, cb_j, eq_self, cb_le, cb_nn, ↓reduceIte, en_ua, Nat.reduceEqDiff, false_and, and_false, and_self, Int32.reduceLT, Int32.reduceAdd, Int32.reduceSub, Int32.reduceMul, Int32.reduceDiv, not_true_eq_false, not_false_eq_true, false_implies, true_implies, implies_true, cl_0, cl_1, cl_2, cl_3, cl_4, cl_5, cl_6, cl_7, cl_8, cl_9, cl_10, cl_11, cl_12, cl_13, cl_14, cl_15, cl_16, ci_6_0, ci_6_1, ci_6_2, ci_6_3, ci_6_4, ci_6_5, ci_8_0, ci_8_1, ci_8_2, ci_8_3, ci_8_4, ci_8_5, ci_8_6, ci_8_7, ci_16_0, ci_16_1, ci_16_2, ci_16_3, ci_16_4, ci_16_5, ci_16_6, ci_16_7, ci_16_8, ci_16_9, ci_16_10, ci_16_11, ci_16_12, ci_16_13, ci_16_14, ci_16_15, ci_4_0, ci_4_1, ci_4_2, ci_4_3, ci_40_0, ci_40_1, ci_40_2, ci_40_3, ci_40_4, ci_40_5, ci_40_6, ci_40_7, ci_40_8, ci_40_9, ci_40_10, ci_40_11, ci_40_12, ci_40_13, ci_40_14, ci_40_15, cq_m1_0, cq_m1_1, cq_m1_2, cq_m1_3, cq_m1_4, cq_m1_5, cq_m1_6, cq_m1_7, cq_m1_8, cq_0_m1, cq_0_1, cq_0_2, cq_0_3, cq_0_4, cq_0_5, cq_0_6, cq_0_7, cq_0_8, cq_1_m1, cq_1_0, cq_1_2, cq_1_3, cq_1_4, cq_1_5, cq_1_6, cq_1_7, cq_1_8, cq_2_m1, cq_2_0, cq_2_1, cq_2_3, cq_2_4, cq_2_5, cq_2_6, cq_2_7, cq_2_8, cq_3_m1, cq_3_0, cq_3_1, cq_3_2, cq_3_4, cq_3_5, cq_3_6, cq_3_7, cq_3_8, cq_4_m1, cq_4_0, cq_4_1, cq_4_2, cq_4_3, cq_4_5, cq_4_6, cq_4_7, cq_4_8, cq_5_m1, cq_5_0, cq_5_1, cq_5_2, cq_5_3, cq_5_4, cq_5_6, cq_5_7, cq_5_8, cq_6_m1, cq_6_0, cq_6_1, cq_6_2, cq_6_3, cq_6_4, cq_6_5, cq_6_7, cq_6_8, cq_7_m1, cq_7_0, cq_7_1, cq_7_2, cq_7_3, cq_7_4, cq_7_5, cq_7_6, cq_7_8, cq_8_m1, cq_8_0, cq_8_1, cq_8_2, cq_8_3, cq_8_4, cq_8_5, cq_8_6, cq_8_7, ↓cv_isFull hp, ↓cv_hubPortOf, cs_lt2 hp, h2, cb_in6 hp, cb_c6 hp, hp, cb_e1]
    by_cases h3 : f.1 4 p 3 = 0 <;> by_cases h4 : f.1 3 p 1 = 0 <;> simp [h3, h4, h2]
  · have hq : p / 2 - 1 < 6 := by omega
    simp only [e63, r63_0, r63_1, r63_4, r63_5, r63_6, r63_9, r63_12, r63_13, r63_16, r63_17, r63_18, r63_21, r63_24, r63_25, r63_26, r63_29, r63_30, r63_33, r63_34, r63_37, r63_38, r63_41, r63_44, r63_45, r63_48, r63_49, true_and, and_true, Option.toList_some, Option.toList_none, List.cons_append, List.nil_append, List.length_nil, List.length_cons, Nat.reduceAdd, Nat.reduceLeDiff, Nat.zero_le, cb_0, cb_1, cb_01, cb_i, cb_j, eq_self, cb_le, cb_nn, ↓reduceIte, en_ua, Nat.reduceEqDiff, false_and, and_false, and_self, Int32.reduceLT, Int32.reduceAdd, Int32.reduceSub, Int32.reduceMul, Int32.reduceDiv, not_true_eq_false, not_false_eq_true, false_implies, true_implies, implies_true, cl_0, cl_1, cl_2, cl_3, cl_4, cl_5, cl_6, cl_7, cl_8, cl_9, cl_10, cl_11, cl_12, cl_13, cl_14, cl_15, cl_16, ci_6_0, ci_6_1, ci_6_2, ci_6_3, ci_6_4, ci_6_5, ci_8_0, ci_8_1, ci_8_2, ci_8_3, ci_8_4, ci_8_5, ci_8_6, ci_8_7, ci_16_0, ci_16_1, ci_16_2, ci_16_3, ci_16_4, ci_16_5, ci_16_6, ci_16_7, ci_16_8, ci_16_9, ci_16_10, ci_16_11, ci_16_12, ci_16_13, ci_16_14, ci_16_15, ci_4_0, ci_4_1, ci_4_2, ci_4_3, ci_40_0, ci_40_1, ci_40_2, ci_40_3, ci_40_4, ci_40_5, ci_40_6, ci_40_7, ci_40_8, ci_40_9, ci_40_10, ci_40_11, ci_40_12, ci_40_13, ci_40_14, ci_40_15, cq_m1_0, cq_m1_1, cq_m1_2, cq_m1_3, cq_m1_4, cq_m1_5, cq_m1_6, cq_m1_7, cq_m1_8, cq_0_m1, cq_0_1, cq_0_2, cq_0_3, cq_0_4, cq_0_5, cq_0_6, cq_0_7, cq_0_8, cq_1_m1, cq_1_0, cq_1_2, cq_1_3, cq_1_4, cq_1_5, cq_1_6, cq_1_7, cq_1_8, cq_2_m1, cq_2_0, cq_2_1, cq_2_3, cq_2_4, cq_2_5, cq_2_6, cq_2_7, cq_2_8, cq_3_m1, cq_3_0, cq_3_1, cq_3_2, cq_3_4, cq_3_5, cq_3_6, cq_3_7, cq_3_8, cq_4_m1, cq_4_0, cq_4_1, cq_4_2, cq_4_3, cq_4_5, cq_4_6, cq_4_7, cq_4_8, cq_5_m1, cq_5_0, cq_5_1, cq_5_2, cq_5_3, cq_5_4, cq_5_6, cq_5_7, cq_5_8, cq_6_m1, cq_6_0, cq_6_1, cq_6_2, cq_6_3, cq_6_4, cq_6_5, cq_6_7, cq_6_8, cq_7_m1, cq_7_0, cq_7_1, cq_7_2, cq_7_3, cq_7_4, cq_7_5, cq_7_6, cq_7_8, cq_8_m1, cq_8_0, cq_8_1, cq_8_2, cq_8_3, cq_8_4, cq_8_5, cq_8_6, cq_8_7, ↓cv_isFull hp, ↓cv_hubPortOf, cs_lt2 hp, h2, cs_hub h2 hp, cb_in6 hq, cb_c6 hq, hq, cb_in6 hp, cb_c6 hp, hp, cb_e1]
    by_cases h3 : f.1 4 p 3 = 0 <;> by_cases h4 : f.1 3 p 1 = 0 <;> by_cases h5 : f.1 3 (p / 2 - 1) 1 = 0 <;> simp [h3, h4, h5, h2]
/-- the first place from i on with c, of m places, or -1 -/
def cx_fst (c : Nat → Bool) : Nat → Nat → Int32
  | 0, _ => -1
  | m + 1, i => if c i = true then nI i else cx_fst c m (i + 1)
def cx_lis (f : en_F) (v : Int32) (p : Nat) : Bool := cx_hears f p && decide (v = f 4 p 6 ∨ v = f 4 p 7)
set_option maxRecDepth 100000 in
set_option maxHeartbeats 800000 in
theorem cv_meantL : ∀ m i, i + m = 6 → en_R en_s0 62 (d + 2) Q 8 [some (.inr (0, 0)), some (.inl v), some (.inl w), some (.inl (nI i))] [] f = Q (some (.inl (cx_fst (cx_lis f.1 v) m i))) f := by
  intro m
  induction m with
  | zero =>
    intro i hi
    have e : i = 6 := by omega
    subst e
    simp only [r62_0, r62_1, r62_4, r62_5, r62_6, r62_7, r62_8, r62_9, r62_11, r62_14, r62_15, r62_16, r62_19, r62_22, r62_23, r62_26, r62_27, r62_28, r62_31, r62_32, r62_35, r62_38, r62_39, r62_40, r62_43, r62_46, r62_47, true_and, and_true, Option.toList_some, Option.toList_none, List.cons_append, List.nil_append, List.length_nil, List.length_cons, Nat.reduceAdd, Nat.reduceLeDiff, Nat.zero_le, cb_0, cb_1, cb_01, cb_i, cb_j, eq_self, cb_le, cb_nn, ↓reduceIte, en_ua, Nat.reduceEqDiff, false_and, and_false, and_self, cs_l6 (i := 6) (by omega), Nat.lt_irrefl, not_false_eq_true, cx_fst]
  | succ m ih =>
    intro i hi
    have hp : i < 6 := by omega
    rw [r62_8]
    simp only [r62_0, r62_1, r62_4, r62_5, r62_6, r62_7, r62_9, r62_11, r62_14, r62_15, r62_16, r62_19, r62_22, r62_23, r62_26, r62_27, r62_28, r62_31, r62_32, r62_35, r62_38, r62_39, r62_40, r62_43, r62_46, r62_47, true_and, and_true, Option.toList_some, Option.toList_none, List.cons_append, List.nil_append, List.length_nil, List.length_cons, Nat.reduceAdd, Nat.reduceLeDiff, Nat.zero_le, cb_0, cb_1, cb_01, cb_i, cb_j, eq_self, cb_le, cb_nn, ↓reduceIte, en_ua, Nat.reduceEqDiff, false_and, and_false, and_self, Int32.reduceLT, Int32.reduceAdd, Int32.reduceSub, Int32.reduceMul, Int32.reduceDiv, not_true_eq_false, not_false_eq_true, false_implies, true_implies, implies_true, cl_0, cl_1, cl_2, cl_3, cl_4, cl_5, cl_6, cl_7, cl_8, cl_9, cl_10, cl_11, cl_12, cl_13, cl_14, cl_15, cl_16, ci_6_0, ci_6_1, ci_6_2, ci_6_3, ci_6_4, ci_6_5, ci_8_0, ci_8_1, ci_8_2, ci_8_3, ci_8_4, ci_8_5, ci_8_6, ci_8_7, ci_16_0, ci_16_1, ci_16_2, ci_16_3, ci_16_4, ci_16_5, ci_16_6, ci_16_7, ci_16_8, ci_16_9, ci_16_10, ci_16_11, ci_16_12, ci_16_13, ci_16_14, ci_16_15, ci_4_0, ci_4_1, ci_4_2, ci_4_3, ci_40_0, ci_40_1, ci_40_2, ci_40_3, ci_40_4, ci_40_5, ci_40_6, ci_40_7, ci_40_8, ci_40_9, ci_40_10, ci_40_11, ci_40_12, ci_40_13, ci_40_14, ci_40_15, cq_m1_0, cq_m1_1, cq_m1_2, cq_m1_3, cq_m1_4, cq_m1_5, cq_m1_6, cq_m1_7, cq_m1_8, cq_0_m1, cq_0_1, cq_0_2, cq_0_3, cq_0_4, cq_0_5, cq_0_6, cq_0_7, cq_0_8, cq_1_m1, cq_1_0, cq_1_2, cq_1_3, cq_1_4, cq_1_5, cq_1_6, cq_1_7, cq_1_8, cq_2_m1, cq_2_0, cq_2_1, cq_2_3, cq_2_4, cq_2_5, cq_2_6, cq_2_7, cq_2_8, cq_3_m1, cq_3_0, cq_3_1, cq_3_2, cq_3_4, cq_3_5, cq_3_6, cq_3_7, cq_3_8, cq_4_m1, cq_4_0, cq_4_1, cq_4_2, cq_4_3, cq_4_5, cq_4_6, cq_4_7, cq_4_8, cq_5_m1, cq_5_0, cq_5_1, cq_5_2, cq_5_3, cq_5_4, cq_5_6, cq_5_7, cq_5_8, cq_6_m1, cq_6_0, cq_6_1, cq_6_2, cq_6_3, cq_6_4, cq_6_5, cq_6_7, cq_6_8, cq_7_m1, cq_7_0, cq_7_1, cq_7_2, cq_7_3, cq_7_4, cq_7_5, cq_7_6, cq_7_8, cq_8_m1, cq_8_0, cq_8_1, cq_8_2, cq_8_3, cq_8_4, cq_8_5, cq_8_6, cq_8_7, cs_l6 (show i ≤ 6 by omega), hp, cb_in6 hp, cb_c6 hp, ↓cv_hears hp, ↓cv_listensTo hp, nI_1, ih (i + 1) (by omega), cb_e0, cx_fst, cx_lis]
    by_cases h : cx_hears f.1 i = true
    · by_cases h2 : v = f.1 4 i 6 ∨ v = f.1 4 i 7 <;> simp [h, h2]
    · simp [h]
def cx_meant (f : en_F) (v w : Int32) : Int32 := if w = 0 then -1 else cx_fst (cx_lis f v) 6 0
set_option maxRecDepth 100000 in
set_option maxHeartbeats 800000 in
theorem cv_meant : en_Ev (d + 3) 62 [.inr (0, 0), .inl v, .inl w] f Q = Q (some (.inl (cx_meant f.1 v w))) f := by
  have e0 : en_Ev (d + 3) 62 [.inr (0, 0), .inl v, .inl w] f Q = if w = 0 then Q (some (.inl (-1))) f else en_R en_s0 62 (d + 2) Q 8 [some (.inr (0, 0)), some (.inl v), some (.inl w), some (.inl (nI 0))] [] f := by
    simp only [e62, r62_0, r62_1, r62_4, r62_5, r62_6, r62_7, r62_9, r62_11, r62_14, r62_15, r62_16, r62_19, r62_22, r62_23, r62_26, r62_27, r62_28, r62_31, r62_32, r62_35, r62_38, r62_39, r62_40, r62_43, r62_46, r62_47, true_and, and_true, Option.toList_some, Option.toList_none, List.cons_append, List.nil_append, List.length_nil, List.length_cons, Nat.reduceAdd, Nat.reduceLeDiff, Nat.zero_le, cb_0, cb_1, cb_01, cb_i, cb_j, eq_self, cb_le, cb_nn, ↓reduceIte, en_ua, Nat.reduceEqDiff, false_and, and_false, and_self]; rfl
  rw [e0, cv_meantL 6 0 rfl]
  unfold cx_meant
  by_cases h : w = 0 <;> simp [h]
def cx_tkn (f : en_F) (v : Int32) (p : Nat) : Bool := decide (f 3 p 4 = v)
/-- isTaken -/
def cx_any (c : Nat → Bool) : Nat → Nat → Bool
  | 0, _ => false
  | m + 1, i => c i || cx_any c m (i + 1)
set_option maxRecDepth 100000 in
set_option maxHeartbeats 800000 in
theorem cv_takenL : ∀ m i, i + m = 6 → en_R en_s0 76 d Q 2 [some (.inr (0, 0)), some (.inl v), some (.inl (nI i))] [] f = Q (some (.inl (if cx_any (cx_tkn f.1 v) m i = true then 1 else 0))) f := by
  intro m
  induction m with
  | zero =>
    intro i hi
    have e : i = 6 := by omega
    subst e
    simp only [r76_0, r76_1, r76_2, r76_3, r76_5, r76_8, r76_9, r76_12, r76_13, r76_14, r76_17, r76_18, r76_21, r76_22, r76_23, r76_26, r76_29, r76_30, true_and, and_true, Option.toList_some, Option.toList_none, List.cons_append, List.nil_append, List.length_nil, List.length_cons, Nat.reduceAdd, Nat.reduceLeDiff, Nat.zero_le, cb_0, cb_1, cb_01, cb_i, cb_j, eq_self, cb_le, cb_nn, ↓reduceIte, en_ua, Nat.reduceEqDiff, false_and, and_false, and_self, cs_l6 (i := 6) (by omega), Nat.lt_irrefl, not_false_eq_true, cx_any]
    simp
  | succ m ih =>
    intro i hi
    have hp : i < 6 := by omega
    rw [r76_2]
    simp only [r76_0, r76_1, r76_3, r76_5, r76_8, r76_9, r76_12, r76_13, r76_14, r76_17, r76_18, r76_21, r76_22, r76_23, r76_26, r76_29, r76_30, true_and, and_true, Option.toList_some, Option.toList_none, List.cons_append, List.nil_append, List.length_nil, List.length_cons, Nat.reduceAdd, Nat.reduceLeDiff, Nat.zero_le, cb_0, cb_1, cb_01, cb_i, cb_j, eq_self, cb_le, cb_nn, ↓reduceIte, en_ua, Nat.reduceEqDiff, false_and, and_false, and_self, Int32.reduceLT, Int32.reduceAdd, Int32.reduceSub, Int32.reduceMul, Int32.reduceDiv, not_true_eq_false, not_false_eq_true, false_implies, true_implies, implies_true, cl_0, cl_1, cl_2, cl_3, cl_4, cl_5, cl_6, cl_7, cl_8, cl_9, cl_10, cl_11, cl_12, cl_13, cl_14, cl_15, cl_16, ci_6_0, ci_6_1, ci_6_2, ci_6_3, ci_6_4, ci_6_5, ci_8_0, ci_8_1, ci_8_2, ci_8_3, ci_8_4, ci_8_5, ci_8_6, ci_8_7, ci_16_0, ci_16_1, ci_16_2, ci_16_3, ci_16_4, ci_16_5, ci_16_6, ci_16_7, ci_16_8, ci_16_9, ci_16_10, ci_16_11, ci_16_12, ci_16_13, ci_16_14, ci_16_15, ci_4_0, ci_4_1, ci_4_2, ci_4_3, ci_40_0, ci_40_1, ci_40_2, ci_40_3, ci_40_4, ci_40_5, ci_40_6, ci_40_7, ci_40_8, ci_40_9, ci_40_10, ci_40_11, ci_40_12, ci_40_13, ci_40_14, ci_40_15, cq_m1_0, cq_m1_1, cq_m1_2, cq_m1_3, cq_m1_4, cq_m1_5, cq_m1_6, cq_m1_7, cq_m1_8, cq_0_m1, cq_0_1, cq_0_2, cq_0_3, cq_0_4, cq_0_5, cq_0_6, cq_0_7, cq_0_8, cq_1_m1, cq_1_0, cq_1_2, cq_1_3, cq_1_4, cq_1_5, cq_1_6, cq_1_7, cq_1_8, cq_2_m1, cq_2_0, cq_2_1, cq_2_3, cq_2_4, cq_2_5, cq_2_6, cq_2_7, cq_2_8, cq_3_m1, cq_3_0, cq_3_1, cq_3_2, cq_3_4, cq_3_5, cq_3_6, cq_3_7, cq_3_8, cq_4_m1, cq_4_0, cq_4_1, cq_4_2, cq_4_3, cq_4_5, cq_4_6, cq_4_7, cq_4_8, cq_5_m1, cq_5_0, cq_5_1, cq_5_2, cq_5_3, cq_5_4, cq_5_6, cq_5_7, cq_5_8, cq_6_m1, cq_6_0, cq_6_1, cq_6_2, cq_6_3, cq_6_4, cq_6_5, cq_6_7, cq_6_8, cq_7_m1, cq_7_0, cq_7_1, cq_7_2, cq_7_3, cq_7_4, cq_7_5, cq_7_6, cq_7_8, cq_8_m1, cq_8_0, cq_8_1, cq_8_2, cq_8_3, cq_8_4, cq_8_5, cq_8_6, cq_8_7, cs_l6 (show i ≤ 6 by omega), hp, cb_in6 hp, cb_c6 hp, nI_1, ih (i + 1) (by omega), cx_any, cx_tkn]
    by_cases h : f.1 3 i 4 = v <;> simp [h]
set_option maxRecDepth 100000 in
set_option maxHeartbeats 800000 in
theorem cv_taken : en_Ev (d + 1) 76 [.inr (0, 0), .inl v] f Q = Q (some (.inl (if cx_any (cx_tkn f.1 v) 6 0 = true then 1 else 0))) f := by
  have e0 : en_Ev (d + 1) 76 [.inr (0, 0), .inl v] f Q = en_R en_s0 76 d Q 2 [some (.inr (0, 0)), some (.inl v), some (.inl (nI 0))] [] f := by
    simp only [e76, r76_0, r76_1, r76_3, r76_5, r76_8, r76_9, r76_12, r76_13, r76_14, r76_17, r76_18, r76_21, r76_22, r76_23, r76_26, r76_29, r76_30, true_and, and_true, Option.toList_some, Option.toList_none, List.cons_append, List.nil_append, List.length_nil, List.length_cons, Nat.reduceAdd, Nat.reduceLeDiff, Nat.zero_le, cb_0, cb_1, cb_01, cb_i, cb_j, eq_self, cb_le, cb_nn, ↓reduceIte, en_ua, Nat.reduceEqDiff, false_and, and_false, and_self]; rfl
  rw [e0, cv_takenL 6 0 rfl]
def cx_ohp (f : en_F) (v : Int32) (k : Nat) : Bool := decide (f 8 k 2 = v ∧ f 8 k 7 = 0)
set_option maxRecDepth 100000 in
set_option maxHeartbeats 800000 in
theorem cv_inHandL (hn : n ≤ 16) (hc : f.1 0 0 4 = nI n) : ∀ m i, i + m = n → en_R en_s0 85 d Q 2 [some (.inr (0, 0)), some (.inl v), some (.inl (nI i))] [] f = Q (some (.inl (cx_fst (cx_ohp f.1 v) m i))) f := by
  intro m
  induction m with
  | zero =>
    intro i hi
    have e : i = n := by omega
    subst e
    simp only [r85_0, r85_1, r85_2, r85_3, r85_4, r85_7, r85_10, r85_11, r85_14, r85_15, r85_16, r85_19, r85_20, r85_23, r85_24, r85_27, r85_28, r85_29, r85_32, r85_35, r85_36, r85_37, r85_40, r85_43, r85_44, true_and, and_true, Option.toList_some, Option.toList_none, List.cons_append, List.nil_append, List.length_nil, List.length_cons, Nat.reduceAdd, Nat.reduceLeDiff, Nat.zero_le, cb_0, cb_1, cb_01, cb_i, cb_j, eq_self, cb_le, cb_nn, ↓reduceIte, en_ua, Nat.reduceEqDiff, false_and, and_false, and_self, hc, cb_lt (show i < 2 ^ 31 by omega) (show i < 2 ^ 31 by omega), Nat.lt_irrefl, not_false_eq_true, cx_fst]
  | succ m ih =>
    intro i hi
    have hin : i < n := by omega
    have hi16 : i < 16 := by omega
    rw [r85_2]
    simp only [r85_0, r85_1, r85_3, r85_4, r85_7, r85_10, r85_11, r85_14, r85_15, r85_16, r85_19, r85_20, r85_23, r85_24, r85_27, r85_28, r85_29, r85_32, r85_35, r85_36, r85_37, r85_40, r85_43, r85_44, true_and, and_true, Option.toList_some, Option.toList_none, List.cons_append, List.nil_append, List.length_nil, List.length_cons, Nat.reduceAdd, Nat.reduceLeDiff, Nat.zero_le, cb_0, cb_1, cb_01, cb_i, cb_j, eq_self, cb_le, cb_nn, ↓reduceIte, en_ua, Nat.reduceEqDiff, false_and, and_false, and_self, Int32.reduceLT, Int32.reduceAdd, Int32.reduceSub, Int32.reduceMul, Int32.reduceDiv, not_true_eq_false, not_false_eq_true, false_implies, true_implies, implies_true, cl_0, cl_1, cl_2, cl_3, cl_4, cl_5, cl_6, cl_7, cl_8, cl_9, cl_10, cl_11, cl_12, cl_13, cl_14, cl_15, cl_16, ci_6_0, ci_6_1, ci_6_2, ci_6_3, ci_6_4, ci_6_5, ci_8_0, ci_8_1, ci_8_2, ci_8_3, ci_8_4, ci_8_5, ci_8_6, ci_8_7, ci_16_0, ci_16_1, ci_16_2, ci_16_3, ci_16_4, ci_16_5, ci_16_6, ci_16_7, ci_16_8, ci_16_9, ci_16_10, ci_16_11, ci_16_12, ci_16_13, ci_16_14, ci_16_15, ci_4_0, ci_4_1, ci_4_2, ci_4_3, ci_40_0, ci_40_1, ci_40_2, ci_40_3, ci_40_4, ci_40_5, ci_40_6, ci_40_7, ci_40_8, ci_40_9, ci_40_10, ci_40_11, ci_40_12, ci_40_13, ci_40_14, ci_40_15, cq_m1_0, cq_m1_1, cq_m1_2, cq_m1_3, cq_m1_4, cq_m1_5, cq_m1_6, cq_m1_7, cq_m1_8, cq_0_m1, cq_0_1, cq_0_2, cq_0_3, cq_0_4, cq_0_5, cq_0_6, cq_0_7, cq_0_8, cq_1_m1, cq_1_0, cq_1_2, cq_1_3, cq_1_4, cq_1_5, cq_1_6, cq_1_7, cq_1_8, cq_2_m1, cq_2_0, cq_2_1, cq_2_3, cq_2_4, cq_2_5, cq_2_6, cq_2_7, cq_2_8, cq_3_m1, cq_3_0, cq_3_1, cq_3_2, cq_3_4, cq_3_5, cq_3_6, cq_3_7, cq_3_8, cq_4_m1, cq_4_0, cq_4_1, cq_4_2, cq_4_3, cq_4_5, cq_4_6, cq_4_7, cq_4_8, cq_5_m1, cq_5_0, cq_5_1, cq_5_2, cq_5_3, cq_5_4, cq_5_6, cq_5_7, cq_5_8, cq_6_m1, cq_6_0, cq_6_1, cq_6_2, cq_6_3, cq_6_4, cq_6_5, cq_6_7, cq_6_8, cq_7_m1, cq_7_0, cq_7_1, cq_7_2, cq_7_3, cq_7_4, cq_7_5, cq_7_6, cq_7_8, cq_8_m1, cq_8_0, cq_8_1, cq_8_2, cq_8_3, cq_8_4, cq_8_5, cq_8_6, cq_8_7, hc, cb_lt (show i < 2 ^ 31 by omega) (show n < 2 ^ 31 by omega), hin, hi16, cb_in16 hi16, cb_c16 hi16, nI_1, ih (i + 1) (by omega), cx_fst, cx_ohp]
    by_cases h : f.1 8 i 2 = v <;> by_cases h2 : f.1 8 i 7 = 0 <;> simp [h, h2]
def cx_inHand (f : en_F) (v : Int32) (n : Nat) : Int32 := cx_fst (cx_ohp f v) n 0
set_option maxRecDepth 100000 in
set_option maxHeartbeats 800000 in
theorem cv_inHand (hn : n ≤ 16) (hc : f.1 0 0 4 = nI n) : en_Ev (d + 1) 85 [.inr (0, 0), .inl v] f Q = Q (some (.inl (cx_inHand f.1 v n))) f := by
  have e0 : en_Ev (d + 1) 85 [.inr (0, 0), .inl v] f Q = en_R en_s0 85 d Q 2 [some (.inr (0, 0)), some (.inl v), some (.inl (nI 0))] [] f := by
    simp only [e85, r85_0, r85_1, r85_3, r85_4, r85_7, r85_10, r85_11, r85_14, r85_15, r85_16, r85_19, r85_20, r85_23, r85_24, r85_27, r85_28, r85_29, r85_32, r85_35, r85_36, r85_37, r85_40, r85_43, r85_44, true_and, and_true, Option.toList_some, Option.toList_none, List.cons_append, List.nil_append, List.length_nil, List.length_cons, Nat.reduceAdd, Nat.reduceLeDiff, Nat.zero_le, cb_0, cb_1, cb_01, cb_i, cb_j, eq_self, cb_le, cb_nn, ↓reduceIte, en_ua, Nat.reduceEqDiff, false_and, and_false, and_self]; rfl
  rw [e0, cv_inHandL hn hc n 0 (by omega)]
  rfl
end Cx5
