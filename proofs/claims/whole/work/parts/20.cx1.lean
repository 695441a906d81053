/-! THE CLASS AS PURE FUNCTIONS, 1: Disk, Order, Line, KeyLog, Device, Port (f: kinds 0 bus, 3 Port, 4 Device, 5 Disk, 6 content, 7 codes, 8 Order, 9 numbers, 10 Line, 11 losses, 12 KeyLog, 13 recentKeys) -/
section Cx1
variable {d p k n : Nat} {f : en_T} {Q : en_Q} {v w a b x : Int32}
-- Port.isFull
set_option maxRecDepth 100000 in
set_option maxHeartbeats 4000000 in
theorem cv_isFull (hp : p < 6) : en_Ev (d + 1) 26 [.inr (3, p)] f Q = Q (some (.inl (if f.1 4 p 3 = 0 then 0 else 1))) f := by
  simp only [e26, r26_0, r26_1, r26_4, r26_7, r26_10, r26_11, r26_14, r26_15, true_and, and_true, Option.toList_some, Option.toList_none, List.cons_append, List.nil_append, List.length_nil, List.length_cons, Nat.reduceAdd, Nat.reduceLeDiff, Nat.zero_le, cb_0, cb_1, cb_01, cb_i, cb_j, eq_self, cb_le, cb_nn, ↓reduceIte, en_ua, Nat.reduceEqDiff, false_and, and_false, and_self, hp]
  by_cases h : f.1 4 p 3 = 0 <;> simp [h]
-- Port.isReadyAs
set_option maxRecDepth 100000 in
set_option maxHeartbeats 4000000 in
theorem cv_isReadyAs (hp : p < 6) : en_Ev (d + 1) 27 [.inr (3, p), .inl v] f Q = Q (some (.inl (if f.1 3 p 3 = 3 ∧ f.1 3 p 9 = v then 1 else 0))) f := by
  simp only [e27, r27_0, r27_1, r27_4, r27_5, r27_8, r27_9, r27_12, r27_13, r27_16, r27_17, r27_20, r27_21, true_and, and_true, Option.toList_some, Option.toList_none, List.cons_append, List.nil_append, List.length_nil, List.length_cons, Nat.reduceAdd, Nat.reduceLeDiff, Nat.zero_le, cb_0, cb_1, cb_01, cb_i, cb_j, eq_self, cb_le, cb_nn, ↓reduceIte, en_ua, Nat.reduceEqDiff, false_and, and_false, and_self, hp]
  by_cases h : f.1 3 p 3 = 3 <;> by_cases h2 : f.1 3 p 9 = v <;> simp [h, h2]
def cx_lose (f : en_F) (p : Nat) : en_F := en_up (en_up (en_up f 4 p 3 0) 4 p 8 0) 3 p 1 0
set_option maxRecDepth 100000 in
set_option maxHeartbeats 4000000 in
theorem cv_lose (hp : p < 6) : en_Ev (d + 1) 28 [.inr (3, p)] f Q = Q none (cx_lose f.1 p, f.2) := by
  simp only [e28, r28_0, r28_1, r28_4, r28_5, r28_8, r28_9, r28_12, r28_13, r28_16, r28_17, r28_18, r28_21, true_and, and_true, Option.toList_some, Option.toList_none, List.cons_append, List.nil_append, List.length_nil, List.length_cons, Nat.reduceAdd, Nat.reduceLeDiff, Nat.zero_le, cb_0, cb_1, cb_01, cb_i, cb_j, eq_self, cb_le, cb_nn, ↓reduceIte, en_ua, Nat.reduceEqDiff, false_and, and_false, and_self, hp]; rfl
def cx_leave (f : en_F) (p : Nat) (v : Int32) : en_F := en_up (en_up (en_up f 3 p 3 v) 3 p 1 0) 3 p 4 0
set_option maxRecDepth 100000 in
set_option maxHeartbeats 4000000 in
theorem cv_leave (hp : p < 6) : en_Ev (d + 1) 29 [.inr (3, p), .inl v] f Q = Q none (cx_leave f.1 p v, f.2) := by
  simp only [e29, r29_0, r29_1, r29_2, r29_5, r29_6, r29_7, r29_10, r29_11, r29_12, r29_15, true_and, and_true, Option.toList_some, Option.toList_none, List.cons_append, List.nil_append, List.length_nil, List.length_cons, Nat.reduceAdd, Nat.reduceLeDiff, Nat.zero_le, cb_0, cb_1, cb_01, cb_i, cb_j, eq_self, cb_le, cb_nn, ↓reduceIte, en_ua, Nat.reduceEqDiff, false_and, and_false, and_self, hp]; rfl
def cx_rest (f : en_F) (p : Nat) : en_F := en_up (en_up (en_up f 5 p 3 0) 5 p 4 0) 5 p 6 0
set_option maxRecDepth 100000 in
set_option maxHeartbeats 4000000 in
theorem cv_rest (hp : p < 6) : en_Ev (d + 1) 1 [.inr (5, p)] f Q = Q none (cx_rest f.1 p, f.2) := by
  simp only [e1, r1_0, r1_1, r1_2, r1_5, r1_6, r1_7, r1_10, r1_11, r1_12, r1_15, true_and, and_true, Option.toList_some, Option.toList_none, List.cons_append, List.nil_append, List.length_nil, List.length_cons, Nat.reduceAdd, Nat.reduceLeDiff, Nat.zero_le, cb_0, cb_1, cb_01, cb_i, cb_j, eq_self, cb_le, cb_nn, ↓reduceIte, en_ua, Nat.reduceEqDiff, false_and, and_false, and_self, hp]; rfl
-- Disk.mustTakeData, mustMakePacket
set_option maxRecDepth 100000 in
set_option maxHeartbeats 4000000 in
theorem cv_mustTake (hp : p < 6) : en_Ev (d + 1) 3 [.inr (5, p)] f Q = Q (some (.inl (if f.1 5 p 4 = 2 ∧ 0 < f.1 5 p 6 then 1 else 0))) f := by
  simp only [e3, r3_0, r3_1, r3_4, r3_5, r3_8, r3_9, r3_12, r3_15, r3_16, r3_19, r3_20, true_and, and_true, Option.toList_some, Option.toList_none, List.cons_append, List.nil_append, List.length_nil, List.length_cons, Nat.reduceAdd, Nat.reduceLeDiff, Nat.zero_le, cb_0, cb_1, cb_01, cb_i, cb_j, eq_self, cb_le, cb_nn, ↓reduceIte, en_ua, Nat.reduceEqDiff, false_and, and_false, and_self, hp]
  by_cases h : f.1 5 p 4 = 2 <;> by_cases h2 : 0 < f.1 5 p 6 <;> simp [h, h2]
set_option maxRecDepth 100000 in
set_option maxHeartbeats 4000000 in
theorem cv_mustMake (hp : p < 6) : en_Ev (d + 1) 4 [.inr (5, p)] f Q = Q (some (.inl (if f.1 5 p 4 = 1 ∨ (f.1 5 p 4 = 2 ∧ f.1 5 p 6 = 0) then 1 else 0))) f := by
  simp only [e4, r4_0, r4_1, r4_4, r4_5, r4_8, r4_9, r4_12, r4_13, r4_16, r4_17, r4_20, r4_23, r4_24, r4_27, r4_28, true_and, and_true, Option.toList_some, Option.toList_none, List.cons_append, List.nil_append, List.length_nil, List.length_cons, Nat.reduceAdd, Nat.reduceLeDiff, Nat.zero_le, cb_0, cb_1, cb_01, cb_i, cb_j, eq_self, cb_le, cb_nn, ↓reduceIte, en_ua, Nat.reduceEqDiff, false_and, and_false, and_self, hp]
  by_cases h : f.1 5 p 4 = 1 <;> by_cases h2 : f.1 5 p 4 = 2 <;> by_cases h3 : f.1 5 p 6 = 0 <;> simp [h, h2, h3]
/-- Disk.becomeNew -/
def cx_knew (f : en_F) (p : Nat) (v w : Int32) : en_F := fun k i j => if k = 6 ∧ i = p ∧ j < 8 then 0 else en_up (en_up f 5 p 1 v) 5 p 2 w k i j
theorem cx_knew_eq (f : en_F) (p : Nat) (v w : Int32) : en_up (en_up (en_up (en_up (en_up (en_up (en_up (en_up (en_up (en_up f 5 p 1 v) 5 p 2 w) 6 p 0 0) 6 p 1 0) 6 p 2 0) 6 p 3 0) 6 p 4 0) 6 p 5 0) 6 p 6 0) 6 p 7 0 = cx_knew f p v w := by
  funext k i j
  by_cases hk : k = 6
  · subst hk
    by_cases hi : i = p
    · subst hi
      by_cases hj : j < 8
      · rcases (by omega : j = 0 ∨ j = 1 ∨ j = 2 ∨ j = 3 ∨ j = 4 ∨ j = 5 ∨ j = 6 ∨ j = 7) with rfl | rfl | rfl | rfl | rfl | rfl | rfl | rfl <;> simp [en_up, cx_knew]
      · have : j ≠ 0 ∧ j ≠ 1 ∧ j ≠ 2 ∧ j ≠ 3 ∧ j ≠ 4 ∧ j ≠ 5 ∧ j ≠ 6 ∧ j ≠ 7 := by omega
        simp [en_up, cx_knew, this, hj]
    · simp [en_up, cx_knew, hi]
  · simp [en_up, cx_knew, hk]
set_option maxRecDepth 100000 in
set_option maxHeartbeats 4000000 in
theorem cv_knew (hp : p < 6) : en_Ev (d + 1) 0 [.inr (5, p), .inl v, .inl w] f Q = Q none (cx_knew f.1 p v w, f.2) := by
  simp only [e0, r0_0, r0_1, r0_2, r0_5, r0_6, r0_7, r0_10, r0_11, r0_12, r0_13, r0_15, r0_18, r0_19, r0_22, r0_23, r0_24, r0_25, r0_28, r0_31, true_and, and_true, Option.toList_some, Option.toList_none, List.cons_append, List.nil_append, List.length_nil, List.length_cons, Nat.reduceAdd, Nat.reduceLeDiff, Nat.zero_le, cb_0, cb_1, cb_01, cb_i, cb_j, eq_self, cb_le, cb_nn, ↓reduceIte, en_ua, Nat.reduceEqDiff, false_and, and_false, and_self, Int32.reduceLT, Int32.reduceAdd, Int32.reduceSub, Int32.reduceMul, Int32.reduceDiv, not_true_eq_false, not_false_eq_true, false_implies, true_implies, implies_true, cl_0, cl_1, cl_2, cl_3, cl_4, cl_5, cl_6, cl_7, cl_8, cl_9, cl_10, cl_11, cl_12, cl_13, cl_14, cl_15, cl_16, ci_6_0, ci_6_1, ci_6_2, ci_6_3, ci_6_4, ci_6_5, ci_8_0, ci_8_1, ci_8_2, ci_8_3, ci_8_4, ci_8_5, ci_8_6, ci_8_7, ci_16_0, ci_16_1, ci_16_2, ci_16_3, ci_16_4, ci_16_5, ci_16_6, ci_16_7, ci_16_8, ci_16_9, ci_16_10, ci_16_11, ci_16_12, ci_16_13, ci_16_14, ci_16_15, ci_4_0, ci_4_1, ci_4_2, ci_4_3, ci_40_0, ci_40_1, ci_40_2, ci_40_3, ci_40_4, ci_40_5, ci_40_6, ci_40_7, ci_40_8, ci_40_9, ci_40_10, ci_40_11, ci_40_12, ci_40_13, ci_40_14, ci_40_15, cq_m1_0, cq_m1_1, cq_m1_2, cq_m1_3, cq_m1_4, cq_m1_5, cq_m1_6, cq_m1_7, cq_m1_8, cq_0_m1, cq_0_1, cq_0_2, cq_0_3, cq_0_4, cq_0_5, cq_0_6, cq_0_7, cq_0_8, cq_1_m1, cq_1_0, cq_1_2, cq_1_3, cq_1_4, cq_1_5, cq_1_6, cq_1_7, cq_1_8, cq_2_m1, cq_2_0, cq_2_1, cq_2_3, cq_2_4, cq_2_5, cq_2_6, cq_2_7, cq_2_8, cq_3_m1, cq_3_0, cq_3_1, cq_3_2, cq_3_4, cq_3_5, cq_3_6, cq_3_7, cq_3_8, cq_4_m1, cq_4_0, cq_4_1, cq_4_2, cq_4_3, cq_4_5, cq_4_6, cq_4_7, cq_4_8, cq_5_m1, cq_5_0, cq_5_1, cq_5_2, cq_5_3, cq_5_4, cq_5_6, cq_5_7, cq_5_8, cq_6_m1, cq_6_0, cq_6_1, cq_6_2, cq_6_3, cq_6_4, cq_6_5, cq_6_7, cq_6_8, cq_7_m1, cq_7_0, cq_7_1, cq_7_2, cq_7_3, cq_7_4, cq_7_5, cq_7_6, cq_7_8, cq_8_m1, cq_8_0, cq_8_1, cq_8_2, cq_8_3, cq_8_4, cq_8_5, cq_8_6, cq_8_7, hp]
  rw [cx_knew_eq]
/-- Disk.blockAt -/
def cx_blockAt (f : en_F) (p : Nat) (v : Int32) : Int32 := if ¬ v < 0 ∧ v < f 5 p 1 ∧ v < 8 then f 6 p v.toNatClampNeg else 0
set_option maxRecDepth 100000 in
set_option maxHeartbeats 4000000 in
theorem cv_blockAt (hp : p < 6) : en_Ev (d + 1) 2 [.inr (5, p), .inl v] f Q = Q (some (.inl (cx_blockAt f.1 p v))) f := by
  simp only [e2, r2_0, r2_1, r2_4, r2_5, r2_6, r2_9, r2_12, r2_13, r2_15, r2_18, r2_19, r2_22, r2_23, r2_24, r2_27, r2_28, true_and, and_true, Option.toList_some, Option.toList_none, List.cons_append, List.nil_append, List.length_nil, List.length_cons, Nat.reduceAdd, Nat.reduceLeDiff, Nat.zero_le, cb_0, cb_1, cb_01, cb_i, cb_j, eq_self, cb_le, cb_nn, ↓reduceIte, en_ua, Nat.reduceEqDiff, false_and, and_false, and_self, hp]
  unfold cx_blockAt
  by_cases h : v < 0 <;> by_cases h2 : v < f.1 5 p 1 <;> by_cases h3 : v < 8 <;> simp [h, h2, h3]
  · intro _; exact cb_rg (m := 8) rfl (by decide) h h3
/-- Disk.takeCommand, take, make -/
def cx_takeC (f : en_F) (p : Nat) (v : Int32) : en_F := en_up (en_up (en_up (en_up f 5 p 3 (f 5 p 2)) 5 p 4 (if v &&& 64 = 0 then 1 else 2)) 5 p 5 (v >>> (3 &&& 31) &&& 7)) 5 p 6 (v &&& 7)
set_option maxRecDepth 100000 in
set_option maxHeartbeats 4000000 in
theorem cv_takeC (hp : p < 6) : en_Ev (d + 1) 6 [.inr (5, p), .inl v] f Q = Q none (cx_takeC f.1 p v, f.2) := by
  simp only [e6, r6_0, r6_1, r6_2, r6_5, r6_8, r6_9, r6_10, r6_12, r6_13, r6_16, r6_17, r6_20, r6_21, r6_24, r6_25, r6_26, r6_27, r6_28, r6_30, r6_31, r6_34, r6_35, r6_36, r6_38, r6_39, r6_42, true_and, and_true, Option.toList_some, Option.toList_none, List.cons_append, List.nil_append, List.length_nil, List.length_cons, Nat.reduceAdd, Nat.reduceLeDiff, Nat.zero_le, cb_0, cb_1, cb_01, cb_i, cb_j, eq_self, cb_le, cb_nn, ↓reduceIte, en_ua, Nat.reduceEqDiff, false_and, and_false, and_self, hp]
  unfold cx_takeC
  by_cases h : v &&& 64 = 0 <;> simp [h]
def cx_take (f : en_F) (p : Nat) (v : Int32) : en_F := if f 5 p 4 = 0 then cx_takeC f p v else if (f 5 p 4 = 2 ∧ 0 < f 5 p 6) ∧ ¬ f 5 p 5 < 0 ∧ f 5 p 5 < 8 then en_up (en_up (en_up f 6 p (f 5 p 5).toNatClampNeg v) 5 p 5 (f 5 p 5 + 1)) 5 p 6 (f 5 p 6 - 1) else f
set_option maxRecDepth 100000 in
set_option maxHeartbeats 4000000 in
theorem cv_take (hp : p < 6) : en_Ev (d + 2) 5 [.inr (5, p), .inl v] f Q = Q none (cx_take f.1 p v, f.2) := by
  simp only [e5, r5_0, r5_1, r5_4, r5_7, r5_8, r5_9, r5_12, r5_15, r5_16, r5_19, r5_22, r5_23, r5_26, r5_29, r5_30, r5_33, r5_35, r5_38, r5_39, r5_42, r5_43, r5_46, r5_47, r5_48, r5_49, r5_50, r5_53, r5_54, r5_55, r5_58, r5_59, r5_60, r5_63, r5_64, r5_65, r5_68, true_and, and_true, Option.toList_some, Option.toList_none, List.cons_append, List.nil_append, List.length_nil, List.length_cons, Nat.reduceAdd, Nat.reduceLeDiff, Nat.zero_le, cb_0, cb_1, cb_01, cb_i, cb_j, eq_self, cb_le, cb_nn, ↓reduceIte, en_ua, Nat.reduceEqDiff, false_and, and_false, and_self, hp, cv_takeC hp, cv_mustTake hp, cb_e0]
  unfold cx_take
  by_cases h : f.1 5 p 4 = 0
  · simp [h]
  · by_cases h2 : f.1 5 p 4 = 2 ∧ 0 < f.1 5 p 6
    · by_cases h3 : f.1 5 p 5 < 0 <;> by_cases h4 : f.1 5 p 5 < 8 <;> simp [h, h2, h3, h4, en_up]
      · intro _; exact cb_rg (m := 8) rfl (by decide) h3 h4
    · simp [h, h2]
def cx_kmake (f : en_F) (p : Nat) : Int32 × en_F := if f 5 p 6 = 0 then (0, en_up f 5 p 4 0) else (if ¬ f 5 p 5 < 0 ∧ f 5 p 5 < 8 then f 6 p (f 5 p 5).toNatClampNeg else 0, en_up (en_up f 5 p 5 (f 5 p 5 + 1)) 5 p 6 (f 5 p 6 - 1))
set_option maxRecDepth 100000 in
set_option maxHeartbeats 4000000 in
theorem cv_kmake (hp : p < 6) : en_Ev (d + 1) 7 [.inr (5, p)] f Q = Q (some (.inl (cx_kmake f.1 p).1)) ((cx_kmake f.1 p).2, f.2) := by
  simp only [e7, r7_0, r7_1, r7_4, r7_7, r7_8, r7_9, r7_12, r7_13, r7_14, r7_15, r7_18, r7_21, r7_22, r7_25, r7_27, r7_30, r7_31, r7_34, r7_35, r7_38, r7_39, r7_42, r7_43, r7_44, r7_45, r7_46, r7_49, r7_50, r7_51, r7_54, r7_55, r7_56, r7_59, r7_60, r7_61, r7_64, r7_65, true_and, and_true, Option.toList_some, Option.toList_none, List.cons_append, List.nil_append, List.length_nil, List.length_cons, Nat.reduceAdd, Nat.reduceLeDiff, Nat.zero_le, cb_0, cb_1, cb_01, cb_i, cb_j, eq_self, cb_le, cb_nn, ↓reduceIte, en_ua, Nat.reduceEqDiff, false_and, and_false, and_self, hp]
  unfold cx_kmake
  by_cases h : f.1 5 p 6 = 0
  · simp [h]
  · by_cases h3 : f.1 5 p 5 < 0 <;> by_cases h4 : f.1 5 p 5 < 8 <;> simp [h, h3, h4, en_up]
    · intro _; exact cb_rg (m := 8) rfl (by decide) h3 h4
end Cx1
