/-! THE CLASS AS PURE FUNCTIONS, 1: Disk, Order, Line, KeyLog, Device, Port (f: kinds 0 bus, 3 Port, 4 Device, 5 Disk, 6 content, 7 codes, 8 Order, 9 numbers, 10 Line, 11 losses, 12 KeyLog, 13 recentKeys) -/
section Cx1
variable {d p : Nat} {f : en_T} {Q : en_Q} {v w a b x : Int32}
/-- Port.isFull -/
theorem cv_isFull (hp : p < 6) : en_Ev (d + 1) 26 [.inr (3, p)] f Q = Q (some (.inl (if f.1 4 p 3 = 0 then 0 else 1))) f := by
  simp only [e26, r26_0, r26_1, r26_4, r26_7, r26_10, r26_11, r26_14, r26_15, true_and, and_true, Option.toList_some, Option.toList_none, List.cons_append, List.nil_append, List.length_nil, List.length_cons, Nat.reduceAdd, Nat.reduceLeDiff, Nat.zero_le, cb_0, cb_1, cb_01, cb_i, cb_j, eq_self, hp]
  by_cases h : f.1 4 p 3 = 0 <;> simp [h]
/-- Port.isReadyAs -/
theorem cv_isReadyAs (hp : p < 6) : en_Ev (d + 1) 27 [.inr (3, p), .inl v] f Q = Q (some (.inl (if f.1 3 p 3 = 3 ∧ f.1 3 p 9 = v then 1 else 0))) f := by
  simp only [e27, r27_0, r27_1, r27_4, r27_5, r27_8, r27_9, r27_12, r27_13, r27_16, r27_17, r27_20, r27_21, true_and, and_true, Option.toList_some, Option.toList_none, List.cons_append, List.nil_append, List.length_nil, List.length_cons, Nat.reduceAdd, Nat.reduceLeDiff, Nat.zero_le, cb_0, cb_1, cb_01, cb_i, cb_j, eq_self, hp]
  by_cases h : f.1 3 p 3 = 3 <;> by_cases h2 : f.1 3 p 9 = v <;> simp [h, h2]
def cx_lose (f : en_F) (p : Nat) : en_F := en_up (en_up (en_up f 4 p 3 0) 4 p 8 0) 3 p 1 0
theorem cv_lose (hp : p < 6) : en_Ev (d + 1) 28 [.inr (3, p)] f Q = Q none (cx_lose f.1 p, f.2) := by
  simp only [e28, r28_0, r28_1, r28_4, r28_5, r28_8, r28_9, r28_12, r28_13, r28_16, r28_17, r28_18, r28_21, true_and, and_true, Option.toList_some, Option.toList_none, List.cons_append, List.nil_append, List.length_nil, List.length_cons, Nat.reduceAdd, Nat.reduceLeDiff, Nat.zero_le, cb_0, cb_1, cb_01, cb_i, cb_j, eq_self, hp]; rfl
def cx_leave (f : en_F) (p : Nat) (v : Int32) : en_F := en_up (en_up (en_up f 3 p 3 v) 3 p 1 0) 3 p 4 0
theorem cv_leave (hp : p < 6) : en_Ev (d + 1) 29 [.inr (3, p), .inl v] f Q = Q none (cx_leave f.1 p v, f.2) := by
  simp only [e29, r29_0, r29_1, r29_2, r29_5, r29_6, r29_7, r29_10, r29_11, r29_12, r29_15, true_and, and_true, Option.toList_some, Option.toList_none, List.cons_append, List.nil_append, List.length_nil, List.length_cons, Nat.reduceAdd, Nat.reduceLeDiff, Nat.zero_le, cb_0, cb_1, cb_01, cb_i, cb_j, eq_self, hp]; rfl
def cx_rest (f : en_F) (p : Nat) : en_F := en_up (en_up (en_up f 5 p 3 0) 5 p 4 0) 5 p 6 0
theorem cv_rest (hp : p < 6) : en_Ev (d + 1) 1 [.inr (5, p)] f Q = Q none (cx_rest f.1 p, f.2) := by
  simp only [e1, r1_0, r1_1, r1_2, r1_5, r1_6, r1_7, r1_10, r1_11, r1_12, r1_15, true_and, and_true, Option.toList_some, Option.toList_none, List.cons_append, List.nil_append, List.length_nil, List.length_cons, Nat.reduceAdd, Nat.reduceLeDiff, Nat.zero_le, cb_0, cb_1, cb_01, cb_i, cb_j, eq_self, hp]; rfl
/-- Disk.mustTakeData, mustMakePacket -/
theorem cv_mustTake (hp : p < 6) : en_Ev (d + 1) 3 [.inr (5, p)] f Q = Q (some (.inl (if f.1 5 p 4 = 2 ∧ 0 < f.1 5 p 6 then 1 else 0))) f := by
  simp only [e3, r3_0, r3_1, r3_4, r3_5, r3_8, r3_9, r3_12, r3_15, r3_16, r3_19, r3_20, true_and, and_true, Option.toList_some, Option.toList_none, List.cons_append, List.nil_append, List.length_nil, List.length_cons, Nat.reduceAdd, Nat.reduceLeDiff, Nat.zero_le, cb_0, cb_1, cb_01, cb_i, cb_j, eq_self, hp]
  trace_state
  sorry
/-- Disk.becomeNew -/
theorem cv_dnew (hp : p < 6) : en_Ev (d + 1) 0 [.inr (5, p), .inl v, .inl w] f Q = Q none (f.1, f.2) := by
  simp only [e0, r0_0, r0_1, r0_2, r0_5, r0_6, r0_7, r0_10, r0_11, r0_12, r0_13, r0_15, r0_18, r0_19, r0_22, r0_23, r0_24, r0_25, r0_28, r0_31, true_and, and_true, Option.toList_some, Option.toList_none, List.cons_append, List.nil_append, List.length_nil, List.length_cons, Nat.reduceAdd, Nat.reduceLeDiff, Nat.zero_le, cb_0, cb_1, cb_01, cb_i, cb_j, eq_self, hp]
  trace_state
  sorry
theorem ts_1 : (8 : Int32) ≤ 3 ↔ False := by simp
theorem ts_2 : (8 : Int32) + 1 = 9 := by simp
theorem ts_3 : (8 : Int32).toNatClampNeg = 8 := by simp
theorem ts_4 : (8 : Int32) / 2 - 1 = 3 := by simp
theorem ts_5 : (5 : Int32) &&& 3 = 1 := by simp
theorem ts_6 : ¬ (8 : Int32) < 3 := by simp only [Int32.reduceLT, not_false_eq_true]
theorem ts_7 : ¬ (8 : Int32) ≤ 3 := by simp only [Int32.reduceLE, not_false_eq_true]
theorem ts_8 : (8 : Int32) + 1 = 9 := by simp only [Int32.reduceAdd]
theorem ts_9 : (8 : Int32) - 1 = 7 := by simp only [Int32.reduceSub]
theorem ts_10 : ¬ (8 : Int32) = 3 := by simp only [Int32.reduceEq, not_false_eq_true]
theorem ts_11 : (8 : Int32) / 2 = 4 := by simp only [Int32.reduceDiv]
theorem ts_12 : (8 : Int32) * 2 = 16 := by simp only [Int32.reduceMul]
end Cx1
