/-! THE CLASS AS PURE FUNCTIONS, 2: Order, Line, KeyLog -/
section Cx2
variable {d p k n m : Nat} {f : en_T} {Q : en_Q} {v w a b x : Int32}
-- Order.goesOut
set_option maxRecDepth 100000 in
set_option maxHeartbeats 4000000 in
theorem cv_goesOut (hk : k < 16) : en_Ev (d + 1) 8 [.inr (8, k), .inl v] f Q = Q (some (.inl (if v = 0 ∨ (¬ f.1 8 k 5 = 0 ∧ ¬ f.1 8 k 4 < v) then 1 else 0))) f := by
  simp only [e8, r8_0, r8_1, r8_4, r8_5, r8_8, r8_11, r8_12, r8_13, r8_16, r8_19, r8_20, r8_23, r8_24, true_and, and_true, Option.toList_some, Option.toList_none, List.cons_append, List.nil_append, List.length_nil, List.length_cons, Nat.reduceAdd, Nat.reduceLeDiff, Nat.zero_le, cb_0, cb_1, cb_01, cb_i, cb_j, eq_self, cb_le, cb_nn, ↓reduceIte, en_ua, Nat.reduceEqDiff, false_and, and_false, and_self, hk]
  by_cases h : v = 0 <;> by_cases h2 : f.1 8 k 5 = 0 <;> by_cases h3 : f.1 8 k 4 < v <;> simp [h, h2, h3]
def cx_packetAt (f : en_F) (k : Nat) (v : Int32) : Int32 := if 0 < v then f 8 k 6 + v - 1 else f 8 k 4 ||| f 8 k 3 <<< ((3 : Int32) &&& 31) ||| (if f 8 k 5 = 0 then 0 else 64)
set_option maxRecDepth 100000 in
set_option maxHeartbeats 4000000 in
theorem cv_packetAt (hk : k < 16) : en_Ev (d + 1) 9 [.inr (8, k), .inl v] f Q = Q (some (.inl (cx_packetAt f.1 k v))) f := by
  simp only [e9, r9_0, r9_1, r9_4, r9_5, r9_8, r9_9, r9_10, r9_11, r9_12, r9_13, r9_14, r9_17, r9_18, r9_21, r9_22, r9_23, r9_24, r9_25, r9_28, r9_31, r9_33, r9_36, r9_37, r9_38, true_and, and_true, Option.toList_some, Option.toList_none, List.cons_append, List.nil_append, List.length_nil, List.length_cons, Nat.reduceAdd, Nat.reduceLeDiff, Nat.zero_le, cb_0, cb_1, cb_01, cb_i, cb_j, eq_self, cb_le, cb_nn, ↓reduceIte, en_ua, Nat.reduceEqDiff, false_and, and_false, and_self, hk]
  unfold cx_packetAt
  by_cases h : 0 < v <;> by_cases h2 : f.1 8 k 5 = 0 <;> simp [h, h2]
def cx_keep (f : en_F) (k : Nat) (v : Int32) : en_F := if f 8 k 1 < 4 then en_up (en_up f 9 k (f 8 k 1).toNatClampNeg v) 8 k 1 (f 8 k 1 + 1) else f
set_option maxRecDepth 100000 in
set_option maxHeartbeats 4000000 in
theorem cv_keep (hk : k < 16) (h0 : ¬ f.1 8 k 1 < 0) : en_Ev (d + 1) 10 [.inr (8, k), .inl v] f Q = Q none (cx_keep f.1 k v, f.2) := by
  simp only [e10, r10_0, r10_1, r10_4, r10_5, r10_8, r10_9, r10_12, r10_13, r10_16, r10_17, r10_18, r10_19, r10_20, r10_23, r10_24, r10_25, r10_28, true_and, and_true, Option.toList_some, Option.toList_none, List.cons_append, List.nil_append, List.length_nil, List.length_cons, Nat.reduceAdd, Nat.reduceLeDiff, Nat.zero_le, cb_0, cb_1, cb_01, cb_i, cb_j, eq_self, cb_le, cb_nn, ↓reduceIte, en_ua, Nat.reduceEqDiff, false_and, and_false, and_self, hk]
  unfold cx_keep
  by_cases h : f.1 8 k 1 < 4
  · have h1 : en_inr (f.1 8 k 1) 4 = true := cb_rg (m := 4) rfl (by decide) h0 h
    simp [h, h1]
  · simp [h]
set_option maxRecDepth 100000 in
set_option maxHeartbeats 4000000 in
theorem cv_takenNumber (hk : k < 16) (h4 : ¬ 4 < f.1 8 k 1) : en_Ev (d + 1) 11 [.inr (8, k), .inl v] f Q = Q (some (.inl (if ¬ v < 0 ∧ v < f.1 8 k 1 then f.1 9 k v.toNatClampNeg else 0))) f := by
  simp only [e11, r11_0, r11_1, r11_4, r11_5, r11_6, r11_9, r11_12, r11_13, r11_16, r11_17, r11_18, r11_21, r11_22, true_and, and_true, Option.toList_some, Option.toList_none, List.cons_append, List.nil_append, List.length_nil, List.length_cons, Nat.reduceAdd, Nat.reduceLeDiff, Nat.zero_le, cb_0, cb_1, cb_01, cb_i, cb_j, eq_self, cb_le, cb_nn, ↓reduceIte, en_ua, Nat.reduceEqDiff, false_and, and_false, and_self, hk]
  by_cases h : v < 0
  · simp [h]
  · by_cases h2 : v < f.1 8 k 1
    · have h3 : v < 4 := Int32.lt_of_lt_of_le h2 (by simpa using h4)
      have h1 : en_inr v 4 = true := cb_rg (m := 4) rfl (by decide) h h3
      simp [h, h2, h1]
    · simp [h, h2]
def cx_end (f : en_F) (k : Nat) (v : Int32) : en_F := if f 8 k 7 = 0 then en_up f 8 k 7 v else f
set_option maxRecDepth 100000 in
set_option maxHeartbeats 4000000 in
theorem cv_end (hk : k < 16) : en_Ev (d + 1) 12 [.inr (8, k), .inl v] f Q = Q none (cx_end f.1 k v, f.2) := by
  simp only [e12, r12_0, r12_1, r12_4, r12_7, r12_8, r12_9, r12_12, true_and, and_true, Option.toList_some, Option.toList_none, List.cons_append, List.nil_append, List.length_nil, List.length_cons, Nat.reduceAdd, Nat.reduceLeDiff, Nat.zero_le, cb_0, cb_1, cb_01, cb_i, cb_j, eq_self, cb_le, cb_nn, ↓reduceIte, en_ua, Nat.reduceEqDiff, false_and, and_false, and_self, hk]
  unfold cx_end
  by_cases h : f.1 8 k 7 = 0 <;> simp [h]
-- Line
theorem cx_p40 {n m : Nat} (hn : n < 40) (h1 : 1 ≤ m) (hm : m ≤ 40) : (nI n + nI m - 1) - (nI n + nI m - 1) / 40 * 40 = nI ((n + m - 1) % 40) :=
  cr_rem (by rw [nI_add, show (1 : Int32) = nI 1 from rfl, pk_sub (by omega)]) (m := 40) rfl (by omega) (by omega) (by omega)
set_option maxRecDepth 100000 in
set_option maxHeartbeats 4000000 in
theorem cv_plan (hn : n < 40) (h : f.1 10 0 1 = nI n) (h1 : 1 ≤ m) (hm : m ≤ 40) : en_Ev (d + 1) 13 [.inr (10, 0), .inl (nI m), .inl v] f Q = Q none (en_up f.1 11 0 ((n + m - 1) % 40) (if v = 3 then 0 else v + 1), f.2) := by
  have h2 : (n + m - 1) % 40 < 40 := Nat.mod_lt _ (by omega)
  have h3 : en_inr (nI ((n + m - 1) % 40)) 40 = true := cb_in h2 (by omega)
  have h4 : (nI ((n + m - 1) % 40)).toNatClampNeg = (n + m - 1) % 40 := nI_clamp (by omega)
  have h5 : ¬ (40 : Int32) = 0 := by decide
  simp only [e13, r13_0, r13_1, r13_4, r13_5, r13_8, r13_9, r13_10, r13_11, r13_12, r13_14, r13_15, r13_16, r13_17, r13_20, r13_21, r13_24, r13_25, r13_26, r13_27, r13_28, true_and, and_true, Option.toList_some, Option.toList_none, List.cons_append, List.nil_append, List.length_nil, List.length_cons, Nat.reduceAdd, Nat.reduceLeDiff, Nat.zero_le, cb_0, cb_1, cb_01, cb_i, cb_j, eq_self, cb_le, cb_nn, ↓reduceIte, en_ua, Nat.reduceEqDiff, false_and, and_false, and_self, h, cx_p40 hn h1 hm, h3, h4, h5, not_false_eq_true]
  by_cases h6 : v = 3 <;> simp [h6, h3, h4]
def cx_nx (f : en_F) (n : Nat) : en_F := en_up (en_up (en_up f 11 0 n 0) 10 0 1 (nI ((n + 1) % 40))) 10 0 2 (f 10 0 2 + 1)
theorem cx_n40 {n : Nat} (hn : n < 40) : (nI n + 1) - (nI n + 1) / 40 * 40 = nI ((n + 1) % 40) :=
  cr_rem (by rw [nI_1]) (m := 40) rfl (by omega) (by omega) (by omega)
set_option maxRecDepth 100000 in
set_option maxHeartbeats 4000000 in
theorem cv_nx (hn : n < 40) (h : f.1 10 0 1 = nI n) : en_Ev (d + 1) 14 [.inr (10, 0)] f Q = Q (some (.inl (if f.1 11 0 n = 0 then 3 else f.1 11 0 n - 1))) (cx_nx f.1 n, f.2) := by
  have h3 : en_inr (nI n) 40 = true := cb_in hn (by omega)
  have h4 : (nI n).toNatClampNeg = n := nI_clamp (by omega)
  have h5 : ¬ (40 : Int32) = 0 := by decide
  simp only [e14, r14_0, r14_1, r14_4, r14_5, r14_8, r14_9, r14_10, r14_11, r14_14, r14_15, r14_18, r14_19, r14_20, r14_21, r14_22, r14_25, r14_26, r14_27, r14_29, r14_30, r14_33, r14_34, r14_35, r14_38, r14_39, r14_40, r14_43, r14_44, r14_47, r14_48, r14_51, r14_52, r14_53, r14_54, true_and, and_true, Option.toList_some, Option.toList_none, List.cons_append, List.nil_append, List.length_nil, List.length_cons, Nat.reduceAdd, Nat.reduceLeDiff, Nat.zero_le, cb_0, cb_1, cb_01, cb_i, cb_j, eq_self, cb_le, cb_nn, ↓reduceIte, en_ua, Nat.reduceEqDiff, false_and, and_false, and_self, h, cx_n40 hn, h3, h4, h5, not_false_eq_true]
  by_cases h6 : f.1 11 0 n = 0 <;> simp [h6, cx_nx]
-- KeyLog
def cx_add (f : en_F) (n : Nat) (v : Int32) : en_F := en_up (en_up (en_up f 13 0 n v) 12 0 1 (nI ((n + 1) % 8))) 12 0 2 (f 12 0 2 + 1)
theorem cx_n8 {n : Nat} (hn : n < 8) : (nI n + 1) - (nI n + 1) / 8 * 8 = nI ((n + 1) % 8) :=
  cr_rem (by rw [nI_1]) (m := 8) rfl (by omega) (by omega) (by omega)
set_option maxRecDepth 100000 in
set_option maxHeartbeats 4000000 in
theorem cv_add (hn : n < 8) (h : f.1 12 0 1 = nI n) : en_Ev (d + 1) 15 [.inr (12, 0), .inl v] f Q = Q none (cx_add f.1 n v, f.2) := by
  have h3 : en_inr (nI n) 8 = true := cb_in hn (by omega)
  have h4 : (nI n).toNatClampNeg = n := nI_clamp (by omega)
  have h5 : ¬ (8 : Int32) = 0 := by decide
  simp only [e15, r15_0, r15_1, r15_4, r15_5, r15_8, r15_9, r15_10, r15_11, r15_12, r15_15, r15_16, r15_17, r15_19, r15_20, r15_23, r15_24, r15_25, r15_28, r15_29, r15_30, r15_33, true_and, and_true, Option.toList_some, Option.toList_none, List.cons_append, List.nil_append, List.length_nil, List.length_cons, Nat.reduceAdd, Nat.reduceLeDiff, Nat.zero_le, cb_0, cb_1, cb_01, cb_i, cb_j, eq_self, cb_le, cb_nn, ↓reduceIte, en_ua, Nat.reduceEqDiff, false_and, and_false, and_self, h, cx_n8 hn, h3, h4, h5, not_false_eq_true]
  rfl
theorem cx_b8 {n m : Nat} (hn : n < 8) (hm : m < 8) : (nI n + 8 - 1 - nI m) - (nI n + 8 - 1 - nI m) / 8 * 8 = nI ((n + 7 - m) % 8) :=
  cr_rem (by rw [show (8 : Int32) = nI 8 from rfl, nI_add, show (1 : Int32) = nI 1 from rfl, pk_sub (by omega), pk_sub (by omega)]; rfl) (m := 8) rfl (by omega) (by omega) (by omega)
def cx_recent (f : en_F) (n : Nat) (v : Int32) : Int32 := if ¬ v < 0 ∧ v < 8 ∧ v < f 12 0 2 then f 13 0 ((n + 7 - v.toNatClampNeg) % 8) else -1
set_option maxRecDepth 100000 in
set_option maxHeartbeats 4000000 in
theorem cv_recent (hn : n < 8) (h : f.1 12 0 1 = nI n) : en_Ev (d + 1) 16 [.inr (12, 0), .inl v] f Q = Q (some (.inl (cx_recent f.1 n v))) f := by
  have h5 : ¬ (8 : Int32) = 0 := by decide
  by_cases h1 : v < 0
  · simp only [e16, r16_0, r16_1, r16_4, r16_5, r16_7, r16_10, r16_11, r16_12, r16_15, r16_18, r16_19, r16_20, r16_21, r16_24, r16_25, r16_28, r16_30, r16_31, r16_32, r16_33, r16_34, r16_35, r16_37, r16_38, r16_39, true_and, and_true, Option.toList_some, Option.toList_none, List.cons_append, List.nil_append, List.length_nil, List.length_cons, Nat.reduceAdd, Nat.reduceLeDiff, Nat.zero_le, cb_0, cb_1, cb_01, cb_i, cb_j, eq_self, cb_le, cb_nn, ↓reduceIte, en_ua, Nat.reduceEqDiff, false_and, and_false, and_self, h, h1]
    simp [cx_recent, h1]
  · by_cases h2 : v < 8
    · obtain ⟨j, hj, rfl⟩ := cb_ix v (n := 8) (by omega) h1 h2
      have h6 : (n + 7 - j) % 8 < 8 := Nat.mod_lt _ (by omega)
      have h3 : en_inr (nI ((n + 7 - j) % 8)) 8 = true := cb_in h6 (by omega)
      have h4 : (nI ((n + 7 - j) % 8)).toNatClampNeg = (n + 7 - j) % 8 := nI_clamp (by omega)
      have h7 : (nI j).toNatClampNeg = j := nI_clamp (by omega)
      simp only [e16, r16_0, r16_1, r16_4, r16_5, r16_7, r16_10, r16_11, r16_12, r16_15, r16_18, r16_19, r16_20, r16_21, r16_24, r16_25, r16_28, r16_30, r16_31, r16_32, r16_33, r16_34, r16_35, r16_37, r16_38, r16_39, true_and, and_true, Option.toList_some, Option.toList_none, List.cons_append, List.nil_append, List.length_nil, List.length_cons, Nat.reduceAdd, Nat.reduceLeDiff, Nat.zero_le, cb_0, cb_1, cb_01, cb_i, cb_j, eq_self, cb_le, cb_nn, ↓reduceIte, en_ua, Nat.reduceEqDiff, false_and, and_false, and_self, h, h1, h2, cx_b8 hn hj, h3, h4, h5, not_false_eq_true]
      by_cases h8 : nI j < f.1 12 0 2 <;> simp [cx_recent, h1, h2, h7, h8]
    · simp only [e16, r16_0, r16_1, r16_4, r16_5, r16_7, r16_10, r16_11, r16_12, r16_15, r16_18, r16_19, r16_20, r16_21, r16_24, r16_25, r16_28, r16_30, r16_31, r16_32, r16_33, r16_34, r16_35, r16_37, r16_38, r16_39, true_and, and_true, Option.toList_some, Option.toList_none, List.cons_append, List.nil_append, List.length_nil, List.length_cons, Nat.reduceAdd, Nat.reduceLeDiff, Nat.zero_le, cb_0, cb_1, cb_01, cb_i, cb_j, eq_self, cb_le, cb_nn, ↓reduceIte, en_ua, Nat.reduceEqDiff, false_and, and_false, and_self, h, h1, h2, not_false_eq_true]
      simp [cx_recent, h2]
end Cx2
