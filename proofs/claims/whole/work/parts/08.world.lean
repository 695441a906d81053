/-! THE ENGINE, fourth part: the cells of a heap that hold a state, and the locals -/
/-- where the cells lie; the classes' numbers and slots; the array classes (100: int, 101: boolean, else by kind) -/
abbrev en_Gg : Type := (Nat → Nat → Nat) × va_G × (Nat → ClassId)
def en_c (G : en_Gg) : en_V → Value
  | .inl x => .int x
  | .inr q => .ref (G.1 q.1 q.2)
theorem en_c1 (G : en_Gg) (v : en_V) : (en_c G v).category = 1 := by cases v <;> rfl
def en_fs (G : en_Gg) (k i : Nat) (f : en_T) : List Value := (List.range (en_N (en_kc k))).map fun j => en_c G (en_rd f k i j)
def en_cell (G : en_Gg) (k i : Nat) (f : en_T) : va_E := match en_kt k with
  | 0 => .inr (en_kc k, en_fs G k i f)
  | 1 => .inl (G.2.2 100, en_ln k, .inl (fun j => en_gt f k i j))
  | 2 => .inl (G.2.2 101, en_ln k, .inl (fun j => en_gt f k i j))
  | _ => .inl (G.2.2 k, en_ln k, .inr (.inr (.inr (.inr (fun j => some (G.1 (en_tk k) j))))))
def en_tys (G : en_Gg) : List (ClassId × FieldType) := [(G.2.2 100, .int), (G.2.2 101, .boolean), (G.2.2 1, .object (en_to 1)), (G.2.2 2, .object (en_to 2))]
theorem en_kt_3 : ∀ k, k < 61 → en_kt k = 3 → k = 1 ∨ k = 2 := by decide +kernel
theorem en_tys_at (G : en_Gg) {k : Nat} (h : en_kt k = 3) : ∃ (t0 : Nat) (C : String), (en_tys G)[t0]? = some (G.2.2 k, .object C) := by
  have hk : k < 61 := by
    by_cases hk : k < 61
    · exact hk
    · unfold en_kt at h
      rw [en_getD_d (by simpa using Nat.le_of_not_lt hk)] at h
      cases h
  rcases en_kt_3 k hk h with rfl | rfl
  · exact ⟨2, _, rfl⟩
  · exact ⟨3, _, rfl⟩
def en_wl (G : en_Gg) (f : en_T) : va_W := en_allc.map fun c => (G.1 c.1 c.2, en_cell G c.1 c.2 f)
def en_A (G : en_Gg) : Nat → Prop := fun q => ∃ c ∈ en_allc, G.1 c.1 c.2 = q
section EnWorld
variable {G : en_Gg} {f : en_T} {k i j q0 : Nat} {x : Int32}
theorem en_pos (h : i < en_cnt k) : ∃ q0 : Nat, en_allc[q0]? = some (k, i) :=
  List.getElem?_of_mem (List.mem_flatMap.mpr ⟨k, List.mem_range.mpr (en_cnt_lt h), List.mem_map.mpr ⟨i, List.mem_range.mpr h, rfl⟩⟩)
theorem en_nd {a b : Nat} {c : Nat × Nat} (h1 : en_allc[a]? = some c) (h2 : en_allc[b]? = some c) : a = b :=
  (List.getElem?_inj (List.getElem?_eq_some_iff.mp h1).1 en_allc_nd).mp (h1.trans h2.symm)
theorem en_wl_at (h : en_allc[q0]? = some (k, i)) : (en_wl G f)[q0]? = some (G.1 k i, en_cell G k i f) := by
  simp [en_wl, List.getElem?_map, h]
theorem en_gt_ne {k' i' j' : Nat} (h : (k', i') ≠ (k, i)) : en_gt (en_st f k i j x) k' i' j' = en_gt f k' i' j' := by
  have h2 : ¬ (k' = k ∧ i' = i ∧ j' = j) := fun q => h (by rw [q.1, q.2.1])
  unfold en_gt en_st
  by_cases h1 : k < 16 <;> by_cases h3 : k' < 16 <;> simp [h1, h3, en_up, h2]
theorem en_gt_st {j' : Nat} : en_gt (en_st f k i j x) k i j' = if j' = j then x else en_gt f k i j' := by
  unfold en_gt en_st
  by_cases h1 : k < 16 <;> simp [h1, en_up]
theorem en_rd_ne {k' i' j' : Nat} (h : (k', i') ≠ (k, i)) : en_rd (en_st f k i j x) k' i' j' = en_rd f k' i' j' := by
  unfold en_rd
  split
  · rfl
  · rw [en_gt_ne h]
theorem en_cell_ne {k' i' : Nat} (h : (k', i') ≠ (k, i)) : en_cell G k' i' (en_st f k i j x) = en_cell G k' i' f := by
  unfold en_cell en_fs
  simp only [en_gt_ne h, en_rd_ne h]
theorem en_wl_set (h : en_allc[q0]? = some (k, i)) : (en_wl G f).set q0 (G.1 k i, en_cell G k i (en_st f k i j x)) = en_wl G (en_st f k i j x) := by
  have hl : q0 < (en_wl G f).length := (List.getElem?_eq_some_iff.mp (en_wl_at (G := G) (f := f) h)).1
  apply List.ext_getElem?
  intro q
  by_cases hq : q = q0
  · subst hq
    rw [List.getElem?_set_self hl, en_wl_at h]
  · rw [List.getElem?_set_ne (Ne.symm hq)]
    cases hc : en_allc[q]? with
    | none => simp [en_wl, hc]
    | some c =>
      obtain ⟨k', i'⟩ := c
      have hne : (k', i') ≠ (k, i) := fun z => hq (en_nd (z ▸ hc) h)
      rw [en_wl_at hc, en_wl_at hc, en_cell_ne hne]
theorem en_cell_o (h : en_kt k = 0) : en_cell G k i f = .inr (en_kc k, en_fs G k i f) := by unfold en_cell; rw [h]; rfl
theorem en_cell_i (h : en_kt k = 1) : en_cell G k i f = .inl (G.2.2 100, en_ln k, .inl (fun j => en_gt f k i j)) := by unfold en_cell; rw [h]; rfl
theorem en_cell_z (h : en_kt k = 2) : en_cell G k i f = .inl (G.2.2 101, en_ln k, .inl (fun j => en_gt f k i j)) := by unfold en_cell; rw [h]; rfl
theorem en_cell_q (h : en_kt k = 3) : en_cell G k i f = .inl (G.2.2 k, en_ln k, .inr (.inr (.inr (.inr (fun j => some (G.1 (en_tk k) j)))))) := by unfold en_cell; rw [h]; rfl
theorem en_fs_at (h : j < en_N (en_kc k)) : (en_fs G k i f)[j]? = some (en_c G (en_rd f k i j)) := by simp [en_fs, h]
theorem en_fs_len : (en_fs G k i f).length = en_N (en_kc k) := by simp [en_fs]
theorem en_fs_set (h : j < en_N (en_kc k)) (hr : en_fr k j = none) : (en_fs G k i f).set j (.int x) = en_fs G k i (en_st f k i j x) := by
  apply List.ext_getElem?
  intro q
  by_cases hq : q = j
  · subst hq
    rw [List.getElem?_set_self (by rw [en_fs_len]; exact h), en_fs_at h]
    unfold en_rd
    rw [hr, en_gt_st, if_pos rfl]
    rfl
  · rw [List.getElem?_set_ne (Ne.symm hq)]
    by_cases hn : q < en_N (en_kc k)
    · rw [en_fs_at hn, en_fs_at hn]
      unfold en_rd
      rw [en_gt_st, if_neg hq]
    · rw [List.getElem?_eq_none (by rw [en_fs_len]; omega), List.getElem?_eq_none (by rw [en_fs_len]; omega)]
theorem en_ar_set {n : Nat} : (upd (fun j => en_gt f k i j) n x) = fun j => en_gt (en_st f k i n x) k i j := by
  funext j
  rw [en_gt_st]
  rfl
theorem en_in {n : Nat} (h : en_inr x n = true) : vp_in x n := by
  unfold en_inr at h
  unfold vp_in
  simp only [Bool.and_eq_true, Bool.not_eq_true', decide_eq_false_iff_not] at h
  intro q
  rcases q with q | q
  · exact h.1 q
  · exact h.2 q
theorem en_isz_or (h : en_isz x = true) : x = 0 ∨ x = 1 := by
  unfold en_isz at h
  simpa using h
theorem en_isz_nar (h : en_isz x = true) : narrow .boolean (.int x) = .int x := by
  rcases en_isz_or h with rfl | rfl <;> rfl
theorem en_isz_fit (h : en_isz x = true) : fits .boolean (.int x) = true := by
  rcases en_isz_or h with rfl | rfl <;> rfl
theorem en_isz_vp (h : en_isz x = true) : vp_nar .boolean x = x := by
  rcases en_isz_or h with rfl | rfl <;> rfl
end EnWorld
def en_loc (G : en_Gg) (ls : Array Slot) (nL : Nat) (lo : en_L) : Prop := ls.size = nL ∧ lv_wf ls ∧ lo.length = nL ∧ ∀ (i : Nat) (v : en_V), lo[i]? = some (some v) → ls[i]? = some (.val (en_c G v))
def en_lv (G : en_Gg) (lo : en_L) : List (Nat × Value) := (List.range lo.length).filterMap fun i => match lo[i]? with
  | some (some v) => some (i, en_c G v)
  | _ => none
section EnLoc
variable {G : en_Gg} {ls : Array Slot} {nL : Nat} {lo : en_L} {i : Nat} {v : en_V}
theorem en_lv_mem (h : lo[i]? = some (some v)) : (i, en_c G v) ∈ en_lv G lo :=
  List.mem_filterMap.mpr ⟨i, List.mem_range.mpr (List.getElem?_eq_some_iff.mp h).1, by rw [h]⟩
theorem en_lv_of {q : Nat × Value} (h : q ∈ en_lv G lo) : ∃ v, lo[q.1]? = some (some v) ∧ q.2 = en_c G v := by
  obtain ⟨i, -, hi⟩ := List.mem_filterMap.mp h
  split at hi
  next v hv => cases hi; exact ⟨v, hv, rfl⟩
  next => cases hi
theorem en_has (h : en_loc G ls nL lo) : lv_has ls nL (en_lv G lo) := ⟨h.1, h.2.1, fun q hq => by
  obtain ⟨v, h1, h2⟩ := en_lv_of hq
  rw [h2]
  exact h.2.2.2 q.1 v h1⟩
theorem en_loc_set {ls' : Array Slot} (h : en_loc G ls nL lo) (h' : lv_has ls' nL ((i, en_c G v) :: (en_lv G lo).filter (fun q => !(q.1 == i) && !(q.1 + 1 == i && q.2.category == 2)))) : en_loc G ls' nL (lo.set i (some v)) := by
  refine ⟨h'.1, h'.2.1, by rw [List.length_set]; exact h.2.2.1, fun j w hj => ?_⟩
  by_cases hij : j = i
  · subst hij
    have hlt : j < lo.length := by
      have := (List.getElem?_eq_some_iff.mp hj).1
      rwa [List.length_set] at this
    rw [List.getElem?_set_self hlt] at hj
    cases hj
    exact h'.2.2 (j, en_c G v) List.mem_cons_self
  · rw [List.getElem?_set_ne (fun z => hij z.symm)] at hj
    refine h'.2.2 (j, en_c G w) (List.mem_cons_of_mem _ (List.mem_filter.mpr ⟨en_lv_mem hj, ?_⟩))
    simp [hij, en_c1]
end EnLoc
theorem en_cat (G : en_Gg) (r : List en_V) : ((r.map (en_c G)).map fun v => v.category).sum = r.length := by
  induction r with
  | nil => rfl
  | cons a t ih =>
    simp only [List.map_cons, List.sum_cons, List.length_cons, ih, en_c1]
    omega
theorem en_app (G : en_Gg) (r : Option en_V) (rest : List en_V) : (r.toList ++ rest).map (en_c G) = (r.map (en_c G)).toList ++ rest.map (en_c G) := by
  cases r <;> rfl
theorem en_sl (G : en_Gg) (a : List en_V) : lg_sl (a.map (en_c G)) = a.map fun v => Slot.val (en_c G v) := by
  induction a with
  | nil => rfl
  | cons v t ih =>
    have e : lg_sl ((v :: t).map (en_c G)) = (if (en_c G v).category = 2 then [Slot.val (en_c G v), .second] else [.val (en_c G v)]) ++ lg_sl (t.map (en_c G)) := rfl
    rw [e, ih, en_c1]
    rfl
theorem en_loc_entry (G : en_Gg) (a : List en_V) (n : Nat) (h : a.length ≤ n) : en_loc G ((lg_sl (a.map (en_c G)) ++ List.replicate (n - (lg_sl (a.map (en_c G))).length) Slot.unset).toArray) n (a.map some ++ List.replicate (n - a.length) none) := by
  have hl : (lg_sl (a.map (en_c G))).length = a.length := by rw [en_sl]; simp
  have h1 := lv_entry (a.map (en_c G)) (n := n) (by rw [hl]; exact h)
  refine ⟨h1.1, h1.2.1, by simp; omega, fun i v hi => ?_⟩
  by_cases hx : i < a.length
  · rw [List.getElem?_append_left (by simpa using hx)] at hi
    have hv : a[i]? = some v := by
      rw [List.getElem?_map] at hi
      cases hq : a[i]? with
      | none => rw [hq] at hi; cases hi
      | some w => rw [hq] at hi; cases hi; rfl
    rw [List.getElem?_toArray, List.getElem?_append_left (by rw [hl]; exact hx), en_sl, List.getElem?_map, hv]
    rfl
  · rw [List.getElem?_append_right (by simpa using Nat.le_of_not_lt hx)] at hi
    rw [List.getElem?_replicate] at hi
    split at hi <;> cases hi
