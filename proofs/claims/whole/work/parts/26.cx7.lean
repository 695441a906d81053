/-! THE CLASS AS PURE FUNCTIONS, 7: what every state keeps (cx_OK) -/
section Cx7
variable {p k n m q i j : Nat} {f g : en_F} {v w a b x : Int32}
def cx_sl (f : en_F) : Nat := (f 0 0 6).toNatClampNeg
def cx_tn (f : en_F) (k : Nat) : Nat := (f 8 k 1).toNatClampNeg
def cx_op (f : en_F) (k : Nat) : Nat := (f 8 k 2).toNatClampNeg
def cx_OK (f : en_F) : Prop := cx_ok f ∧ (cx_sl f < 6 ∧ f 0 0 6 = nI (cx_sl f)) ∧ (∀ k, k < 16 → cx_tn f k ≤ 4 ∧ f 8 k 1 = nI (cx_tn f k)) ∧ ∀ k, k < cx_oc f → cx_op f k < 6 ∧ f 8 k 2 = nI (cx_op f k)
/-- the slots of which cx_OK speaks -/
def cx_sp (k j : Nat) : Prop := (k = 10 ∧ j = 1) ∨ (k = 0 ∧ j = 4) ∨ (k = 12 ∧ j = 1) ∨ (k = 4 ∧ j = 2) ∨ (k = 8 ∧ j = 1) ∨ (k = 0 ∧ j = 6) ∨ (k = 8 ∧ j = 2)
theorem OK_of (h : ∀ k i j, cx_sp k j → g k i j = f k i j) (ok : cx_OK f) : cx_OK g := by
  have e1 : g 10 0 1 = f 10 0 1 := h _ _ _ (by unfold cx_sp; omega)
  have e2 : g 0 0 4 = f 0 0 4 := h _ _ _ (by unfold cx_sp; omega)
  have e3 : g 12 0 1 = f 12 0 1 := h _ _ _ (by unfold cx_sp; omega)
  have e4 : ∀ p, g 4 p 2 = f 4 p 2 := fun p => h _ _ _ (by unfold cx_sp; omega)
  have e5 : ∀ p, g 8 p 1 = f 8 p 1 := fun p => h _ _ _ (by unfold cx_sp; omega)
  have e6 : g 0 0 6 = f 0 0 6 := h _ _ _ (by unfold cx_sp; omega)
  have e7 : ∀ p, g 8 p 2 = f 8 p 2 := fun p => h _ _ _ (by unfold cx_sp; omega)
  unfold cx_OK cx_ok cx_ln cx_oc cx_kn cx_cn cx_sl cx_tn cx_op at ok ⊢
  simp only [e1, e2, e3, e4, e5, e6, e7]
  exact ok
theorem OK_up (ok : cx_OK f) (h : ¬ cx_sp k j) : cx_OK (en_up f k i j x) := by
  refine OK_of (fun k' i' j' hs => ?_) ok
  unfold en_up
  rw [if_neg]
  intro q
  exact h (by rw [← q.1, ← q.2.2]; exact hs)
theorem sp_no {k j : Nat} (h : ¬ ((k = 10 ∧ j = 1) ∨ (k = 0 ∧ j = 4) ∨ (k = 12 ∧ j = 1) ∨ (k = 4 ∧ j = 2) ∨ (k = 8 ∧ j = 1) ∨ (k = 0 ∧ j = 6) ∨ (k = 8 ∧ j = 2))) : ¬ cx_sp k j := h
theorem OK_lose (ok : cx_OK f) : cx_OK (cx_lose f p) := OK_up (OK_up (OK_up ok (sp_no (by omega))) (sp_no (by omega))) (sp_no (by omega))
theorem OK_leave (ok : cx_OK f) : cx_OK (cx_leave f p v) := OK_up (OK_up (OK_up ok (sp_no (by omega))) (sp_no (by omega))) (sp_no (by omega))
theorem OK_rest (ok : cx_OK f) : cx_OK (cx_rest f p) := OK_up (OK_up (OK_up ok (sp_no (by omega))) (sp_no (by omega))) (sp_no (by omega))
theorem OK_dres (ok : cx_OK f) : cx_OK (cx_dres f p) := OK_rest (OK_up (OK_up (OK_up (OK_up (OK_up (OK_up ok (sp_no (by omega))) (sp_no (by omega))) (sp_no (by omega))) (sp_no (by omega))) (sp_no (by omega))) (sp_no (by omega)))
theorem OK_reset (ok : cx_OK f) : cx_OK (cx_reset f p v) := OK_up (OK_up (OK_up (OK_up (OK_up (OK_up (OK_dres (OK_up ok (sp_no (by omega)))) (sp_no (by omega))) (sp_no (by omega))) (sp_no (by omega))) (sp_no (by omega))) (sp_no (by omega))) (sp_no (by omega))
theorem OK_relO (ok : cx_OK f) : cx_OK (cx_relO f p n) := OK_of (fun k i j hs => cx_relO_r (by unfold cx_sp at hs; omega)) ok
theorem OK_rel (ok : cx_OK f) : cx_OK (cx_rel f p n) := OK_relO (OK_leave ok)
theorem OK_det (ok : cx_OK f) : cx_OK (cx_det f p n) := by
  unfold cx_det
  split
  · exact OK_rel (OK_rel (OK_rel ok))
  · exact OK_rel ok
theorem OK_hear (ok : cx_OK f) : cx_OK (cx_hear f p v n) := by
  unfold cx_hear
  split
  · exact ok
  · split
    · exact OK_det ok
    · exact OK_up (OK_det ok) (sp_no (by omega))
theorem OK_detF (ok : cx_OK f) : cx_OK (cx_detF f p n) := OK_up (OK_det ok) (sp_no (by omega))
theorem OK_tell (ok : cx_OK f) : cx_OK (cx_tell f p).2 := by
  unfold cx_tell
  split
  · exact ok
  · exact OK_up ok (sp_no (by omega))
theorem OK_own1 (ok : cx_OK f) : cx_OK (cx_own1 f p n) := OK_hear (OK_tell ok)
theorem OK_own (ok : cx_OK f) : cx_OK (cx_own f n) := OK_own1 (OK_own1 ok)
theorem OK_mark (ok : cx_OK f) : cx_OK (cx_mark f p) := by
  unfold cx_mark
  split
  · exact OK_up ok (sp_no (by omega))
  · exact ok
theorem OK_conf (ok : cx_OK f) : cx_OK (cx_conf f p) := by
  unfold cx_conf
  split
  · exact OK_up (OK_up (OK_up ok (sp_no (by omega))) (sp_no (by omega))) (sp_no (by omega))
  · exact OK_up ok (sp_no (by omega))
theorem OK_learn (ok : cx_OK f) : cx_OK (cx_learn f p q) := OK_up (OK_up (OK_up (OK_up ok (sp_no (by omega))) (sp_no (by omega))) (sp_no (by omega))) (sp_no (by omega))
theorem OK_takeC (ok : cx_OK f) : cx_OK (cx_takeC f p v) := OK_up (OK_up (OK_up (OK_up ok (sp_no (by omega))) (sp_no (by omega))) (sp_no (by omega))) (sp_no (by omega))
theorem OK_take (ok : cx_OK f) : cx_OK (cx_take f p v) := by
  unfold cx_take
  split
  · exact OK_takeC ok
  · split
    · exact OK_up (OK_up (OK_up ok (sp_no (by omega))) (sp_no (by omega))) (sp_no (by omega))
    · exact ok
theorem OK_kmake (ok : cx_OK f) : cx_OK (cx_kmake f p).2 := by
  unfold cx_kmake
  split
  · exact OK_up ok (sp_no (by omega))
  · exact OK_up (OK_up ok (sp_no (by omega))) (sp_no (by omega))
theorem OK_agrees (ok : cx_OK f) : cx_OK (cx_agrees f p v w).2 := by
  unfold cx_agrees
  split
  · split
    · exact OK_up ok (sp_no (by omega))
    · exact OK_up (OK_take ok) (sp_no (by omega))
  · exact ok
theorem OK_hold (ok : cx_OK f) : cx_OK (cx_hold f p v) := OK_up (OK_up ok (sp_no (by omega))) (sp_no (by omega))
theorem OK_letGo (ok : cx_OK f) : cx_OK (cx_letGo f p) := OK_up (OK_up ok (sp_no (by omega))) (sp_no (by omega))
/-- the number of codes is set anew -/
theorem OK_cod (ok : cx_OK f) (hn : n ≤ 4) : cx_OK (en_up f 4 p 2 (nI n)) := by
  obtain ⟨⟨a1, a2, a3, a4⟩, b1, b2, b3⟩ := ok
  refine ⟨⟨a1, a2, a3, fun q hq => ?_⟩, b1, b2, b3⟩
  unfold cx_cn
  by_cases e : q = p
  · subst e
    have : en_up f 4 q 2 (nI n) 4 q 2 = nI n := by simp [en_up]
    rw [this, nI_clamp (by omega)]
    exact ⟨hn, rfl⟩
  · have : en_up f 4 p 2 (nI n) 4 q 2 = f 4 q 2 := by simp [en_up, e]
    rw [this]
    exact a4 q hq
theorem OK_hold1 (ok : cx_OK f) : cx_OK (cx_hold1 f p n) := by
  unfold cx_hold1
  split
  · exact ok
  · exact OK_cod (n := 0) (OK_hold ok) (by omega)
  · exact OK_up (OK_cod (n := 1) (OK_hold ok) (by omega)) (sp_no (by omega))
  · exact OK_up (OK_up (OK_cod (n := 2) (OK_hold ok) (by omega)) (sp_no (by omega))) (sp_no (by omega))
  · exact OK_up (OK_up (OK_up (OK_cod (n := 3) (OK_hold ok) (by omega)) (sp_no (by omega))) (sp_no (by omega))) (sp_no (by omega))
theorem OK_holdK (ok : cx_OK f) : cx_OK (cx_holdK f p) := by
  unfold cx_holdK
  split
  · split
    · exact OK_hold (OK_kmake ok)
    · exact OK_up ok (sp_no (by omega))
  · exact ok
theorem OK_mk (ok : cx_OK f) : cx_OK (cx_mk f p) := by
  unfold cx_mk
  split
  · exact OK_hold1 ok
  · split
    · exact OK_holdK ok
    · split
      · split
        · exact OK_tell (OK_tell ok)
        · exact OK_hold (OK_tell (OK_tell ok))
      · exact ok
theorem OK_line (ok : cx_OK f) (hn : n < 40) : cx_OK (en_up f 10 0 1 (nI n)) := by
  obtain ⟨⟨a1, a2, a3, a4⟩, b1, b2, b3⟩ := ok
  refine ⟨⟨?_, a2, a3, a4⟩, b1, b2, b3⟩
  unfold cx_ln
  have : en_up f 10 0 1 (nI n) 10 0 1 = nI n := by simp [en_up]
  rw [this, nI_clamp (by omega)]
  exact ⟨hn, rfl⟩
theorem OK_nxt (ok : cx_OK f) : cx_OK (cx_nxt f) := OK_up (OK_line (OK_up ok (sp_no (by omega))) (Nat.mod_lt _ (by omega))) (sp_no (by omega))
theorem OK_setup (ok : cx_OK f) : cx_OK (cx_setup f p v).2 := by
  unfold cx_setup
  split
  · exact OK_nxt ok
  · split
    · exact OK_nxt ok
    · dsimp only
      split
      · exact OK_up (OK_up (OK_nxt ok) (sp_no (by omega))) (sp_no (by omega))
      · split
        · exact OK_conf (OK_up (OK_nxt ok) (sp_no (by omega)))
        · exact OK_up (OK_nxt ok) (sp_no (by omega))
theorem OK_answer (ok : cx_OK f) : cx_OK (cx_answer f p v).2 := by
  unfold cx_answer
  split
  · exact OK_nxt ok
  · split
    · exact OK_nxt ok
    · dsimp only
      split
      · exact OK_learn (OK_nxt ok)
      · exact OK_nxt ok
theorem OK_out (ok : cx_OK f) : cx_OK (cx_out f p v).2 := by
  unfold cx_out
  split
  · exact OK_nxt ok
  · split
    · exact OK_nxt ok
    · split
      · exact OK_agrees (OK_nxt ok)
      · split
        · exact OK_agrees (OK_nxt ok)
        · exact OK_up (OK_agrees (OK_nxt ok)) (sp_no (by omega))
theorem OK_in2 (ok : cx_OK f) : cx_OK (cx_in2 f p) := by
  unfold cx_in2
  split
  · exact OK_mk ok
  · exact ok
theorem OK_in (ok : cx_OK f) : cx_OK (cx_in f p).2 := by
  unfold cx_in
  split
  · exact OK_nxt ok
  · split
    · exact OK_in2 (OK_nxt ok)
    · split
      · exact OK_in2 (OK_nxt ok)
      · dsimp only
        split
        · split
          · exact OK_up (OK_up (OK_in2 (OK_nxt ok)) (sp_no (by omega))) (sp_no (by omega))
          · exact OK_up (OK_letGo (OK_up (OK_in2 (OK_nxt ok)) (sp_no (by omega)))) (sp_no (by omega))
        · split
          · exact OK_up (OK_in2 (OK_nxt ok)) (sp_no (by omega))
          · exact OK_letGo (OK_up (OK_in2 (OK_nxt ok)) (sp_no (by omega)))
theorem OK_cf (ok : cx_OK f) : cx_OK (cx_cf f p v) := OK_up ok (sp_no (by omega))
theorem OK_end (ok : cx_OK f) : cx_OK (cx_end f k v) := by
  unfold cx_end
  split
  · exact OK_up ok (sp_no (by omega))
  · exact ok
theorem OK_klog (ok : cx_OK f) (hn : n < 8) : cx_OK (en_up f 12 0 1 (nI n)) := by
  obtain ⟨⟨a1, a2, a3, a4⟩, b1, b2, b3⟩ := ok
  refine ⟨⟨a1, a2, ?_, a4⟩, b1, b2, b3⟩
  unfold cx_kn
  have : en_up f 12 0 1 (nI n) 12 0 1 = nI n := by simp [en_up]
  rw [this, nI_clamp (by omega)]
  exact ⟨hn, rfl⟩
theorem OK_add (ok : cx_OK f) : cx_OK (cx_add f n v) := OK_up (OK_klog (OK_up ok (sp_no (by omega))) (Nat.mod_lt _ (by omega))) (sp_no (by omega))
theorem OK_keep (ok : cx_OK f) (hk : k < 16) : cx_OK (cx_keep f k v) := by
  unfold cx_keep
  split
  next h =>
    have ok1 : cx_OK (en_up f 9 k (f 8 k 1).toNatClampNeg v) := OK_up ok (sp_no (by omega))
    have hr : en_up f 9 k (f 8 k 1).toNatClampNeg v 8 k 1 = f 8 k 1 := by simp [en_up]
    obtain ⟨⟨a1, a2, a3, a4⟩, b1, b2, b3⟩ := ok1
    refine ⟨⟨a1, a2, a3, a4⟩, b1, fun q hq => ?_, fun q hq => ?_⟩
    rotate_left
    · have e : ∀ (g : en_F) (y : Int32), en_up g 8 k 1 y 8 q 2 = g 8 q 2 := fun g y => by simp [en_up]
      unfold cx_op
      rw [e]
      exact b3 q hq
    unfold cx_tn
    by_cases e : q = k
    · subst e
      have h1 := (ok.2.2.1 q hq).2
      have h2 := (ok.2.2.1 q hq).1
      have : en_up (en_up f 9 q (f 8 q 1).toNatClampNeg v) 8 q 1 (f 8 q 1 + 1) 8 q 1 = nI (cx_tn f q + 1) := by
        rw [h1] at *
        simp only [en_up, and_self, if_true]
        rw [nI_1]
      have h3 : cx_tn f q < 4 := by
        rw [h1, show (4 : Int32) = nI 4 from rfl] at h
        exact (nI_ltI (by omega) (by omega)).mp h
      rw [this, nI_clamp (by omega)]
      exact ⟨by omega, rfl⟩
    · have : ∀ g : en_F, en_up g 8 k 1 (f 8 k 1 + 1) 8 q 1 = g 8 q 1 := fun g => by simp [en_up, e]
      rw [this]
      exact b2 q hq
  next => exact ok
end Cx7
