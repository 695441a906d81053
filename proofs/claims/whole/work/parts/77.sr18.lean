/-! THE CLASS KEEPS ITS ORDER: the calls -/
section Sr18
variable {p k n m q i j s c : Nat} {f g f' g' F G : en_F} {v w a b x r e : Int32}
theorem OK_knew (ok : cx_OK f) : cx_OK (cx_knew f p v w) := OK_of (fun k i j hs => by
  rw [cx_knew_k (by unfold cx_sp at hs; omega), up_n (by unfold cx_sp at hs; omega), up_n (by unfold cx_sp at hs; omega)]) ok
theorem OK_dnew (ok : cx_OK f) : cx_OK (cx_dnew f p v a b) := OK_dres (OK_knew (OK_cod (n := 0) (OK_up (OK_up (OK_up ok (sp_no (by omega))) (sp_no (by omega))) (sp_no (by omega))) (by omega)))
theorem OK_plug (ok : cx_OK f) : cx_OK (cx_plug f v w a b).2 := by
  unfold cx_plug
  split
  · split
    · exact OK_mark (OK_dnew (OK_up ok (sp_no (by omega))))
    · exact ok
  · exact ok
theorem OK_lose2 (ok : cx_OK f) : cx_OK (cx_lose2 f p) := OK_up (OK_lose ok) (sp_no (by omega))
theorem OK_unplug (ok : cx_OK f) : cx_OK (cx_unplug f v).2 := by
  unfold cx_unplug
  split
  · split
    · exact ok
    · refine OK_mark ?_
      split
      · exact OK_lose2 (OK_lose2 (OK_lose ok))
      · exact OK_lose ok
  · exact ok
theorem OK_press (ok : cx_OK f) : cx_OK (cx_press f v w).2 := by
  unfold cx_press
  split
  next h =>
    rcases cx_port v with ⟨p, hp, rfl⟩ | z
    · rw [cb_c6 hp]
      unfold cx_addCode
      split
      next h2 =>
        obtain ⟨h4, e4⟩ := ok.1.2.2.2 p hp
        have hlt : cx_cn f p < 4 := by
          have := h2.2
          rw [e4, show (4 : Int32) = nI 4 from rfl] at this
          exact (nI_ltI (by omega) (by omega)).mp this
        dsimp only
        rw [show f 4 p 2 + 1 = nI (cx_cn f p + 1) by rw [e4, nI_s1]]
        exact OK_cod (OK_up ok (sp_no (by omega))) (by omega)
      next => exact ok
    · exact absurd h.1 z
  next => exact ok
theorem OK_spoil (ok : cx_OK f) : cx_OK (cx_spoil f v w).2 := by
  unfold cx_spoil
  split
  · exact OK_up ok (sp_no (by omega))
  · exact ok
theorem OK_place (ok : cx_OK f) : cx_OK (cx_place f v a b x w).2 := by
  unfold cx_place
  split
  next h =>
    rcases cx_port v with ⟨p, hp, rfl⟩ | z
    · obtain ⟨⟨h1, ⟨h2, e2⟩, h3, h4⟩, h5, h6, h7⟩ := ok
      have hn : cx_oc f < 16 := by
        have := h.2.1
        rw [e2, show (16 : Int32) = nI 16 from rfl] at this
        exact (nI_ltI (by omega) (by omega)).mp this
      have ef : ∀ k i j, ¬ (k = 8 ∧ i = cx_oc f ∧ 2 ≤ j) → cx_place2 f (cx_oc f) (nI p).toNatClampNeg (nI p) a b x w k i j = f k i j := by
        intro k i j z
        unfold cx_place2 cx_end cx_place1
        split
        · split
          · rw [up_n (by omega), up_n (by omega), up_n (by omega), up_n (by omega), up_n (by omega), up_n (by omega)]
          · rw [up_n (by omega), up_n (by omega), up_n (by omega), up_n (by omega), up_n (by omega)]
        · rw [up_n (by omega), up_n (by omega), up_n (by omega), up_n (by omega), up_n (by omega)]
      have e8 : cx_place2 f (cx_oc f) (nI p).toNatClampNeg (nI p) a b x w 8 (cx_oc f) 2 = nI p := by
        unfold cx_place2 cx_end cx_place1
        split
        · split
          · simp only [en_ua, Nat.reduceEqDiff, eq_self, true_and, and_true, false_and, and_false, and_self, ↓reduceIte, sr_has]
          · simp only [en_ua, Nat.reduceEqDiff, eq_self, true_and, and_true, false_and, and_false, and_self, ↓reduceIte, sr_has]
        · simp only [en_ua, Nat.reduceEqDiff, eq_self, true_and, and_true, false_and, and_false, and_self, ↓reduceIte, sr_has]
      have e4 : f 0 0 4 + 1 = nI (cx_oc f + 1) := by rw [e2, nI_s1]
      dsimp only
      rw [e4]
      have hoc : cx_oc (en_up (cx_place2 f (cx_oc f) (nI p).toNatClampNeg (nI p) a b x w) 0 0 4 (nI (cx_oc f + 1))) = cx_oc f + 1 := by
        show (en_up (cx_place2 f (cx_oc f) (nI p).toNatClampNeg (nI p) a b x w) 0 0 4 (nI (cx_oc f + 1)) 0 0 4).toNatClampNeg = cx_oc f + 1
        rw [up_s]
        exact nI_clamp (by omega)
      refine ⟨⟨?_, ⟨by omega, ?_⟩, ?_, ?_⟩, ?_, ?_, ?_⟩
      · unfold cx_ln at h1 ⊢
        rw [up_n (by omega), ef _ _ _ (by omega)]
        exact h1
      · rw [hoc, up_s]
      · unfold cx_kn at h3 ⊢
        rw [up_n (by omega), ef _ _ _ (by omega)]
        exact h3
      · intro r hr
        have := h4 r hr
        unfold cx_cn at this ⊢
        rw [up_n (by omega), ef _ _ _ (by omega)]
        exact this
      · unfold cx_sl at h5 ⊢
        rw [up_n (by omega), ef _ _ _ (by omega)]
        exact h5
      · intro r hr
        have := h6 r hr
        unfold cx_tn at this ⊢
        rw [up_n (by omega), ef _ _ _ (by omega)]
        exact this
      · rw [hoc]
        intro r hr
        unfold cx_op
        rw [up_n (by omega)]
        by_cases er : r = cx_oc f
        · rw [er, e8, cb_c6 hp]
          exact ⟨hp, rfl⟩
        · rw [ef _ _ _ (by omega)]
          exact h7 r (by omega)
    · exact absurd h.1.1 z
  next => exact ok
theorem OK_run (ok : cx_OK f) : cx_OK (cx_run f v).2 := by
  unfold cx_run
  split
  · exact ok
  · exact OK_rn _ _ ok
end Sr18
