/-! THE REFERENCE AS PURE FUNCTIONS, 7: what every state keeps (md_OK) -/
section Md7
variable {p k n m q i j : Nat} {f g h : en_F} {v w a b x : Int32}
/-- an order that isn't over -/
def md_oe (g : en_F) (k : Nat) : Prop := ∃ b c t : Nat, g 51 0 k = nI b ∧ g 52 0 k = nI c ∧ b + c ≤ 8 ∧ 1 ≤ c ∧ c ≤ 4 ∧ g 56 0 k = nI t ∧ t ≤ 4 ∧ (g 50 0 k = 0 → (g 55 0 k = 0 ∧ t = 0) ∨ g 55 0 k = nI (t + 1))
def md_sl (g : en_F) : Nat := (g 16 0 29).toNatClampNeg
def md_dv (g : en_F) (p : Nat) : Prop := md_dl g p ∧ md_cok g p ∧ (∃ b : Nat, b ≤ 8 ∧ g 39 0 p = nI b) ∧ (g 17 0 p = 1 → ∃ a : Nat, a ≤ 8 ∧ g 18 0 p = nI a) ∧ (g 17 0 p = 2 → ¬ g 18 0 p = 0) ∧ (g 38 0 p = 2 → ¬ g 40 0 p = 0)
def md_OK (g : en_F) : Prop := (md_oc g ≤ 16 ∧ g 16 0 31 = nI (md_oc g)) ∧ (md_sl g < 6 ∧ g 16 0 29 = nI (md_sl g)) ∧ (∀ p, p < 6 → md_dv g p) ∧ (∀ k, k < md_oc g → g 54 0 k = 0 → md_oe g k) ∧ (∀ k, k < md_oc g → ∃ t : Nat, t ≤ 4 ∧ g 56 0 k = nI t) ∧ ∀ k, md_oc g ≤ k → k < 16 → g 55 0 k = 0 ∧ g 56 0 k = 0
def md_sp (k j : Nat) : Prop := (k = 16 ∧ (j = 31 ∨ j = 29)) ∨ k = 17 ∨ k = 18 ∨ k = 30 ∨ k = 31 ∨ k = 32 ∨ k = 34 ∨ k = 38 ∨ k = 39 ∨ k = 40 ∨ k = 50 ∨ k = 51 ∨ k = 52 ∨ k = 54 ∨ k = 55 ∨ k = 56
theorem MO_of (e : ∀ k i j, md_sp k j → h k i j = g k i j) (ok : md_OK g) : md_OK h := by
  have e1 : h 16 0 31 = g 16 0 31 := e _ _ _ (by unfold md_sp; omega)
  have e2 : h 16 0 29 = g 16 0 29 := e _ _ _ (by unfold md_sp; omega)
  have e17 : ∀ i, h 17 0 i = g 17 0 i := fun i => e _ _ _ (by unfold md_sp; omega)
  have e18 : ∀ i, h 18 0 i = g 18 0 i := fun i => e _ _ _ (by unfold md_sp; omega)
  have e30 : ∀ i, h 30 0 i = g 30 0 i := fun i => e _ _ _ (by unfold md_sp; omega)
  have e31 : ∀ i, h 31 0 i = g 31 0 i := fun i => e _ _ _ (by unfold md_sp; omega)
  have e32 : ∀ i, h 32 0 i = g 32 0 i := fun i => e _ _ _ (by unfold md_sp; omega)
  have e34 : ∀ i, h 34 0 i = g 34 0 i := fun i => e _ _ _ (by unfold md_sp; omega)
  have e38 : ∀ i, h 38 0 i = g 38 0 i := fun i => e _ _ _ (by unfold md_sp; omega)
  have e39 : ∀ i, h 39 0 i = g 39 0 i := fun i => e _ _ _ (by unfold md_sp; omega)
  have e40 : ∀ i, h 40 0 i = g 40 0 i := fun i => e _ _ _ (by unfold md_sp; omega)
  have e50 : ∀ i, h 50 0 i = g 50 0 i := fun i => e _ _ _ (by unfold md_sp; omega)
  have e51 : ∀ i, h 51 0 i = g 51 0 i := fun i => e _ _ _ (by unfold md_sp; omega)
  have e52 : ∀ i, h 52 0 i = g 52 0 i := fun i => e _ _ _ (by unfold md_sp; omega)
  have e54 : ∀ i, h 54 0 i = g 54 0 i := fun i => e _ _ _ (by unfold md_sp; omega)
  have e55 : ∀ i, h 55 0 i = g 55 0 i := fun i => e _ _ _ (by unfold md_sp; omega)
  have e56 : ∀ i, h 56 0 i = g 56 0 i := fun i => e _ _ _ (by unfold md_sp; omega)
  unfold md_OK md_dv md_oe md_dl md_cok md_cc md_oc md_sl at ok ⊢
  simp only [e1, e2, e17, e18, e30, e31, e32, e34, e38, e39, e40, e50, e51, e52, e54, e55, e56]
  exact ok
theorem MO_up (ok : md_OK g) (hs : ¬ md_sp k j) : md_OK (en_up g k i j x) := by
  refine MO_of (fun k' i' j' h' => ?_) ok
  unfold en_up
  rw [if_neg]
  intro q
  exact hs (by rw [← q.1, ← q.2.2]; exact h')
theorem ms_no {k j : Nat} (h : ¬ ((k = 16 ∧ (j = 31 ∨ j = 29)) ∨ k = 17 ∨ k = 18 ∨ k = 30 ∨ k = 31 ∨ k = 32 ∨ k = 34 ∨ k = 38 ∨ k = 39 ∨ k = 40 ∨ k = 50 ∨ k = 51 ∨ k = 52 ∨ k = 54 ∨ k = 55 ∨ k = 56)) : ¬ md_sp k j := h
/-- the devices' part is set anew at one port -/
theorem MO_dv (ok : md_OK g) (e : ∀ k i j, md_sp k j → ¬ (k = 17 ∨ k = 18 ∨ k = 30 ∨ k = 31 ∨ k = 32 ∨ k = 34 ∨ k = 38 ∨ k = 39 ∨ k = 40) → h k i j = g k i j) (hd : ∀ p, p < 6 → md_dv h p) : md_OK h := by
  have e1 : h 16 0 31 = g 16 0 31 := e _ _ _ (by unfold md_sp; omega) (by omega)
  have e2 : h 16 0 29 = g 16 0 29 := e _ _ _ (by unfold md_sp; omega) (by omega)
  have e50 : ∀ i, h 50 0 i = g 50 0 i := fun i => e _ _ _ (by unfold md_sp; omega) (by omega)
  have e51 : ∀ i, h 51 0 i = g 51 0 i := fun i => e _ _ _ (by unfold md_sp; omega) (by omega)
  have e52 : ∀ i, h 52 0 i = g 52 0 i := fun i => e _ _ _ (by unfold md_sp; omega) (by omega)
  have e54 : ∀ i, h 54 0 i = g 54 0 i := fun i => e _ _ _ (by unfold md_sp; omega) (by omega)
  have e55 : ∀ i, h 55 0 i = g 55 0 i := fun i => e _ _ _ (by unfold md_sp; omega) (by omega)
  have e56 : ∀ i, h 56 0 i = g 56 0 i := fun i => e _ _ _ (by unfold md_sp; omega) (by omega)
  obtain ⟨a1, a2, -, a4, a5, a6⟩ := ok
  unfold md_OK md_oe md_oc md_sl at *
  simp only [e1, e2, e50, e51, e52, e54, e55, e56]
  exact ⟨a1, a2, hd, a4, a5, a6⟩
theorem up_o {k' i' j' : Nat} (h : ¬ (k' = k ∧ j' = j)) : en_up f k i j x k' i' j' = f k' i' j' := by
  unfold en_up
  rw [if_neg (fun z => h ⟨z.1, z.2.2⟩)]
theorem up_s : en_up f k i j x k i j = x := by simp [en_up]
theorem MO_marks (ok : md_OK g) : md_OK (md_marks g p) := MO_up ok (ms_no (by omega))
theorem MO_fails (ok : md_OK g) : md_OK (md_fails g p v) := MO_up (MO_up ok (ms_no (by omega))) (ms_no (by omega))
theorem MO_t1 (ok : md_OK g) : md_OK (md_t1 g) := MO_up (MO_up (MO_up ok (ms_no (by omega))) (ms_no (by omega))) (ms_no (by omega))
theorem MO_relO (ok : md_OK g) : md_OK (md_relO g p n) := by
  have e : ∀ k i j, k ≠ 54 → md_relO g p n k i j = g k i j := fun k i j hk => md_relO_r (fun z => hk z.1)
  have e54 : ∀ k, md_relO g p n 54 0 k = 0 → g 54 0 k = 0 := by
    intro k hk
    unfold md_relO at hk
    split at hk
    next hc => exact hc.2.2.2
    next => exact hk
  obtain ⟨a1, a2, a3, a4, a5, a6⟩ := ok
  unfold md_OK md_dv md_oe md_dl md_cok md_cc md_oc md_sl at *
  simp only [e 16 _ _ (by omega), e 17 _ _ (by omega), e 18 _ _ (by omega), e 30 _ _ (by omega), e 31 _ _ (by omega), e 32 _ _ (by omega), e 34 _ _ (by omega), e 38 _ _ (by omega), e 39 _ _ (by omega), e 40 _ _ (by omega), e 50 _ _ (by omega), e 51 _ _ (by omega), e 52 _ _ (by omega), e 55 _ _ (by omega), e 56 _ _ (by omega)]
  exact ⟨a1, a2, a3, fun k hk h0 => a4 k hk (e54 k h0), a5, a6⟩
theorem MO_leaf (ok : md_OK g) : md_OK (md_leaf g p) := MO_relO (MO_up (MO_up ok (ms_no (by omega))) (ms_no (by omega)))
theorem MO_detach (ok : md_OK g) : md_OK (md_detach g p) := by
  unfold md_detach
  split
  · refine md_lp_i (P := md_OK) (fun i h hh => ?_) 4 2 _ (MO_leaf ok)
    unfold md_dst
    split
    · exact MO_leaf hh
    · exact hh
  · exact MO_leaf ok
theorem MO_hears (ok : md_OK g) : md_OK (md_hears g p v) := by
  have h1 : md_OK (if g 36 0 p = 0 then g else md_detach g p) := by
    split
    · exact ok
    · exact MO_detach ok
  unfold md_hears
  split
  · exact h1
  · exact MO_up h1 (ms_no (by omega))
theorem MO_conf (ok : md_OK g) : md_OK (md_conf g p) := by
  refine md_lp_i (P := md_OK) (fun i h hh => ?_) 4 2 _ (MO_up ok (ms_no (by omega)))
  unfold md_cst
  split
  · exact MO_up hh (ms_no (by omega))
  · exact hh
theorem MO_setup (ok : md_OK g) : md_OK (md_setup g v w a).2 := by
  unfold md_setup
  split
  · exact MO_t1 ok
  · split
    · exact MO_t1 ok
    · dsimp only
      unfold md_su2
      split
      · exact MO_up (MO_up (MO_t1 ok) (ms_no (by omega))) (ms_no (by omega))
      · split
        · exact MO_conf (MO_up (MO_t1 ok) (ms_no (by omega)))
        · exact MO_up (MO_t1 ok) (ms_no (by omega))
theorem MO_tl (ok : md_OK g) : ∀ (m q : Nat) (t : Int32) (g : en_F), md_OK g → md_OK (md_tl p m q t g).2 := by
  intro m
  induction m with
  | zero => intro q t g hg; exact hg
  | succ m ih =>
    intro q t g hg
    unfold md_tl
    split
    · exact ih _ _ _ (MO_up hg (ms_no (by omega)))
    · exact ih _ _ _ hg
theorem MO_tells (ok : md_OK g) : md_OK (md_tells g p) := by
  unfold md_tells
  split
  · exact MO_tl ok _ _ _ _ ok
  · exact MO_up (MO_up (MO_tl ok _ _ _ _ ok) (ms_no (by omega))) (ms_no (by omega))
/-- one port's device changes in a slot of its own -/
theorem md_dv_o (e : ∀ k, (k = 17 ∨ k = 18 ∨ k = 30 ∨ k = 31 ∨ k = 32 ∨ k = 34 ∨ k = 38 ∨ k = 39 ∨ k = 40) → h k 0 p = g k 0 p) (hd : md_dv g p) : md_dv h p := by
  unfold md_dv md_dl md_cok md_cc at *
  rw [e 17 (by omega), e 18 (by omega), e 30 (by omega), e 31 (by omega), e 32 (by omega), e 34 (by omega), e 38 (by omega), e 39 (by omega), e 40 (by omega)]
  exact hd
theorem MO_one (ok : md_OK g) (e : ∀ k i j, md_sp k j → ¬ ((k = 17 ∨ k = 18 ∨ k = 30 ∨ k = 31 ∨ k = 32 ∨ k = 34 ∨ k = 38 ∨ k = 39 ∨ k = 40) ∧ j = p) → h k i j = g k i j) (hd : p < 6 → md_dv h p) : md_OK h := by
  refine MO_dv ok (fun k i j hs hn => e k i j hs (fun z => hn z.1)) (fun q hq => ?_)
  by_cases hqp : q = p
  · subst hqp; exact hd hq
  · refine md_dv_o (fun k hk => ?_) (ok.2.2.1 q hq)
    exact e k 0 q (by unfold md_sp; omega) (fun z => hqp z.2)
theorem MO_reset (ok : md_OK g) : md_OK (md_reset g p v) := by
  unfold md_reset
  have ok1 : md_OK (en_up (en_up (en_up (en_up (en_up (en_up (en_up (en_up (en_up (en_up (en_up (en_up (en_up (en_up g 36 0 p 2) 37 0 p v) 16 0 28 0) 44 0 p 0) 42 0 p 0) 43 0 p 0) 20 0 p 1) 22 0 p 0) 23 0 p (-1)) 24 0 p 0) 25 0 p 0) 26 0 p 0) 27 0 p 0) 28 0 p 0) :=
    MO_up (MO_up (MO_up (MO_up (MO_up (MO_up (MO_up (MO_up (MO_up (MO_up (MO_up (MO_up (MO_up (MO_up ok (ms_no (by omega))) (ms_no (by omega))) (ms_no (by omega))) (ms_no (by omega))) (ms_no (by omega))) (ms_no (by omega))) (ms_no (by omega))) (ms_no (by omega))) (ms_no (by omega))) (ms_no (by omega))) (ms_no (by omega))) (ms_no (by omega))) (ms_no (by omega))) (ms_no (by omega))
  generalize en_up (en_up (en_up (en_up (en_up (en_up (en_up (en_up (en_up (en_up (en_up (en_up (en_up (en_up g 36 0 p 2) 37 0 p v) 16 0 28 0) 44 0 p 0) 42 0 p 0) 43 0 p 0) 20 0 p 1) 22 0 p 0) 23 0 p (-1)) 24 0 p 0) 25 0 p 0) 26 0 p 0) 27 0 p 0) 28 0 p 0 = g1 at ok1
  refine MO_one (p := p) ok1 (fun k i j hs hn => up_o (fun z => hn ⟨by omega, z.2⟩)) (fun hp => ?_)
  obtain ⟨b1, b2⟩ := ok1.2.2.1 p hp
  refine ⟨fun hz => absurd up_s hz, ?_⟩
  have e : ∀ k, k ≠ 30 → en_up g1 30 0 p 0 k 0 p = g1 k 0 p := fun k hk => up_o (fun z => hk z.1)
  unfold md_cok md_cc at *
  rw [e 34 (by omega), e 39 (by omega), e 17 (by omega), e 18 (by omega), e 38 (by omega), e 40 (by omega)]
  exact b2
theorem MO_mkK (ok : md_OK g) (hp : p < 6) : md_OK (md_mkK g p) := by
  unfold md_mkK
  split
  next hd =>
    split
    · exact MO_up ok (ms_no (by omega))
    · split
      next h0 =>
        have ok1 : md_OK (en_up (en_up g 28 0 p 1) 29 0 p 0) := MO_up (MO_up ok (ms_no (by omega))) (ms_no (by omega))
        generalize en_up (en_up g 28 0 p 1) 29 0 p 0 = g1 at ok1
        refine MO_one (p := p) ok1 (fun k i j hs hn => up_o (fun z => hn ⟨by omega, z.2⟩)) (fun hp => ?_)
        obtain ⟨b1, b2⟩ := ok1.2.2.1 p hp
        refine ⟨fun hz => absurd up_s hz, ?_⟩
        have e : ∀ k, k ≠ 30 → en_up g1 30 0 p 0 k 0 p = g1 k 0 p := fun k hk => up_o (fun z => hk z.1)
        unfold md_cok md_cc at *
        rw [e 34 (by omega), e 39 (by omega), e 17 (by omega), e 18 (by omega), e 38 (by omega), e 40 (by omega)]
        exact b2
      next h0 =>
        have hne : ¬ g 30 0 p = 0 := fun z => by rcases hd with hd | hd <;> simp [z] at hd
        obtain ⟨a, l, ha, hl, hal⟩ := (ok.2.2.1 p hp).1 hne
        have hl0 : l ≠ 0 := fun z => h0 (by rw [hl, z]; rfl)
        refine MO_one (p := p) ok (fun k i j hs hn => ?_) (fun hp => ?_)
        · rw [up_o (fun z => hn ⟨by omega, z.2⟩), up_o (fun z => hn ⟨by omega, z.2⟩), up_o (fun z => by unfold md_sp at hs; omega), up_o (fun z => by unfold md_sp at hs; omega)]
        · obtain ⟨b1, b2⟩ := ok.2.2.1 p hp
          refine ⟨fun _ => ⟨a + 1, l - 1, ?_, ?_, by omega⟩, ?_⟩
          · rw [up_o (by omega), up_s, ha, nI_1]
          · rw [up_s, hl, show (1 : Int32) = nI 1 from rfl, pk_sub (by omega)]
          · have e : ∀ (k : Nat) (y z u w : Int32), k ≠ 28 → k ≠ 29 → k ≠ 31 → k ≠ 32 → en_up (en_up (en_up (en_up g 28 0 p y) 29 0 p z) 31 0 p u) 32 0 p w k 0 p = g k 0 p := fun k y z u w h1 h2 h3 h4 => by simp [en_up, h1, h2, h3, h4]
            unfold md_cok md_cc at *
            rw [e 34 _ _ _ _ (by omega) (by omega) (by omega) (by omega), e 39 _ _ _ _ (by omega) (by omega) (by omega) (by omega), e 17 _ _ _ _ (by omega) (by omega) (by omega) (by omega), e 18 _ _ _ _ (by omega) (by omega) (by omega) (by omega), e 38 _ _ _ _ (by omega) (by omega) (by omega) (by omega), e 40 _ _ _ _ (by omega) (by omega) (by omega) (by omega)]
            exact b2
  next => exact ok
theorem MO_cod (ok : md_OK g) (hn : n ≤ 4) : md_OK (en_up g 34 0 p (nI n)) := by
  refine MO_one (p := p) ok (fun k i j hs hn => up_o (fun z => hn ⟨by omega, z.2⟩)) (fun hp => ?_)
  obtain ⟨b1, b2, b3⟩ := ok.2.2.1 p hp
  have e : ∀ k, k ≠ 34 → en_up g 34 0 p (nI n) k 0 p = g k 0 p := fun k hk => up_o (fun z => hk z.1)
  unfold md_dv md_dl at *
  rw [e 30 (by omega), e 31 (by omega), e 32 (by omega), e 39 (by omega), e 17 (by omega), e 18 (by omega), e 38 (by omega), e 40 (by omega)]
  refine ⟨b1, ?_, b3⟩
  unfold md_cok md_cc
  rw [up_s, nI_clamp (by omega)]
  exact ⟨hn, rfl⟩
theorem MO_hold1 (ok : md_OK g) : md_OK (md_hold1 g p n) := by
  unfold md_hold1
  split
  · exact ok
  · exact MO_cod (n := 0) (MO_up (MO_up ok (ms_no (by omega))) (ms_no (by omega))) (by omega)
  · exact MO_up (MO_cod (n := 1) (MO_up (MO_up ok (ms_no (by omega))) (ms_no (by omega))) (by omega)) (ms_no (by omega))
  · exact MO_up (MO_up (MO_cod (n := 2) (MO_up (MO_up ok (ms_no (by omega))) (ms_no (by omega))) (by omega)) (ms_no (by omega))) (ms_no (by omega))
  · exact MO_up (MO_up (MO_up (MO_cod (n := 3) (MO_up (MO_up ok (ms_no (by omega))) (ms_no (by omega))) (by omega)) (ms_no (by omega))) (ms_no (by omega))) (ms_no (by omega))
theorem MO_mk (ok : md_OK g) (hp : p < 6) : md_OK (md_mk g p) := by
  unfold md_mk
  split
  · exact MO_mkK ok hp
  · split
    · exact MO_hold1 ok
    · split
      · exact MO_tells ok
      · exact ok
theorem MO_in2 (ok : md_OK g) (hp : p < 6) : md_OK (md_in2 g p) := by
  unfold md_in2
  split
  · exact MO_mk ok hp
  · exact ok
theorem MO_in3 (ok : md_OK g) : md_OK (md_in3 g p q v) := by
  unfold md_in3
  split
  · exact MO_up ok (ms_no (by omega))
  · exact MO_up (MO_up (MO_up ok (ms_no (by omega))) (ms_no (by omega))) (ms_no (by omega))
theorem MO_in (ok : md_OK g) : md_OK (md_in g p).2 := by
  unfold md_in
  split
  · exact MO_t1 ok
  next q hq =>
    have hq6 := (md_mo_lt hq).1
    split
    · exact MO_in2 (MO_t1 ok) hq6
    · split
      · exact MO_in2 (MO_t1 ok) hq6
      · split
        · exact MO_up (MO_in3 (p := p) (MO_in2 (MO_t1 ok) hq6)) (ms_no (by omega))
        · exact MO_in3 (p := p) (MO_in2 (MO_t1 ok) hq6)
end Md7
