/-! THE REFERENCE AS PURE FUNCTIONS, 9: serve, turn -/
section Md9
variable {d p k n m q i : Nat} {f : en_T} {Q : en_Q} {v w a b x : Int32}
theorem md_in_hi {g : en_F} {p k i j : Nat} (h : 44 ≤ k) (h2 : k ≠ 60) : (md_in g p).2 k i j = g k i j := by
  unfold md_in
  split
  · exact md_t1_k (by omega) h2
  · split
    · dsimp only; rw [md_in2_k (by omega)]; exact md_t1_k (by omega) h2
    · split
      · dsimp only; rw [md_in2_k (by omega)]; exact md_t1_k (by omega) h2
      next q _ _ _ =>
        have e : ∀ g l, md_in3 g p q l k i j = g k i j := by
          intro g l
          unfold md_in3
          split
          · rw [up_o (by omega)]
          · rw [up_o (by omega), up_o (by omega), up_o (by omega)]
        split
        · dsimp only; rw [up_o (by omega), e, md_in2_k (by omega)]; exact md_t1_k (by omega) h2
        · dsimp only; rw [e, md_in2_k (by omega)]; exact md_t1_k (by omega) h2
theorem md_gv_hi {g : en_F} {p q k' k i j : Nat} {c v : Int32} (h : 34 ≤ k) : (md_gv g p q k' c v).2 k i j = g k i j := by
  unfold md_gv
  split
  · split
    · split
      · dsimp only; rw [up_o (by omega)]
      · dsimp only; rw [up_o (by omega), up_o (by omega), up_o (by omega), up_o (by omega)]
    · split
      · dsimp only; rw [up_o (by omega), up_o (by omega), up_o (by omega), up_o (by omega), up_o (by omega)]
      · dsimp only; rw [up_o (by omega)]
  · rfl
theorem md_give_hi {g : en_F} {p k' k i j : Nat} {c v : Int32} (h : 44 ≤ k) (h2 : k ≠ 60) : (md_give g p k' c v).2 k i j = g k i j := by
  unfold md_give
  split
  · exact md_t1_k (by omega) h2
  · split
    · exact md_t1_k (by omega) h2
    · split
      · dsimp only; rw [md_gv_hi (by omega)]; exact md_t1_k (by omega) h2
      · split
        · dsimp only; rw [up_o (by omega), md_gv_hi (by omega)]; exact md_t1_k (by omega) h2
        · dsimp only; rw [md_gv_hi (by omega)]; exact md_t1_k (by omega) h2
theorem MO_gv {g : en_F} {c v : Int32} (ok : md_OK g) (hq : q < 6) (hoe : md_oe g k) : md_OK (md_gv g p q k c v).2 := by
  unfold md_gv
  split
  · split
    next hd =>
      split
      · exact MO_up ok (ms_no (by omega))
      · dsimp only
        obtain ⟨a, l, ha, hl, hal⟩ := (ok.2.2.1 q hq).1 (by rw [hd.1]; decide)
        have hl0 : l ≠ 0 := fun z => by have := hd.2; rw [hl, z] at this; exact absurd this (by decide)
        refine MO_one (p := q) ok (fun k i j hs hn => ?_) (fun hp => ?_)
        · rw [up_o (fun z => hn ⟨by omega, z.2⟩), up_o (fun z => hn ⟨by omega, z.2⟩), up_o (fun z => by unfold md_sp at hs; omega), up_o (fun z => by unfold md_sp at hs; omega)]
        · obtain ⟨b1, b2⟩ := ok.2.2.1 q hq
          refine ⟨fun _ => ⟨a + 1, l - 1, ?_, ?_, by omega⟩, ?_⟩
          · rw [up_o (by omega), up_s, ha, nI_1]
          · rw [up_s, hl, show (1 : Int32) = nI 1 from rfl, pk_sub (by omega)]
          · have e : ∀ (k n : Nat) (y z u w : Int32), k ≠ 26 → k ≠ 33 → k ≠ 31 → k ≠ 32 → en_up (en_up (en_up (en_up g 26 0 q y) 33 0 n z) 31 0 q u) 32 0 q w k 0 q = g k 0 q := fun k n y z u w h1 h2 h3 h4 => by simp [en_up, h1, h2, h3, h4]
            unfold md_cok md_cc at *
            rw [e 34 _ _ _ _ _ (by omega) (by omega) (by omega) (by omega), e 39 _ _ _ _ _ (by omega) (by omega) (by omega) (by omega), e 17 _ _ _ _ _ (by omega) (by omega) (by omega) (by omega), e 18 _ _ _ _ _ (by omega) (by omega) (by omega) (by omega), e 38 _ _ _ _ _ (by omega) (by omega) (by omega) (by omega), e 40 _ _ _ _ _ (by omega) (by omega) (by omega) (by omega)]
            exact b2
    next =>
      split
      · dsimp only
        obtain ⟨bb, cc, t, hb, hc, hbc, -⟩ := hoe
        refine MO_one (p := q) ok (fun k i j hs hn => ?_) (fun hp => ?_)
        · rw [up_o (fun z => by unfold md_sp at hs; omega), up_o (fun z => hn ⟨by omega, z.2⟩), up_o (fun z => hn ⟨by omega, z.2⟩), up_o (fun z => hn ⟨by omega, z.2⟩), up_o (fun z => by unfold md_sp at hs; omega)]
        · obtain ⟨b1, b2⟩ := ok.2.2.1 q hq
          refine ⟨fun _ => ⟨bb, cc, ?_, ?_, hbc⟩, ?_⟩
          · rw [up_o (by omega), up_o (by omega), up_s, hb]
          · rw [up_o (by omega), up_s, hc]
          · have e : ∀ (k : Nat) (y z u w r : Int32), k ≠ 26 → k ≠ 30 → k ≠ 31 → k ≠ 32 → k ≠ 27 → en_up (en_up (en_up (en_up (en_up g 26 0 q y) 30 0 q z) 31 0 q u) 32 0 q w) 27 0 q r k 0 q = g k 0 q := fun k y z u w r h1 h2 h3 h4 h5 => by simp [en_up, h1, h2, h3, h4, h5]
            unfold md_cok md_cc at *
            rw [e 34 _ _ _ _ _ (by omega) (by omega) (by omega) (by omega) (by omega), e 39 _ _ _ _ _ (by omega) (by omega) (by omega) (by omega) (by omega), e 17 _ _ _ _ _ (by omega) (by omega) (by omega) (by omega) (by omega), e 18 _ _ _ _ _ (by omega) (by omega) (by omega) (by omega) (by omega), e 38 _ _ _ _ _ (by omega) (by omega) (by omega) (by omega) (by omega), e 40 _ _ _ _ _ (by omega) (by omega) (by omega) (by omega) (by omega)]
            exact b2
      · exact MO_up ok (ms_no (by omega))
  · exact ok
theorem md_t1_oe {g : en_F} (h : md_oe g k) : md_oe (md_t1 g) k := by
  unfold md_oe
  rw [md_t1_k (by omega) (by omega), md_t1_k (by omega) (by omega), md_t1_k (by omega) (by omega), md_t1_k (by omega) (by omega), md_t1_k (by omega) (by omega)]
  exact h
theorem MO_give {g : en_F} {c v : Int32} (ok : md_OK g) (hoe : md_oe g k) : md_OK (md_give g p k c v).2 := by
  unfold md_give
  split
  · exact MO_t1 ok
  next q hq =>
    have hq6 := (md_mo_lt hq).1
    split
    · exact MO_t1 ok
    · split
      · exact MO_gv (MO_t1 ok) hq6 (md_t1_oe hoe)
      · split
        · exact MO_up (MO_gv (MO_t1 ok) hq6 (md_t1_oe hoe)) (ms_no (by omega))
        · exact MO_gv (MO_t1 ok) hq6 (md_t1_oe hoe)
-- serve
abbrev md_dat (g : en_F) (k : Nat) : Prop := 0 < g 55 0 k ∧ ¬ g 52 0 k < g 55 0 k
def md_sv1 (g : en_F) (p k : Nat) : Int32 × en_F := if g 55 0 k = 0 ∨ (md_dat g k ∧ ¬ g 50 0 k = 0) then md_give g p k (if g 55 0 k = 0 then 1 else 0) (g 53 0 k + g 55 0 k - 1) else md_in g p
def md_sv3 (h : en_F) (k : Nat) (s e : Int32) : en_F := if h 52 0 k < s then en_up (en_up (if ¬ e = 0 ∧ h 50 0 k = 0 then en_up (en_up h 57 0 (4 * k + (h 56 0 k).toNatClampNeg) (h 16 0 46)) 56 0 k (h 56 0 k + 1) else h) 55 0 k (h 55 0 k + 1)) 54 0 k 1 else en_up (if ¬ e = 0 ∧ h 50 0 k = 0 then en_up (en_up h 57 0 (4 * k + (h 56 0 k).toNatClampNeg) (h 16 0 46)) 56 0 k (h 56 0 k + 1) else h) 55 0 k (h 55 0 k + 1)
def md_sv2 (h : en_F) (p k : Nat) (s e r : Int32) : en_F := if r = -2 then (if h 44 0 p + 1 < 3 then en_up h 44 0 p (h 44 0 p + 1) else md_fails (md_detach (en_up (en_up h 44 0 p (h 44 0 p + 1)) 54 0 k 2) p) p 4) else if r = 1 then md_sv3 (en_up h 44 0 p 0) k s e else en_up h 44 0 p 0
def md_sv (g : en_F) (p k : Nat) : en_F := md_sv2 (md_sv1 g p k).2 p k (g 55 0 k) (if md_dat g k then 1 else 0) (md_sv1 g p k).1
theorem md_sv1_hi {g : en_F} {p k' k i j : Nat} (h : 44 ≤ k) (h2 : k ≠ 60) : (md_sv1 g p k').2 k i j = g k i j := by
  unfold md_sv1
  split
  · exact md_give_hi h h2
  · exact md_in_hi h h2
theorem MO_sv1 {g : en_F} (ok : md_OK g) (hoe : md_oe g k) : md_OK (md_sv1 g p k).2 := by
  unfold md_sv1
  split
  · exact MO_give ok hoe
  · exact MO_in ok
/-- an order ends -/
theorem MO_end {g : en_F} (ok : md_OK g) (hv : ¬ v = 0) : md_OK (en_up g 54 0 k v) := by
  have e : ∀ k' i j, k' ≠ 54 → en_up g 54 0 k v k' i j = g k' i j := fun k' i j hk => up_o (fun z => hk z.1)
  have e54 : ∀ q, en_up g 54 0 k v 54 0 q = 0 → g 54 0 q = 0 := by
    intro q hq
    by_cases hqk : q = k
    · subst hqk; rw [up_s] at hq; exact absurd hq hv
    · rw [up_o (fun z => hqk z.2)] at hq; exact hq
  obtain ⟨a1, a2, a3, a4, a5, a6⟩ := ok
  unfold md_OK md_dv md_oe md_dl md_cok md_cc md_oc md_sl at *
  simp only [e 16 _ _ (by omega), e 17 _ _ (by omega), e 18 _ _ (by omega), e 30 _ _ (by omega), e 31 _ _ (by omega), e 32 _ _ (by omega), e 34 _ _ (by omega), e 38 _ _ (by omega), e 39 _ _ (by omega), e 40 _ _ (by omega), e 50 _ _ (by omega), e 51 _ _ (by omega), e 52 _ _ (by omega), e 55 _ _ (by omega), e 56 _ _ (by omega)]
  exact ⟨a1, a2, a3, fun k hk h0 => a4 k hk (e54 k h0), a5, a6⟩
/-- an order goes on: its step and what it took -/
theorem MO_goes {g : en_F} {t : Nat} {s x : Int32} (ok : md_OK g) (hk : k < md_oc g) (ht : t ≤ 4) (hx : x = nI t) (hs : g 54 0 k = 0 → g 50 0 k = 0 → (s = 0 ∧ t = 0) ∨ s = nI (t + 1)) : md_OK (en_up (en_up g 56 0 k x) 55 0 k s) := by
  have e : ∀ k' i j, k' ≠ 55 → k' ≠ 56 → en_up (en_up g 56 0 k x) 55 0 k s k' i j = g k' i j := fun k' i j h1 h2 => by rw [up_o (fun z => h1 z.1), up_o (fun z => h2 z.1)]
  have f55 : ∀ q, q ≠ k → en_up (en_up g 56 0 k x) 55 0 k s 55 0 q = g 55 0 q := fun q hq => by rw [up_o (fun z => hq z.2), up_o (by omega)]
  have f56 : ∀ q, q ≠ k → en_up (en_up g 56 0 k x) 55 0 k s 56 0 q = g 56 0 q := fun q hq => by rw [up_o (by omega), up_o (fun z => hq z.2)]
  have g55 : en_up (en_up g 56 0 k x) 55 0 k s 55 0 k = s := up_s
  have g56 : en_up (en_up g 56 0 k x) 55 0 k s 56 0 k = x := by rw [up_o (by omega), up_s]
  obtain ⟨a1, a2, a3, a4, a5, a6⟩ := ok
  have hoc : md_oc (en_up (en_up g 56 0 k x) 55 0 k s) = md_oc g := by unfold md_oc; rw [e 16 _ _ (by omega) (by omega)]
  refine ⟨?_, ?_, fun q hq => md_dv_o (fun k' hk' => e k' 0 q (by omega) (by omega)) (a3 q hq), ?_, ?_, ?_⟩
  · rw [hoc, e 16 _ _ (by omega) (by omega)]; exact a1
  · unfold md_sl; rw [e 16 _ _ (by omega) (by omega)]; exact a2
  · intro q hq h0
    rw [hoc] at hq
    rw [e 54 _ _ (by omega) (by omega)] at h0
    obtain ⟨b', c', t', h1, h2, h3, h4, h5, h6, h7, h8⟩ := a4 q hq h0
    by_cases hqk : q = k
    · subst hqk
      refine ⟨b', c', t, ?_, ?_, h3, h4, h5, ?_, ht, ?_⟩
      · rw [e 51 _ _ (by omega) (by omega)]; exact h1
      · rw [e 52 _ _ (by omega) (by omega)]; exact h2
      · rw [g56]; exact hx
      · rw [e 50 _ _ (by omega) (by omega), g55]; exact hs h0
    · refine ⟨b', c', t', ?_, ?_, h3, h4, h5, ?_, h7, ?_⟩
      · rw [e 51 _ _ (by omega) (by omega)]; exact h1
      · rw [e 52 _ _ (by omega) (by omega)]; exact h2
      · rw [f56 q hqk]; exact h6
      · rw [e 50 _ _ (by omega) (by omega), f55 q hqk]; exact h8
  · intro q hq
    rw [hoc] at hq
    by_cases hqk : q = k
    · subst hqk; exact ⟨t, ht, by rw [g56]; exact hx⟩
    · rw [f56 q hqk]; exact a5 q hq
  · intro q hq1 hq2
    rw [hoc] at hq1
    have hqk : q ≠ k := by omega
    rw [f55 q hqk, f56 q hqk]
    exact a6 q hq1 hq2
end Md9
