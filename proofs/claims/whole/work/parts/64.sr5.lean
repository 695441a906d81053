/-! THE TWO STATES SIDE BY SIDE, 5: begin -/
section Sr5
variable {p k n m q i j : Nat} {f g f' g' : en_F} {v w a b x : Int32}
theorem cx_any_e {c : Nat → Bool} : ∀ m i, cx_any c m i = true ↔ ∃ j, i ≤ j ∧ j < i + m ∧ c j = true := by
  intro m
  induction m with
  | zero =>
    intro i
    unfold cx_any
    exact ⟨fun z => absurd z (by decide), fun ⟨j, h1, h2, _⟩ => by omega⟩
  | succ m ih =>
    intro i
    unfold cx_any
    rw [Bool.or_eq_true, ih]
    constructor
    · intro z
      rcases z with z | ⟨j, h1, h2, h3⟩
      · exact ⟨i, by omega, by omega, z⟩
      · exact ⟨j, by omega, by omega, h3⟩
    · intro ⟨j, h1, h2, h3⟩
      by_cases e : j = i
      · subst e; exact Or.inl h3
      · exact Or.inr ⟨j, by omega, by omega, h3⟩
theorem cx_fo_no {c : Nat → Bool} : ∀ {m i : Nat}, cx_fo c m i = none → ∀ j, i ≤ j → j < i + m → ¬ c j = true := by
  intro m
  induction m with
  | zero => intro i _ j h1 h2; omega
  | succ m ih =>
    intro i h j h1 h2
    unfold cx_fo at h
    split at h
    · cases h
    next hc =>
      by_cases e : j = i
      · subst e; exact hc
      · exact ih h j (by omega) (by omega)
/-- an address is taken -/
def sr_tk (g : en_F) (a : Int32) : Prop := ∃ p, p < 6 ∧ sr_has g p ∧ g 37 0 p = a
theorem sr_any (R : sr_SR f g) (ha : sr_n4 a) : cx_any (cx_tkn f a) 6 0 = true ↔ sr_tk g a := by
  rw [cx_any_e]
  constructor
  · intro ⟨j, _, h2, h3⟩
    have h := sr_SR_prs R j (by omega)
    have e : f 3 j 4 = a := of_decide_eq_true h3
    by_cases hh : sr_has g j
    · exact ⟨j, by omega, hh, by rw [← sr_PR_ah h hh]; exact e⟩
    · rw [sr_PR_an h hh] at e
      exact absurd e.symm (sr_n4_ne ha).1
  · intro ⟨j, h1, h2, h3⟩
    have h := sr_SR_prs R j h1
    exact ⟨j, by omega, by omega, decide_eq_true (by rw [sr_PR_ah h h2]; exact h3)⟩
theorem md_ba_n (h : ¬ sr_tk g a) : ∀ m q, md_ba g m q a = a := by
  intro m
  induction m with
  | zero => intro q; rfl
  | succ m ih =>
    intro q
    unfold md_ba
    rw [if_neg (fun z => h ⟨q % 6, Nat.mod_lt _ (by omega), z.1, z.2⟩)]
    exact ih _
theorem md_ba_d {r : Nat} (h1 : sr_has g r) (h2 : g 37 0 r = a) : ∀ d m q, (q + d) % 6 = r → d < m → ∃ m' q', (m ≤ m' + d + 1 ∧ m' < m) ∧ md_ba g m q a = md_ba g m' q' (a + 1) := by
  intro d
  induction d with
  | zero =>
    intro m q hq hm
    cases m with
    | zero => omega
    | succ m =>
      have e : q % 6 = r := by rw [← hq]; rfl
      refine ⟨m, q + 1, by omega, ?_⟩
      rw [md_ba, e, if_pos ⟨h1, h2⟩]
  | succ d ih =>
    intro m q hq hm
    cases m with
    | zero => omega
    | succ m =>
      by_cases hc : (g 36 0 (q % 6) = 2 ∨ g 36 0 (q % 6) = 3) ∧ g 37 0 (q % 6) = a
      · refine ⟨m, q + 1, by omega, ?_⟩
        rw [md_ba, if_pos hc]
      · obtain ⟨m', q', e1, e2⟩ := ih m (q + 1) (by rw [← hq]; congr 1; omega) (by omega)
        refine ⟨m', q', by omega, ?_⟩
        rw [md_ba, if_neg hc]
        exact e2
theorem md_ba_t (h : sr_tk g a) (hm : 6 ≤ m) : ∃ m' q', (m ≤ m' + 6 ∧ m' < m) ∧ md_ba g m q a = md_ba g m' q' (a + 1) := by
  obtain ⟨r, h1, h2, h3⟩ := h
  obtain ⟨m', q', e1, e2⟩ := md_ba_d h2 h3 ((r + 6 - q % 6) % 6) m q (by omega) (by omega)
  exact ⟨m', q', by omega, e2⟩
theorem md_ba_u : ∀ m q n, n + m < 2 ^ 31 → ∃ n', n ≤ n' ∧ n' ≤ n + m ∧ md_ba g m q (nI n) = nI n' := by
  intro m
  induction m with
  | zero => intro q n _; exact ⟨n, by omega, by omega, rfl⟩
  | succ m ih =>
    intro q n hn
    unfold md_ba
    split
    · rw [nI_1]
      obtain ⟨n', h1, h2, h3⟩ := ih (q + 1) (n + 1) (by omega)
      exact ⟨n', by omega, by omega, h3⟩
    · obtain ⟨n', h1, h2, h3⟩ := ih (q + 1) n (by omega)
      exact ⟨n', by omega, by omega, h3⟩
/-- both find the least free address -/
theorem sr_bg (R : sr_SR f g) : (4 < md_ba g 24 0 1 ∧ cx_bg f p = (0, cx_leave f p 6)) ∨ (¬ 4 < md_ba g 24 0 1 ∧ cx_bg f p = (1, cx_reset f p (md_ba g 24 0 1)) ∧ sr_n4 (md_ba g 24 0 1) ∧ ¬ sr_tk g (md_ba g 24 0 1)) := by
  have n1 : sr_n4 1 := Or.inl rfl
  have n2 : sr_n4 2 := Or.inr (Or.inl rfl)
  have n3 : sr_n4 3 := Or.inr (Or.inr (Or.inl rfl))
  have n4 : sr_n4 4 := Or.inr (Or.inr (Or.inr rfl))
  unfold cx_bg
  by_cases t1 : sr_tk g 1
  · rw [if_pos ((sr_any R n1).mpr t1)]
    obtain ⟨m1, q1, d1, e1⟩ := md_ba_t (m := 24) (q := 0) t1 (by omega)
    rw [e1, show (1 : Int32) + 1 = 2 from rfl]
    by_cases t2 : sr_tk g 2
    · rw [if_pos ((sr_any R n2).mpr t2)]
      obtain ⟨m2, q2, d2, e2⟩ := md_ba_t (m := m1) (q := q1) t2 (by omega)
      rw [e2, show (2 : Int32) + 1 = 3 from rfl]
      by_cases t3 : sr_tk g 3
      · rw [if_pos ((sr_any R n3).mpr t3)]
        obtain ⟨m3, q3, d3, e3⟩ := md_ba_t (m := m2) (q := q2) t3 (by omega)
        rw [e3, show (3 : Int32) + 1 = 4 from rfl]
        by_cases t4 : sr_tk g 4
        · rw [if_pos ((sr_any R n4).mpr t4)]
          obtain ⟨m4, q4, d4, e4⟩ := md_ba_t (m := m3) (q := q3) t4 (by omega)
          rw [e4, show (4 : Int32) + 1 = nI 5 from rfl]
          refine Or.inl ⟨?_, rfl⟩
          obtain ⟨n', h1, h2, h3⟩ := md_ba_u (g := g) m4 q4 5 (by omega)
          rw [h3, show (4 : Int32) = nI 4 from rfl]
          exact (nI_ltI (by omega) (by omega)).mpr (by omega)
        · rw [if_neg (fun z => t4 ((sr_any R n4).mp z)), md_ba_n t4]
          exact Or.inr ⟨by decide, rfl, n4, t4⟩
      · rw [if_neg (fun z => t3 ((sr_any R n3).mp z)), md_ba_n t3]
        exact Or.inr ⟨by decide, rfl, n3, t3⟩
    · rw [if_neg (fun z => t2 ((sr_any R n2).mp z)), md_ba_n t2]
      exact Or.inr ⟨by decide, rfl, n2, t2⟩
  · rw [if_neg (fun z => t1 ((sr_any R n1).mp z)), md_ba_n t1]
    exact Or.inr ⟨by decide, rfl, n1, t1⟩

theorem sr_reset (R : sr_SR f g) (oc : md_oc g ≤ 16) (hq : q < 6) (h1 : g 36 0 q = 1) (hg : ∀ p, p < 6 → ¬ g 36 0 p = 2) (ha : sr_n4 a) (hf : ¬ sr_tk g a) : sr_SR (cx_reset f q a) (md_reset g q a) := by
  have h := sr_SR_prs R q hq
  have e36 : md_reset g q a 36 0 q = 2 := by simp only [md_reset, en_ua, Nat.reduceEqDiff, eq_self, true_and, and_true, false_and, and_false, and_self, ↓reduceIte, sr_has]
  have e37 : md_reset g q a 37 0 q = a := by simp only [md_reset, en_ua, Nat.reduceEqDiff, eq_self, true_and, and_true, false_and, and_false, and_self, ↓reduceIte, sr_has]
  refine sr_port R hq (fun k i j z => ?_) (fun k j z z2 => ?_) (Or.inr (fun p hp _ => hg p hp)) ?_ ?_ ?_ (fun _ p hp _ => hg p hp) (Or.inr (sr_live R oc hq (by rw [h1]; exact fun z => absurd z.1 (by decide))))
  · unfold cx_reset cx_dres cx_rest
    rw [up_n (by omega), up_n (by omega), up_n (by omega), up_n (by omega), up_n (by omega), up_n (by omega), up_n (by omega), up_n (by omega), up_n (by omega), up_n (by omega), up_n (by omega), up_n (by omega), up_n (by omega), up_n (by omega), up_n (by omega), up_n (by omega)]
  · unfold md_reset
    rw [up_n (by omega), up_n (by omega), up_n (by omega), up_n (by omega), up_n (by omega), up_n (by omega), up_n (by omega), up_n (by omega), up_n (by omega), up_n (by omega), up_n (by omega), up_n (by omega), up_n (by omega), up_n (by omega), up_n (by omega)]
  · exact sr_PR_mk (by simp only [cx_reset, cx_dres, cx_rest, md_reset, en_ua, Nat.reduceEqDiff, eq_self, true_and, and_true, false_and, and_false, and_self, ↓reduceIte, sr_has]) (by simp only [cx_reset, cx_dres, cx_rest, md_reset, en_ua, Nat.reduceEqDiff, eq_self, true_and, and_true, false_and, and_false, and_self, ↓reduceIte, sr_has]; exact sr_PR_kd h) (by simp only [cx_reset, cx_dres, cx_rest, md_reset, en_ua, Nat.reduceEqDiff, eq_self, true_and, and_true, false_and, and_false, and_self, ↓reduceIte, sr_has]) (by simp only [cx_reset, cx_dres, cx_rest, md_reset, en_ua, Nat.reduceEqDiff, eq_self, true_and, and_true, false_and, and_false, and_self, ↓reduceIte, sr_has]; exact sr_PR_ch h) (by simp only [cx_reset, cx_dres, cx_rest, md_reset, en_ua, Nat.reduceEqDiff, eq_self, true_and, and_true, false_and, and_false, and_self, ↓reduceIte, sr_has]; exact sr_PR_cb h) (by simp only [cx_reset, cx_dres, cx_rest, md_reset, en_ua, Nat.reduceEqDiff, eq_self, true_and, and_true, false_and, and_false, and_self, ↓reduceIte, sr_has]) (by simp only [cx_reset, cx_dres, cx_rest, md_reset, en_ua, Nat.reduceEqDiff, eq_self, true_and, and_true, false_and, and_false, and_self, ↓reduceIte, sr_has]; exact sr_PR_cc h) (by simp only [cx_reset, cx_dres, cx_rest, md_reset, en_ua, Nat.reduceEqDiff, eq_self, true_and, and_true, false_and, and_false, and_self, ↓reduceIte, sr_has]; exact sr_PR_kn h) (by simp only [cx_reset, cx_dres, cx_rest, md_reset, en_ua, Nat.reduceEqDiff, eq_self, true_and, and_true, false_and, and_false, and_self, ↓reduceIte, sr_has]; exact sr_PR_bk h) (by simp only [cx_reset, cx_dres, cx_rest, md_reset, en_ua, Nat.reduceEqDiff, eq_self, true_and, and_true, false_and, and_false, and_self, ↓reduceIte, sr_has]; exact sr_PR_co h) (by simp only [cx_reset, cx_dres, cx_rest, md_reset, en_ua, Nat.reduceEqDiff, eq_self, true_and, and_true, false_and, and_false, and_self, ↓reduceIte, sr_has]) (by simp only [cx_reset, cx_dres, cx_rest, md_reset, en_ua, Nat.reduceEqDiff, eq_self, true_and, and_true, false_and, and_false, and_self, ↓reduceIte, sr_has]) (by simp only [cx_reset, cx_dres, cx_rest, md_reset, en_ua, Nat.reduceEqDiff, eq_self, true_and, and_true, false_and, and_false, and_self, ↓reduceIte, sr_has]) (by simp only [cx_reset, cx_dres, cx_rest, md_reset, en_ua, Nat.reduceEqDiff, eq_self, true_and, and_true, false_and, and_false, and_self, ↓reduceIte, sr_has]; exact Or.inl rfl) (by simp only [cx_reset, cx_dres, cx_rest, md_reset, en_ua, Nat.reduceEqDiff, eq_self, true_and, and_true, false_and, and_false, and_self, ↓reduceIte, sr_has]; exact Or.inl rfl) (by simp only [cx_reset, cx_dres, cx_rest, md_reset, en_ua, Nat.reduceEqDiff, eq_self, true_and, and_true, false_and, and_false, and_self, ↓reduceIte, sr_has]; exact sr_PR_iv h) (fun _ => by simp only [cx_reset, cx_dres, cx_rest, md_reset, en_ua, Nat.reduceEqDiff, eq_self, true_and, and_true, false_and, and_false, and_self, ↓reduceIte, sr_has]) (fun z => absurd (Or.inl e36) z) (fun _ => by rw [e37]; exact ha) (fun _ => by simp only [cx_reset, cx_dres, cx_rest, md_reset, en_ua, Nat.reduceEqDiff, eq_self, true_and, and_true, false_and, and_false, and_self, ↓reduceIte, sr_has]; exact Or.inl rfl) (by simp only [cx_reset, cx_dres, cx_rest, md_reset, en_ua, Nat.reduceEqDiff, eq_self, true_and, and_true, false_and, and_false, and_self, ↓reduceIte, sr_has]; exact sr_PR_ki h) (by simp only [cx_reset, cx_dres, cx_rest, md_reset, en_ua, Nat.reduceEqDiff, eq_self, true_and, and_true, false_and, and_false, and_self, ↓reduceIte, sr_has]; exact sr_PR_dv h) (fun _ => Or.inl e36) (fun _ => ⟨by simp only [cx_reset, cx_dres, cx_rest, md_reset, en_ua, Nat.reduceEqDiff, eq_self, true_and, and_true, false_and, and_false, and_self, ↓reduceIte, sr_has]; exact Or.inl rfl, by simp only [cx_reset, cx_dres, cx_rest, md_reset, en_ua, Nat.reduceEqDiff, eq_self, true_and, and_true, false_and, and_false, and_self, ↓reduceIte, sr_has]⟩) (fun _ => sr_OD_mk (by simp only [cx_reset, cx_dres, cx_rest, md_reset, en_ua, Nat.reduceEqDiff, eq_self, true_and, and_true, false_and, and_false, and_self, ↓reduceIte, sr_has]) (Or.inr ⟨by simp only [cx_reset, cx_dres, cx_rest, md_reset, en_ua, Nat.reduceEqDiff, eq_self, true_and, and_true, false_and, and_false, and_self, ↓reduceIte, sr_has], by simp only [cx_reset, cx_dres, cx_rest, md_reset, en_ua, Nat.reduceEqDiff, eq_self, true_and, and_true, false_and, and_false, and_self, ↓reduceIte, sr_has], by simp only [cx_reset, cx_dres, cx_rest, md_reset, en_ua, Nat.reduceEqDiff, eq_self, true_and, and_true, false_and, and_false, and_self, ↓reduceIte, sr_has]⟩) (by simp only [cx_reset, cx_dres, cx_rest, md_reset, en_ua, Nat.reduceEqDiff, eq_self, true_and, and_true, false_and, and_false, and_self, ↓reduceIte, sr_has]) (by simp only [cx_reset, cx_dres, cx_rest, md_reset, en_ua, Nat.reduceEqDiff, eq_self, true_and, and_true, false_and, and_false, and_self, ↓reduceIte, sr_has]) (by simp only [cx_reset, cx_dres, cx_rest, md_reset, en_ua, Nat.reduceEqDiff, eq_self, true_and, and_true, false_and, and_false, and_self, ↓reduceIte, sr_has]; exact Or.inl rfl) (by simp only [cx_reset, cx_dres, cx_rest, md_reset, en_ua, Nat.reduceEqDiff, eq_self, true_and, and_true, false_and, and_false, and_self, ↓reduceIte, sr_has]; exact Or.inl rfl) (by simp only [cx_reset, cx_dres, cx_rest, md_reset, en_ua, Nat.reduceEqDiff, eq_self, true_and, and_true, false_and, and_false, and_self, ↓reduceIte, sr_has]) (fun z => absurd (by simp only [cx_reset, cx_dres, cx_rest, md_reset, en_ua, Nat.reduceEqDiff, eq_self, true_and, and_true, false_and, and_false, and_self, ↓reduceIte, sr_has]) z) (by simp only [cx_reset, cx_dres, cx_rest, md_reset, en_ua, Nat.reduceEqDiff, eq_self, true_and, and_true, false_and, and_false, and_self, ↓reduceIte, sr_has]) (by simp only [cx_reset, cx_dres, cx_rest, md_reset, en_ua, Nat.reduceEqDiff, eq_self, true_and, and_true, false_and, and_false, and_self, ↓reduceIte, sr_has]; exact Or.inl rfl) (by simp only [cx_reset, cx_dres, cx_rest, md_reset, en_ua, Nat.reduceEqDiff, eq_self, true_and, and_true, false_and, and_false, and_self, ↓reduceIte, sr_has]) (by simp only [cx_reset, cx_dres, cx_rest, md_reset, en_ua, Nat.reduceEqDiff, eq_self, true_and, and_true, false_and, and_false, and_self, ↓reduceIte, sr_has]; exact Or.inl rfl) (fun z => absurd (by simp only [cx_reset, cx_dres, cx_rest, md_reset, en_ua, Nat.reduceEqDiff, eq_self, true_and, and_true, false_and, and_false, and_self, ↓reduceIte, sr_has]) z) (fun _ z => absurd (by simp only [cx_reset, cx_dres, cx_rest, md_reset, en_ua, Nat.reduceEqDiff, eq_self, true_and, and_true, false_and, and_false, and_self, ↓reduceIte, sr_has]) z)) (fun _ _ => ⟨by simp only [cx_reset, cx_dres, cx_rest, md_reset, en_ua, Nat.reduceEqDiff, eq_self, true_and, and_true, false_and, and_false, and_self, ↓reduceIte, sr_has], by simp only [cx_reset, cx_dres, cx_rest, md_reset, en_ua, Nat.reduceEqDiff, eq_self, true_and, and_true, false_and, and_false, and_self, ↓reduceIte, sr_has], by simp only [cx_reset, cx_dres, cx_rest, md_reset, en_ua, Nat.reduceEqDiff, eq_self, true_and, and_true, false_and, and_false, and_self, ↓reduceIte, sr_has], by simp only [cx_reset, cx_dres, cx_rest, md_reset, en_ua, Nat.reduceEqDiff, eq_self, true_and, and_true, false_and, and_false, and_self, ↓reduceIte, sr_has], fun _ => Or.inl ⟨by simp only [cx_reset, cx_dres, cx_rest, md_reset, en_ua, Nat.reduceEqDiff, eq_self, true_and, and_true, false_and, and_false, and_self, ↓reduceIte, sr_has], Or.inl (by simp only [cx_reset, cx_dres, cx_rest, md_reset, en_ua, Nat.reduceEqDiff, eq_self, true_and, and_true, false_and, and_false, and_self, ↓reduceIte, sr_has]), Or.inl (by simp only [cx_reset, cx_dres, cx_rest, md_reset, en_ua, Nat.reduceEqDiff, eq_self, true_and, and_true, false_and, and_false, and_self, ↓reduceIte, sr_has])⟩⟩) (fun _ z => by rw [e36] at z; exact absurd z (by decide))
  · intro z; rw [e36] at z; exact absurd z (by decide)
  · intro _ p hp _ h2 e
    rw [e37] at e
    exact hf ⟨p, hp, h2, e⟩
theorem sr_isG (R : sr_SR f g) : cx_fo (cx_isG f) 6 0 = cx_fo (md_isG g) 6 0 := cx_fo_c 6 0 (fun j _ hj => by
  unfold cx_isG md_isG
  rw [sr_PR_vw (sr_SR_prs R j (by omega))])
theorem sr_gp2 : ∀ (m i : Nat) (f g : en_F), sr_SR f g → md_oc g ≤ 16 → i + m = 6 → (∀ p, p < 6 → ¬ g 36 0 p = 2) → (cx_gp2 m i f).1 = (md_bg m i g).1 ∧ sr_SR (cx_gp2 m i f).2 (md_bg m i g).2 ∧ ∀ p, (md_bg m i g).1 = some p → (md_bg m i g).2 36 0 p = 2 := by
  intro m
  induction m with
  | zero => intro i f g R oc hi hg; exact ⟨rfl, R, fun p z => by cases z⟩
  | succ m ih =>
    intro i f g R oc hi hg
    have h := sr_SR_prs R i (by omega)
    unfold cx_gp2 md_bg
    rw [sr_PR_vw h]
    by_cases h1 : g 36 0 i = 1
    · rw [if_pos h1, if_pos h1]
      rcases sr_bg (p := i) R with ⟨b1, b2⟩ | ⟨b1, b2, b3, b4⟩
      · rw [if_pos b1, b2]
        dsimp only
        rw [if_pos rfl]
        refine ih (i + 1) _ _ (sr_fail R oc (by omega) (by decide) (by decide) (by rw [h1]; exact fun z => absurd z.1 (by decide))) ?_ (by omega) ?_
        · have : md_oc (md_fails g i 6) = md_oc g := by unfold md_oc md_fails; rw [up_n (by omega), up_n (by omega)]
          omega
        · intro p hp z
          unfold md_fails at z
          rw [up_n (by omega)] at z
          by_cases e : p = i
          · subst e; rw [up_s] at z; exact absurd z (by decide)
          · rw [up_n (by omega)] at z; exact hg p hp z
      · rw [if_neg b1, b2]
        dsimp only
        rw [if_neg (by decide)]
        refine ⟨rfl, sr_reset R oc (by omega) h1 hg b3 b4, fun p z => ?_⟩
        cases z
        simp only [md_reset, en_ua, Nat.reduceEqDiff, eq_self, true_and, and_true, false_and, and_false, and_self, ↓reduceIte, sr_has]
    · rw [if_neg h1, if_neg h1]
      exact ih (i + 1) f g R oc (by omega) hg
theorem sr_gb (R : sr_SR f g) (oc : md_oc g ≤ 16) : (cx_gp f).1 = (md_gb g).1 ∧ sr_SR (cx_gp f).2 (md_gb g).2 ∧ ∀ p, (md_gb g).1 = some p → (md_gb g).2 36 0 p = 2 := by
  unfold cx_gp md_gb
  rw [sr_isG R]
  cases hf : cx_fo (md_isG g) 6 0 with
  | some p =>
    refine ⟨rfl, R, fun q z => ?_⟩
    cases z
    exact of_decide_eq_true (cx_fo_lt hf).2.2
  | none =>
    refine sr_gp2 6 0 f g R oc rfl (fun p hp z => ?_)
    exact cx_fo_no hf p (by omega) (by omega) (decide_eq_true z)
end Sr5
