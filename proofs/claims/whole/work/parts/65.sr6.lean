/-! THE TWO STATES SIDE BY SIDE, 6: enumeration -/
section Sr6
variable {p k n m q i j : Nat} {f g f' g' : en_F} {v w a b x : Int32}
theorem up_c {g : en_F} {k i j k' i' j' : Nat} {x y : Int32} (h : ¬ (k = k' ∧ i = i' ∧ j = j')) : en_up (en_up g k i j x) k' i' j' y = en_up (en_up g k' i' j' y) k i j x := by
  funext a b c
  unfold en_up
  by_cases h1 : a = k' ∧ b = i' ∧ c = j'
  · have h2 : ¬ (a = k ∧ b = i ∧ c = j) := fun z => h (by omega)
    rw [if_pos h1, if_neg h2, if_pos h1]
  · rw [if_neg h1]
    by_cases h2 : a = k ∧ b = i ∧ c = j
    · rw [if_pos h2, if_pos h2]
    · rw [if_neg h2, if_neg h2, if_neg h1]
theorem cx_leave_7 : cx_leave (en_up f 3 p 7 x) p v = en_up (cx_leave f p v) 3 p 7 x := by
  unfold cx_leave
  rw [up_c (j := 7) (j' := 3) (by omega), up_c (j := 7) (j' := 1) (by omega), up_c (j := 7) (j' := 4) (by omega)]
theorem md_fails_44 : md_fails (en_up g 44 0 p x) p v = en_up (md_fails g p v) 44 0 p x := by
  unfold md_fails
  rw [up_c (k := 44) (k' := 36) (by omega), up_c (k := 44) (k' := 20) (by omega)]
theorem md_fails_36 : md_fails g p v 36 0 q = if q = p then v else g 36 0 q := by
  unfold md_fails
  rw [up_n (by omega)]
  unfold en_up
  by_cases h : q = p
  · rw [if_pos ⟨rfl, rfl, h⟩, if_pos h]
  · rw [if_neg (fun z => h z.2.2), if_neg h]
theorem md_fails_oc : md_oc (md_fails g p v) = md_oc g := by unfold md_oc md_fails; rw [up_n (by omega), up_n (by omega)]
/-- the third fault -/
theorem sr_fail7 (R : sr_SR f g) (oc : md_oc g ≤ 16) (hq : q < 6) (h2 : ¬ v = 2) (h3 : ¬ v = 3) (hl : ¬ (g 36 0 q = 3 ∧ g 38 0 q = 1)) : sr_SR (cx_leave (en_up f 3 q 7 x) q v) (md_fails (en_up g 44 0 q x) q v) := by
  rw [cx_leave_7, md_fails_44]
  refine sr_flt (sr_fail R oc hq h2 h3 hl) (by rw [md_fails_oc]; exact oc) hq (fun z => ?_)
  unfold sr_has at z
  rw [md_fails_36, if_pos rfl] at z
  rcases z with z | z
  · exact absurd z h2
  · exact absurd z h3
theorem sr_f3s (h : sr_f3 x) : (x = 2 ∧ x + 1 = 3 ∧ ¬ x + 1 < 3) ∨ (¬ x + 1 = 3 ∧ x + 1 < 3 ∧ sr_f3 (x + 1)) := by
  rcases h with rfl | rfl | rfl
  · exact Or.inr ⟨by decide, by decide, Or.inr (Or.inl rfl)⟩
  · exact Or.inr ⟨by decide, by decide, Or.inr (Or.inr rfl)⟩
  · exact Or.inl ⟨rfl, by decide, by decide⟩
theorem cx_cfo_0 : cx_cfo f p 0 = en_up f 3 p 7 (f 3 p 7 + 1) := by
  unfold cx_cfo cx_cf
  rw [if_pos rfl, if_neg (by decide)]
theorem cx_cfo_1 (h : ¬ v = 0) : cx_cfo f p v = en_up f 3 p 7 0 := by
  unfold cx_cfo cx_cf
  rw [if_neg h, if_pos rfl]
theorem sr_bad (R : sr_SR f g) (oc : md_oc g ≤ 16) (hp : p < 6) (h2 : g 36 0 p = 2) : sr_SR (cx_eo2 (cx_cfo f p 0) p 0) (md_eo2 g p 0) := by
  have h := sr_SR_prs R p hp
  rw [cx_cfo_0]
  unfold cx_eo2 md_eo2
  rw [if_pos rfl, up_s, sr_PR_fa h]
  rcases sr_f3s (sr_PR_fl h (Or.inl h2)) with ⟨-, e1, e2⟩ | ⟨e1, e2, e3⟩
  · rw [if_neg e2, if_pos e1]
    exact sr_fail7 R oc hp (by decide) (by decide) (by rw [h2]; exact fun z => absurd z.1 (by decide))
  · rw [if_pos e2, if_pos rfl, if_neg e1]
    exact sr_flt R oc hp (fun _ => e3)
theorem sr_stepup (R : sr_SR f g) (oc : md_oc g ≤ 16) (hp : p < 6) (h2 : g 36 0 p = 2) (hx : sr_s6 x) (hJ : ¬ g 20 0 p = 0 → ¬ g 17 0 p = 0 → sr_J5 x (g 22 0 p) (g 23 0 p) (g 37 0 p) (g 38 0 p) (g 17 0 p)) : sr_SR (en_up f 3 p 8 x) (en_up g 16 0 28 x) := by
  have h := sr_SR_prs R p hp
  have e : ∀ k j, ¬ k = 16 → en_up g 16 0 28 x k 0 j = g k 0 j := fun k j z => up_n (fun y => z y.1)
  refine sr_port R hp (fun k i j z => up_n (by omega)) (fun k j z z2 => up_n (by omega)) (Or.inr (sr_oneq R hp h2)) ?_ ?_ (sr_numq R hp (e _ _ (by omega)) (by unfold sr_has; rw [e _ _ (by omega)]; exact id)) (fun _ => sr_oneq R hp h2) (Or.inr (sr_live R oc hp (by rw [h2]; exact fun z => absurd z.1 (by decide))))
  · exact sr_PR_mk (by simp only [en_ua, Nat.reduceEqDiff, eq_self, true_and, and_true, false_and, and_false, and_self, ↓reduceIte, sr_has]; exact sr_PR_vw h) (by simp only [en_ua, Nat.reduceEqDiff, eq_self, true_and, and_true, false_and, and_false, and_self, ↓reduceIte, sr_has]; exact sr_PR_kd h) (by simp only [en_ua, Nat.reduceEqDiff, eq_self, true_and, and_true, false_and, and_false, and_self, ↓reduceIte, sr_has]; exact sr_PR_op h) (by simp only [en_ua, Nat.reduceEqDiff, eq_self, true_and, and_true, false_and, and_false, and_self, ↓reduceIte, sr_has]; exact sr_PR_ch h) (by simp only [en_ua, Nat.reduceEqDiff, eq_self, true_and, and_true, false_and, and_false, and_self, ↓reduceIte, sr_has]; exact sr_PR_cb h) (by simp only [en_ua, Nat.reduceEqDiff, eq_self, true_and, and_true, false_and, and_false, and_self, ↓reduceIte, sr_has]; exact sr_PR_cf h) (by simp only [en_ua, Nat.reduceEqDiff, eq_self, true_and, and_true, false_and, and_false, and_self, ↓reduceIte, sr_has]; exact sr_PR_cc h) (by simp only [en_ua, Nat.reduceEqDiff, eq_self, true_and, and_true, false_and, and_false, and_self, ↓reduceIte, sr_has]; exact sr_PR_kn h) (by simp only [en_ua, Nat.reduceEqDiff, eq_self, true_and, and_true, false_and, and_false, and_self, ↓reduceIte, sr_has]; exact sr_PR_bk h) (by simp only [en_ua, Nat.reduceEqDiff, eq_self, true_and, and_true, false_and, and_false, and_self, ↓reduceIte, sr_has]; exact sr_PR_co h) (by simp only [en_ua, Nat.reduceEqDiff, eq_self, true_and, and_true, false_and, and_false, and_self, ↓reduceIte, sr_has]; exact sr_PR_hi h) (by simp only [en_ua, Nat.reduceEqDiff, eq_self, true_and, and_true, false_and, and_false, and_self, ↓reduceIte, sr_has]; exact sr_PR_ho h) (by simp only [en_ua, Nat.reduceEqDiff, eq_self, true_and, and_true, false_and, and_false, and_self, ↓reduceIte, sr_has]; exact sr_PR_fa h) (by simp only [en_ua, Nat.reduceEqDiff, eq_self, true_and, and_true, false_and, and_false, and_self, ↓reduceIte, sr_has]; exact sr_PR_bi h) (by simp only [en_ua, Nat.reduceEqDiff, eq_self, true_and, and_true, false_and, and_false, and_self, ↓reduceIte, sr_has]; exact sr_PR_bo h) (by simp only [en_ua, Nat.reduceEqDiff, eq_self, true_and, and_true, false_and, and_false, and_self, ↓reduceIte, sr_has]; exact sr_PR_iv h) (by simp only [en_ua, Nat.reduceEqDiff, eq_self, true_and, and_true, false_and, and_false, and_self, ↓reduceIte, sr_has]; exact sr_PR_ah h) (by simp only [en_ua, Nat.reduceEqDiff, eq_self, true_and, and_true, false_and, and_false, and_self, ↓reduceIte, sr_has]; exact sr_PR_an h) (by simp only [en_ua, Nat.reduceEqDiff, eq_self, true_and, and_true, false_and, and_false, and_self, ↓reduceIte, sr_has]; exact sr_PR_nu h) (by simp only [en_ua, Nat.reduceEqDiff, eq_self, true_and, and_true, false_and, and_false, and_self, ↓reduceIte, sr_has]; exact sr_PR_fl h) (by simp only [en_ua, Nat.reduceEqDiff, eq_self, true_and, and_true, false_and, and_false, and_self, ↓reduceIte, sr_has]; exact sr_PR_ki h) (by simp only [en_ua, Nat.reduceEqDiff, eq_self, true_and, and_true, false_and, and_false, and_self, ↓reduceIte, sr_has]; exact sr_PR_dv h) (by simp only [en_ua, Nat.reduceEqDiff, eq_self, true_and, and_true, false_and, and_false, and_self, ↓reduceIte, sr_has]; exact sr_PR_oh h) (fun _ => ⟨by simp only [en_ua, Nat.reduceEqDiff, eq_self, true_and, and_true, false_and, and_false, and_self, ↓reduceIte, sr_has]; exact hx, by simp only [en_ua, Nat.reduceEqDiff, eq_self, true_and, and_true, false_and, and_false, and_self, ↓reduceIte, sr_has]⟩) (by simp only [sr_OD, en_ua, Nat.reduceEqDiff, eq_self, true_and, and_true, false_and, and_false, and_self, ↓reduceIte, sr_has]; exact sr_PR_od h) (fun z1 z2 => by
      rw [e _ _ (by omega)] at z1 z2
      obtain ⟨a1, a2, a3, a4, a5⟩ := sr_PR_go h z1 z2
      unfold sr_GO
      simp only [en_ua, Nat.reduceEqDiff, eq_self, true_and, and_true, false_and, and_false, and_self, ↓reduceIte, sr_has]
      exact ⟨a1, a2, a3, a4, hJ z1⟩) (by simp only [en_ua, Nat.reduceEqDiff, eq_self, true_and, and_true, false_and, and_false, and_self, ↓reduceIte, sr_has]; exact sr_PR_rd h)
  · intro z; rw [e _ _ (by omega), h2] at z; exact absurd z (by decide)
theorem sr_hand_n (R : sr_SR f g) (oc : md_oc g ≤ 16) (hp : p < 6) (h : ¬ (g 36 0 p = 3 ∧ g 38 0 p = 1)) : sr_hand g p = none := by
  unfold sr_hand
  cases hf : cx_fo (md_ohp g (nI p)) (md_oc g) 0 with
  | none => rfl
  | some k =>
    obtain ⟨-, h2, h3⟩ := cx_fo_lt hf
    have h4 : g 49 0 k = nI p ∧ g 54 0 k = 0 := of_decide_eq_true h3
    exact absurd h4.1 (sr_live R oc hp h k (by omega) h4.2)
theorem sr_ready (R : sr_SR f g) (oc : md_oc g ≤ 16) (hp : p < 6) (h2 : g 36 0 p = 2) (h5 : g 16 0 28 = 5) : sr_SR (en_up (en_up f 3 p 3 3) 3 p 8 0) (en_up (en_up g 16 0 28 6) 36 0 p 3) := by
  have h := sr_SR_prs R p hp
  have e36 : en_up (en_up g 16 0 28 6) 36 0 p 3 36 0 p = 3 := up_s
  have e : ∀ k j, ¬ k = 16 → ¬ (k = 36 ∧ j = p) → en_up (en_up g 16 0 28 6) 36 0 p 3 k 0 j = g k 0 j := fun k j z z2 => by rw [up_n (by omega), up_n (by omega)]
  have hn : ¬ (g 36 0 p = 3 ∧ g 38 0 p = 1) := by rw [h2]; exact fun z => absurd z.1 (by decide)
  refine sr_port R hp (fun k i j z => by rw [up_n (by omega), up_n (by omega)]) (fun k j z z2 => by rw [up_n (by omega), up_n (by omega)]) (Or.inr (sr_oneq R hp h2)) ?_ ?_ (sr_numq R hp (e _ _ (by omega) (by omega)) (fun _ => Or.inl h2)) (fun z => by rw [e36] at z; exact absurd z (by decide)) (Or.inr (sr_live R oc hp hn))
  · exact sr_PR_mk (by simp only [en_ua, Nat.reduceEqDiff, eq_self, true_and, and_true, false_and, and_false, and_self, ↓reduceIte, sr_has]) (by simp only [en_ua, Nat.reduceEqDiff, eq_self, true_and, and_true, false_and, and_false, and_self, ↓reduceIte, sr_has]; exact sr_PR_kd h) (by simp only [en_ua, Nat.reduceEqDiff, eq_self, true_and, and_true, false_and, and_false, and_self, ↓reduceIte, sr_has]; exact sr_PR_op h) (by simp only [en_ua, Nat.reduceEqDiff, eq_self, true_and, and_true, false_and, and_false, and_self, ↓reduceIte, sr_has]; exact sr_PR_ch h) (by simp only [en_ua, Nat.reduceEqDiff, eq_self, true_and, and_true, false_and, and_false, and_self, ↓reduceIte, sr_has]; exact sr_PR_cb h) (by simp only [en_ua, Nat.reduceEqDiff, eq_self, true_and, and_true, false_and, and_false, and_self, ↓reduceIte, sr_has]; exact sr_PR_cf h) (by simp only [en_ua, Nat.reduceEqDiff, eq_self, true_and, and_true, false_and, and_false, and_self, ↓reduceIte, sr_has]; exact sr_PR_cc h) (by simp only [en_ua, Nat.reduceEqDiff, eq_self, true_and, and_true, false_and, and_false, and_self, ↓reduceIte, sr_has]; exact sr_PR_kn h) (by simp only [en_ua, Nat.reduceEqDiff, eq_self, true_and, and_true, false_and, and_false, and_self, ↓reduceIte, sr_has]; exact sr_PR_bk h) (by simp only [en_ua, Nat.reduceEqDiff, eq_self, true_and, and_true, false_and, and_false, and_self, ↓reduceIte, sr_has]; exact sr_PR_co h) (by simp only [en_ua, Nat.reduceEqDiff, eq_self, true_and, and_true, false_and, and_false, and_self, ↓reduceIte, sr_has]; exact sr_PR_hi h) (by simp only [en_ua, Nat.reduceEqDiff, eq_self, true_and, and_true, false_and, and_false, and_self, ↓reduceIte, sr_has]; exact sr_PR_ho h) (by simp only [en_ua, Nat.reduceEqDiff, eq_self, true_and, and_true, false_and, and_false, and_self, ↓reduceIte, sr_has]; exact sr_PR_fa h) (by simp only [en_ua, Nat.reduceEqDiff, eq_self, true_and, and_true, false_and, and_false, and_self, ↓reduceIte, sr_has]; exact sr_PR_bi h) (by simp only [en_ua, Nat.reduceEqDiff, eq_self, true_and, and_true, false_and, and_false, and_self, ↓reduceIte, sr_has]; exact sr_PR_bo h) (by simp only [en_ua, Nat.reduceEqDiff, eq_self, true_and, and_true, false_and, and_false, and_self, ↓reduceIte, sr_has]; exact sr_PR_iv h) (fun _ => by simp only [en_ua, Nat.reduceEqDiff, eq_self, true_and, and_true, false_and, and_false, and_self, ↓reduceIte, sr_has]; exact sr_PR_ah h (Or.inl h2)) (fun z => absurd (Or.inr e36) z) (fun _ => by simp only [en_ua, Nat.reduceEqDiff, eq_self, true_and, and_true, false_and, and_false, and_self, ↓reduceIte, sr_has]; exact sr_PR_nu h (Or.inl h2)) (fun _ => by simp only [en_ua, Nat.reduceEqDiff, eq_self, true_and, and_true, false_and, and_false, and_self, ↓reduceIte, sr_has]; exact sr_PR_fl h (Or.inl h2)) (by simp only [en_ua, Nat.reduceEqDiff, eq_self, true_and, and_true, false_and, and_false, and_self, ↓reduceIte, sr_has]; exact sr_PR_ki h) (by simp only [en_ua, Nat.reduceEqDiff, eq_self, true_and, and_true, false_and, and_false, and_self, ↓reduceIte, sr_has]; exact sr_PR_dv h) (fun _ => Or.inr e36) (fun z => by rw [e36] at z; exact absurd z (by decide)) (by simp only [sr_OD, en_ua, Nat.reduceEqDiff, eq_self, true_and, and_true, false_and, and_false, and_self, ↓reduceIte, sr_has]; exact sr_PR_od h) (fun _ z => by rw [e36] at z; exact absurd z (by decide)) (fun z1 _ z3 => by
      rw [e _ _ (by omega) (by omega)] at z1 z3
      obtain ⟨-, -, -, -, a5⟩ := sr_PR_go h z1 h2
      have J := a5 z3
      simp only [en_ua, Nat.reduceEqDiff, eq_self, true_and, and_true, false_and, and_false, and_self, ↓reduceIte, sr_has]
      rw [h5] at J
      rcases J with ⟨y, -⟩ | ⟨y, -⟩ | ⟨y, -⟩ | ⟨y, -⟩ | ⟨-, y⟩
      · exact absurd y (by decide)
      · exact absurd y (by decide)
      · exact absurd y (by decide)
      · exact absurd y (by decide)
      · exact y)
  · intro _ _
    have eh : sr_hand (en_up (en_up g 16 0 28 6) 36 0 p 3) p = none := by
      rw [sr_hand_o (fun j => e _ _ (by omega) (by omega)) (fun j => e _ _ (by omega) (by omega)) (by rw [up_n (by omega), up_n (by omega)])]
      exact sr_hand_n R oc hp hn
    refine ⟨?_, fun z3 z4 => ?_⟩
    · unfold sr_hst
      rw [eh]
      simp only [en_ua, Nat.reduceEqDiff, eq_self, true_and, and_true, false_and, and_false, and_self, ↓reduceIte, sr_has]
    · rw [e _ _ (by omega) (by omega)] at z3
      obtain ⟨a1, a2, a3, a4, -⟩ := sr_PR_go h z3 h2
      unfold sr_IV
      rw [eh]
      unfold sr_I sr_H sr_E
      dsimp only
      rw [e 42 p (by omega) (by omega), e 25 p (by omega) (by omega), e 28 p (by omega) (by omega), e 43 p (by omega) (by omega), e 26 p (by omega) (by omega), e 30 p (by omega) (by omega)]
      exact ⟨fun z => absurd a1 z, a2, a3, fun z => absurd a4 z⟩
theorem sr_s6_5 (h : sr_s6 x) (h5 : ¬ x = 5) (h3 : ¬ x = 3) : sr_s6 (x + 1) ∧ ¬ x + 1 = 6 := by
  rcases h with rfl | rfl | rfl | rfl | rfl | rfl
  · exact ⟨Or.inr (Or.inl rfl), by decide⟩
  · exact ⟨Or.inr (Or.inr (Or.inl rfl)), by decide⟩
  · exact ⟨Or.inr (Or.inr (Or.inr (Or.inl rfl))), by decide⟩
  · exact absurd rfl h3
  · exact ⟨Or.inr (Or.inr (Or.inr (Or.inr (Or.inr rfl)))), by decide⟩
  · exact absurd rfl h5
theorem sr_good (R : sr_SR f g) (oc : md_oc g ≤ 16) (hp : p < 6) (h2 : g 36 0 p = 2) (h3 : ¬ g 16 0 28 = 3) (hv : ¬ v = 0) (hJ : ¬ g 16 0 28 = 5 → ¬ g 20 0 p = 0 → ¬ g 17 0 p = 0 → sr_J5 (g 16 0 28 + 1) (g 22 0 p) (g 23 0 p) (g 37 0 p) (g 38 0 p) (g 17 0 p)) : sr_SR (cx_eo2 (cx_cfo f p v) p v) (md_eo2 g p v) := by
  have h := sr_SR_prs R p hp
  obtain ⟨hs, e8⟩ := sr_PR_gs h h2
  have R1 := sr_flt (x := 0) R oc hp (fun _ => Or.inl rfl)
  have oc1 : md_oc (en_up g 44 0 p 0) ≤ 16 := by unfold md_oc; rw [up_n (by omega)]; exact oc
  have e : ∀ k j, ¬ k = 44 → en_up g 44 0 p 0 k 0 j = g k 0 j := fun k j z => up_n (by omega)
  rw [cx_cfo_1 hv]
  unfold cx_eo2 md_eo2 cx_goE
  rw [if_neg hv, if_neg hv, up_s, if_pos (by decide), up_n (by omega), e8, if_neg h3]
  by_cases h5 : g 16 0 28 = 5
  · rw [if_pos h5, h5, if_pos (show (5 : Int32) + 1 = 6 from rfl)]
    exact sr_ready R1 oc1 hp (by rw [e _ _ (by omega)]; exact h2) (by rw [e _ _ (by omega)]; exact h5)
  · obtain ⟨hs1, hs2⟩ := sr_s6_5 hs h5 h3
    rw [if_neg h5, if_neg hs2]
    exact sr_stepup R1 oc1 hp (by rw [e _ _ (by omega)]; exact h2) hs1 (by rw [e 20 p (by omega), e 17 p (by omega), e 22 p (by omega), e 23 p (by omega), e 37 p (by omega), e 38 p (by omega)]; exact hJ h5)
theorem sr_load (R : sr_SR f g) : ∀ m i s, i + m = 6 → cx_rc f m i s = md_ld g m i s := by
  intro m
  induction m with
  | zero => intro i s _; rfl
  | succ m ih =>
    intro i s hi
    have h := sr_SR_prs R i (by omega)
    unfold cx_rc md_ld
    rw [ih (i + 1) _ (by omega), sr_PR_vw h, sr_PR_kn h, sr_PR_co h]
    congr 1
    by_cases h3 : g 36 0 i = 3
    · rw [if_pos h3]
      rcases sr_PR_ki h with ⟨e1, e2⟩ | ⟨e1, e2⟩ | ⟨e1, e2⟩ | ⟨e1, e2⟩
      · rw [e1, e2, if_neg (fun z => by rcases z.2 with y | y; exact absurd y (by decide); exact absurd y (by decide)), Int32.add_zero]
      · rw [e1, e2, if_neg (fun z => by rcases z.2 with y | y; exact absurd y (by decide); exact absurd y (by decide)), Int32.add_zero]
      · rw [e1, if_pos ⟨h3, Or.inl rfl⟩]
      · rw [e1, if_pos ⟨h3, Or.inr rfl⟩]
    · rw [if_neg h3, if_neg (fun z => h3 z.1), Int32.add_zero]
theorem sr_stp0 (R : sr_SR f g) (oc : md_oc g ≤ 16) (hg : ∀ p, p < 6 → ¬ g 36 0 p = 2) : sr_SR f (en_up g 16 0 28 x) := by
  have e : ∀ k j, ¬ k = 16 → en_up g 16 0 28 x k 0 j = g k 0 j := fun k j z => up_n (by omega)
  refine sr_port (q := 0) R (by omega) (fun k i j z => rfl) (fun k j z z2 => up_n (by omega)) (Or.inr (fun p hp _ => hg p hp)) ?_ ?_ (sr_numq R (by omega) (e _ _ (by omega)) (by unfold sr_has; rw [e _ _ (by omega)]; exact id)) (fun _ p hp _ => hg p hp) (sr_ho R oc (by omega) (e _ _ (by omega)) (e _ _ (by omega)))
  · exact sr_PR_o (fun _ => rfl) (fun _ => rfl) (fun _ => rfl) (fun k z => e _ _ (by omega)) (Or.inr (hg 0 (by omega))) (sr_SR_prs R 0 (by omega))
  · exact sr_DP_o rfl (fun k z => e _ _ (by omega)) (fun k j _ _ => e _ _ (by omega)) (up_n (by omega)) (sr_SR_dps R 0 (by omega))
end Sr6
