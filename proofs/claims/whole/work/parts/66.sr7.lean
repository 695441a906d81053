/-! THE TWO STATES SIDE BY SIDE, 7: an enumeration's transaction -/
section Sr7
variable {p k n m q i j : Nat} {f g f' g' : en_F} {v w a b x : Int32}
theorem sr_setat (R : sr_SR f g) (oc : md_oc g ≤ 16) (hp : p < 6) (h2 : g 36 0 p = 2) (hJ : ¬ g 20 0 p = 0 → ¬ g 17 0 p = 0 → sr_J5 (g 16 0 28) (g 22 0 p) v (g 37 0 p) (g 38 0 p) (g 17 0 p)) : sr_SR (en_up f 4 p 7 v) (en_up g 23 0 p v) := by
  have h := sr_SR_prs R p hp
  refine sr_quiet R oc hp (fun k i j z => up_n (by omega)) (fun k j z => up_n (by omega)) (up_n (by omega)) (up_n (by omega)) (up_n (by omega)) ?_ (sr_DP_o (up_n (by omega)) (fun k z => up_n (by omega)) (fun k j _ _ => up_n (by omega)) (up_n (by omega)) (sr_SR_dps R p hp))
  exact sr_PR_mk (by simp only [en_ua, Nat.reduceEqDiff, eq_self, true_and, and_true, false_and, and_false, and_self, ↓reduceIte, sr_has]; exact sr_PR_vw h) (by simp only [en_ua, Nat.reduceEqDiff, eq_self, true_and, and_true, false_and, and_false, and_self, ↓reduceIte, sr_has]; exact sr_PR_kd h) (by simp only [en_ua, Nat.reduceEqDiff, eq_self, true_and, and_true, false_and, and_false, and_self, ↓reduceIte, sr_has]; exact sr_PR_op h) (by simp only [en_ua, Nat.reduceEqDiff, eq_self, true_and, and_true, false_and, and_false, and_self, ↓reduceIte, sr_has]; exact sr_PR_ch h) (by simp only [en_ua, Nat.reduceEqDiff, eq_self, true_and, and_true, false_and, and_false, and_self, ↓reduceIte, sr_has]; exact sr_PR_cb h) (by simp only [en_ua, Nat.reduceEqDiff, eq_self, true_and, and_true, false_and, and_false, and_self, ↓reduceIte, sr_has]; exact sr_PR_cf h) (by simp only [en_ua, Nat.reduceEqDiff, eq_self, true_and, and_true, false_and, and_false, and_self, ↓reduceIte, sr_has]; exact sr_PR_cc h) (by simp only [en_ua, Nat.reduceEqDiff, eq_self, true_and, and_true, false_and, and_false, and_self, ↓reduceIte, sr_has]; exact sr_PR_kn h) (by simp only [en_ua, Nat.reduceEqDiff, eq_self, true_and, and_true, false_and, and_false, and_self, ↓reduceIte, sr_has]; exact sr_PR_bk h) (by simp only [en_ua, Nat.reduceEqDiff, eq_self, true_and, and_true, false_and, and_false, and_self, ↓reduceIte, sr_has]; exact sr_PR_co h) (by simp only [en_ua, Nat.reduceEqDiff, eq_self, true_and, and_true, false_and, and_false, and_self, ↓reduceIte, sr_has]; exact sr_PR_hi h) (by simp only [en_ua, Nat.reduceEqDiff, eq_self, true_and, and_true, false_and, and_false, and_self, ↓reduceIte, sr_has]; exact sr_PR_ho h) (by simp only [en_ua, Nat.reduceEqDiff, eq_self, true_and, and_true, false_and, and_false, and_self, ↓reduceIte, sr_has]; exact sr_PR_fa h) (by simp only [en_ua, Nat.reduceEqDiff, eq_self, true_and, and_true, false_and, and_false, and_self, ↓reduceIte, sr_has]; exact sr_PR_bi h) (by simp only [en_ua, Nat.reduceEqDiff, eq_self, true_and, and_true, false_and, and_false, and_self, ↓reduceIte, sr_has]; exact sr_PR_bo h) (by simp only [en_ua, Nat.reduceEqDiff, eq_self, true_and, and_true, false_and, and_false, and_self, ↓reduceIte, sr_has]; exact sr_PR_iv h) (by simp only [en_ua, Nat.reduceEqDiff, eq_self, true_and, and_true, false_and, and_false, and_self, ↓reduceIte, sr_has]; exact sr_PR_ah h) (by simp only [en_ua, Nat.reduceEqDiff, eq_self, true_and, and_true, false_and, and_false, and_self, ↓reduceIte, sr_has]; exact sr_PR_an h) (by simp only [en_ua, Nat.reduceEqDiff, eq_self, true_and, and_true, false_and, and_false, and_self, ↓reduceIte, sr_has]; exact sr_PR_nu h) (by simp only [en_ua, Nat.reduceEqDiff, eq_self, true_and, and_true, false_and, and_false, and_self, ↓reduceIte, sr_has]; exact sr_PR_fl h) (by simp only [en_ua, Nat.reduceEqDiff, eq_self, true_and, and_true, false_and, and_false, and_self, ↓reduceIte, sr_has]; exact sr_PR_ki h) (by simp only [en_ua, Nat.reduceEqDiff, eq_self, true_and, and_true, false_and, and_false, and_self, ↓reduceIte, sr_has]; exact sr_PR_dv h) (by simp only [en_ua, Nat.reduceEqDiff, eq_self, true_and, and_true, false_and, and_false, and_self, ↓reduceIte, sr_has]; exact sr_PR_oh h) (by simp only [en_ua, Nat.reduceEqDiff, eq_self, true_and, and_true, false_and, and_false, and_self, ↓reduceIte, sr_has]; exact sr_PR_gs h) (fun z => by
      rw [up_n (by omega)] at z
      have D := sr_PR_od h z
      exact sr_OD_mk (by simp only [en_ua, Nat.reduceEqDiff, eq_self, true_and, and_true, false_and, and_false, and_self, ↓reduceIte, sr_has]; exact sr_OD_ow D) (Or.inl (by simp only [en_ua, Nat.reduceEqDiff, eq_self, true_and, and_true, false_and, and_false, and_self, ↓reduceIte, sr_has])) (by simp only [en_ua, Nat.reduceEqDiff, eq_self, true_and, and_true, false_and, and_false, and_self, ↓reduceIte, sr_has]; exact sr_OD_it D) (by simp only [en_ua, Nat.reduceEqDiff, eq_self, true_and, and_true, false_and, and_false, and_self, ↓reduceIte, sr_has]; exact sr_OD_ot D) (by simp only [en_ua, Nat.reduceEqDiff, eq_self, true_and, and_true, false_and, and_false, and_self, ↓reduceIte, sr_has]; exact sr_OD_b1 D) (by simp only [en_ua, Nat.reduceEqDiff, eq_self, true_and, and_true, false_and, and_false, and_self, ↓reduceIte, sr_has]; exact sr_OD_b2 D) (by simp only [en_ua, Nat.reduceEqDiff, eq_self, true_and, and_true, false_and, and_false, and_self, ↓reduceIte, sr_has]; exact sr_OD_hd D) (by simp only [en_ua, Nat.reduceEqDiff, eq_self, true_and, and_true, false_and, and_false, and_self, ↓reduceIte, sr_has]; exact sr_OD_pk D) (by simp only [en_ua, Nat.reduceEqDiff, eq_self, true_and, and_true, false_and, and_false, and_self, ↓reduceIte, sr_has]; exact sr_OD_bu D) (by simp only [en_ua, Nat.reduceEqDiff, eq_self, true_and, and_true, false_and, and_false, and_self, ↓reduceIte, sr_has]; exact sr_OD_b3 D) (by simp only [en_ua, Nat.reduceEqDiff, eq_self, true_and, and_true, false_and, and_false, and_self, ↓reduceIte, sr_has]; exact sr_OD_wk D) (by simp only [en_ua, Nat.reduceEqDiff, eq_self, true_and, and_true, false_and, and_false, and_self, ↓reduceIte, sr_has]; exact sr_OD_w3 D) (by simp only [en_ua, Nat.reduceEqDiff, eq_self, true_and, and_true, false_and, and_false, and_self, ↓reduceIte, sr_has]; exact sr_OD_al D) (by simp only [en_ua, Nat.reduceEqDiff, eq_self, true_and, and_true, false_and, and_false, and_self, ↓reduceIte, sr_has]; exact sr_OD_hb D)) (fun z1 z2 => by
      rw [up_n (by omega)] at z1 z2
      obtain ⟨a1, a2, a3, a4, a5⟩ := sr_PR_go h z1 z2
      unfold sr_GO
      simp only [en_ua, Nat.reduceEqDiff, eq_self, true_and, and_true, false_and, and_false, and_self, ↓reduceIte, sr_has]
      exact ⟨a1, a2, a3, a4, hJ z1⟩) (fun _ z => by
      rw [up_n (by omega), h2] at z
      exact absurd z (by decide))
theorem sr_setown (R : sr_SR f g) (oc : md_oc g ≤ 16) (hp : p < 6) (h2 : g 36 0 p = 2) (e7 : f 4 p 7 = g 23 0 p) (hJ : ¬ g 20 0 p = 0 → ¬ g 17 0 p = 0 → sr_J5 (g 16 0 28) v (g 23 0 p) (g 37 0 p) (g 38 0 p) (g 17 0 p)) : sr_SR (en_up f 4 p 6 v) (en_up g 22 0 p v) := by
  have h := sr_SR_prs R p hp
  refine sr_quiet R oc hp (fun k i j z => up_n (by omega)) (fun k j z => up_n (by omega)) (up_n (by omega)) (up_n (by omega)) (up_n (by omega)) ?_ (sr_DP_o (up_n (by omega)) (fun k z => up_n (by omega)) (fun k j _ _ => up_n (by omega)) (up_n (by omega)) (sr_SR_dps R p hp))
  exact sr_PR_mk (by simp only [en_ua, Nat.reduceEqDiff, eq_self, true_and, and_true, false_and, and_false, and_self, ↓reduceIte, sr_has]; exact sr_PR_vw h) (by simp only [en_ua, Nat.reduceEqDiff, eq_self, true_and, and_true, false_and, and_false, and_self, ↓reduceIte, sr_has]; exact sr_PR_kd h) (by simp only [en_ua, Nat.reduceEqDiff, eq_self, true_and, and_true, false_and, and_false, and_self, ↓reduceIte, sr_has]; exact sr_PR_op h) (by simp only [en_ua, Nat.reduceEqDiff, eq_self, true_and, and_true, false_and, and_false, and_self, ↓reduceIte, sr_has]; exact sr_PR_ch h) (by simp only [en_ua, Nat.reduceEqDiff, eq_self, true_and, and_true, false_and, and_false, and_self, ↓reduceIte, sr_has]; exact sr_PR_cb h) (by simp only [en_ua, Nat.reduceEqDiff, eq_self, true_and, and_true, false_and, and_false, and_self, ↓reduceIte, sr_has]; exact sr_PR_cf h) (by simp only [en_ua, Nat.reduceEqDiff, eq_self, true_and, and_true, false_and, and_false, and_self, ↓reduceIte, sr_has]; exact sr_PR_cc h) (by simp only [en_ua, Nat.reduceEqDiff, eq_self, true_and, and_true, false_and, and_false, and_self, ↓reduceIte, sr_has]; exact sr_PR_kn h) (by simp only [en_ua, Nat.reduceEqDiff, eq_self, true_and, and_true, false_and, and_false, and_self, ↓reduceIte, sr_has]; exact sr_PR_bk h) (by simp only [en_ua, Nat.reduceEqDiff, eq_self, true_and, and_true, false_and, and_false, and_self, ↓reduceIte, sr_has]; exact sr_PR_co h) (by simp only [en_ua, Nat.reduceEqDiff, eq_self, true_and, and_true, false_and, and_false, and_self, ↓reduceIte, sr_has]; exact sr_PR_hi h) (by simp only [en_ua, Nat.reduceEqDiff, eq_self, true_and, and_true, false_and, and_false, and_self, ↓reduceIte, sr_has]; exact sr_PR_ho h) (by simp only [en_ua, Nat.reduceEqDiff, eq_self, true_and, and_true, false_and, and_false, and_self, ↓reduceIte, sr_has]; exact sr_PR_fa h) (by simp only [en_ua, Nat.reduceEqDiff, eq_self, true_and, and_true, false_and, and_false, and_self, ↓reduceIte, sr_has]; exact sr_PR_bi h) (by simp only [en_ua, Nat.reduceEqDiff, eq_self, true_and, and_true, false_and, and_false, and_self, ↓reduceIte, sr_has]; exact sr_PR_bo h) (by simp only [en_ua, Nat.reduceEqDiff, eq_self, true_and, and_true, false_and, and_false, and_self, ↓reduceIte, sr_has]; exact sr_PR_iv h) (by simp only [en_ua, Nat.reduceEqDiff, eq_self, true_and, and_true, false_and, and_false, and_self, ↓reduceIte, sr_has]; exact sr_PR_ah h) (by simp only [en_ua, Nat.reduceEqDiff, eq_self, true_and, and_true, false_and, and_false, and_self, ↓reduceIte, sr_has]; exact sr_PR_an h) (by simp only [en_ua, Nat.reduceEqDiff, eq_self, true_and, and_true, false_and, and_false, and_self, ↓reduceIte, sr_has]; exact sr_PR_nu h) (by simp only [en_ua, Nat.reduceEqDiff, eq_self, true_and, and_true, false_and, and_false, and_self, ↓reduceIte, sr_has]; exact sr_PR_fl h) (by simp only [en_ua, Nat.reduceEqDiff, eq_self, true_and, and_true, false_and, and_false, and_self, ↓reduceIte, sr_has]; exact sr_PR_ki h) (by simp only [en_ua, Nat.reduceEqDiff, eq_self, true_and, and_true, false_and, and_false, and_self, ↓reduceIte, sr_has]; exact sr_PR_dv h) (by simp only [en_ua, Nat.reduceEqDiff, eq_self, true_and, and_true, false_and, and_false, and_self, ↓reduceIte, sr_has]; exact sr_PR_oh h) (by simp only [en_ua, Nat.reduceEqDiff, eq_self, true_and, and_true, false_and, and_false, and_self, ↓reduceIte, sr_has]; exact sr_PR_gs h) (fun z => by
      rw [up_n (by omega)] at z
      have D := sr_PR_od h z
      exact sr_OD_mk (by simp only [en_ua, Nat.reduceEqDiff, eq_self, true_and, and_true, false_and, and_false, and_self, ↓reduceIte, sr_has]) (Or.inl (by simp only [en_ua, Nat.reduceEqDiff, eq_self, true_and, and_true, false_and, and_false, and_self, ↓reduceIte, sr_has]; exact e7)) (by simp only [en_ua, Nat.reduceEqDiff, eq_self, true_and, and_true, false_and, and_false, and_self, ↓reduceIte, sr_has]; exact sr_OD_it D) (by simp only [en_ua, Nat.reduceEqDiff, eq_self, true_and, and_true, false_and, and_false, and_self, ↓reduceIte, sr_has]; exact sr_OD_ot D) (by simp only [en_ua, Nat.reduceEqDiff, eq_self, true_and, and_true, false_and, and_false, and_self, ↓reduceIte, sr_has]; exact sr_OD_b1 D) (by simp only [en_ua, Nat.reduceEqDiff, eq_self, true_and, and_true, false_and, and_false, and_self, ↓reduceIte, sr_has]; exact sr_OD_b2 D) (by simp only [en_ua, Nat.reduceEqDiff, eq_self, true_and, and_true, false_and, and_false, and_self, ↓reduceIte, sr_has]; exact sr_OD_hd D) (by simp only [en_ua, Nat.reduceEqDiff, eq_self, true_and, and_true, false_and, and_false, and_self, ↓reduceIte, sr_has]; exact sr_OD_pk D) (by simp only [en_ua, Nat.reduceEqDiff, eq_self, true_and, and_true, false_and, and_false, and_self, ↓reduceIte, sr_has]; exact sr_OD_bu D) (by simp only [en_ua, Nat.reduceEqDiff, eq_self, true_and, and_true, false_and, and_false, and_self, ↓reduceIte, sr_has]; exact sr_OD_b3 D) (by simp only [en_ua, Nat.reduceEqDiff, eq_self, true_and, and_true, false_and, and_false, and_self, ↓reduceIte, sr_has]; exact sr_OD_wk D) (by simp only [en_ua, Nat.reduceEqDiff, eq_self, true_and, and_true, false_and, and_false, and_self, ↓reduceIte, sr_has]; exact sr_OD_w3 D) (by simp only [en_ua, Nat.reduceEqDiff, eq_self, true_and, and_true, false_and, and_false, and_self, ↓reduceIte, sr_has]; exact sr_OD_al D) (by simp only [en_ua, Nat.reduceEqDiff, eq_self, true_and, and_true, false_and, and_false, and_self, ↓reduceIte, sr_has]; exact sr_OD_hb D)) (fun z1 z2 => by
      rw [up_n (by omega)] at z1 z2
      obtain ⟨a1, a2, a3, a4, a5⟩ := sr_PR_go h z1 z2
      unfold sr_GO
      simp only [en_ua, Nat.reduceEqDiff, eq_self, true_and, and_true, false_and, and_false, and_self, ↓reduceIte, sr_has]
      exact ⟨a1, a2, a3, a4, hJ z1⟩) (fun _ z => by
      rw [up_n (by omega), h2] at z
      exact absurd z (by decide))
theorem md_clp {h : en_F} (hq : q < 6) : md_lp (md_cst q) 4 2 h = if h 17 0 q = 3 ∧ q < 2 then en_up (en_up h 21 0 (2 * q + 2) (if h 17 0 (2 * q + 2) = 0 then 0 else 1)) 21 0 (2 * q + 3) (if h 17 0 (2 * q + 3) = 0 then 0 else 1) else h := by
  have hc : q = 0 ∨ q = 1 ∨ q = 2 ∨ q = 3 ∨ q = 4 ∨ q = 5 := by omega
  rcases hc with rfl | rfl | rfl | rfl | rfl | rfl
  · by_cases h3 : h 17 0 0 = 3 <;> simp [md_lp, md_cst, h3, en_up]
  · by_cases h3 : h 17 0 1 = 3 <;> simp [md_lp, md_cst, h3, en_up]
  all_goals simp [md_lp, md_cst]
theorem sr_conf (R : sr_SR f g) (oc : md_oc g ≤ 16) (hq : q < 6) : sr_SR (cx_conf f q) (md_conf g q) := by
  have R1 := sr_cfg (x := 1) R oc hq
  have oc1 : md_oc (en_up g 24 0 q 1) ≤ 16 := by unfold md_oc; rw [up_n (by omega)]; exact oc
  have h := sr_SR_prs R q hq
  unfold cx_conf md_conf
  rw [md_clp hq, up_n (by omega), sr_PR_kd h]
  by_cases h3 : g 17 0 q = 3 ∧ q < 2
  · rw [if_pos h3, if_pos h3, up_n (by omega), up_n (by omega), sr_PR_kd (sr_SR_prs R (2 * q + 2) (by omega)), sr_PR_kd (sr_SR_prs R (2 * q + 3) (by omega))]
    have hb : ∀ y : Int32, sr_bt (if y = 0 then 0 else 1) := fun y => by
      by_cases z : y = 0
      · rw [if_pos z]; exact Or.inl rfl
      · rw [if_neg z]; exact Or.inr rfl
    refine sr_chg (sr_chg R1 oc1 (by omega) (hb _)) ?_ (by omega) (hb _)
    unfold md_oc; rw [up_n (by omega), up_n (by omega)]; exact oc
  · rw [if_neg h3, if_neg h3]
    exact R1
theorem md_conf_k {g : en_F} (hq : q < 6) (h1 : ¬ k = 21) (h2 : ¬ k = 24) : md_conf g q k 0 j = g k 0 j := by
  unfold md_conf
  rw [md_clp hq]
  split
  · rw [up_n (by omega), up_n (by omega), up_n (by omega)]
  · rw [up_n (by omega)]
theorem sr_learn (R : sr_SR f g) (oc : md_oc g ≤ 16) (hp : p < 6) (h2 : g 36 0 p = 2) (h3 : g 16 0 28 = 3) (hk : ¬ g 17 0 p = 0) : sr_SR (cx_learn f p p) (md_des1 g p p) := by
  have h := sr_SR_prs R p hp
  have e : ∀ k j, ¬ (k = 38 ∨ k = 39 ∨ k = 40 ∨ k = 41) → md_des1 g p p k 0 j = g k 0 j := fun k j z => by
    unfold md_des1
    rw [up_n (by omega), up_n (by omega), up_n (by omega), up_n (by omega)]
  have dv := sr_PR_dv h
  refine sr_port R hp (fun k i j z => ?_) (fun k j z z2 => ?_) (Or.inl (e _ _ (by omega))) ?_ ?_ (sr_numq R hp (e _ _ (by omega)) (by unfold sr_has; rw [e _ _ (by omega)]; exact id)) (fun _ => sr_oneq R hp h2) (Or.inr (sr_live R oc hp (by rw [h2]; exact fun z => absurd z.1 (by decide))))
  · unfold cx_learn
    rw [up_n (by omega), up_n (by omega), up_n (by omega), up_n (by omega)]
  · unfold md_des1
    rw [up_n (by omega), up_n (by omega), up_n (by omega), up_n (by omega)]
  · exact sr_PR_mk (by simp only [cx_learn, md_des1, en_ua, Nat.reduceEqDiff, eq_self, true_and, and_true, false_and, and_false, and_self, ↓reduceIte, sr_has]; exact sr_PR_vw h) (by simp only [cx_learn, md_des1, en_ua, Nat.reduceEqDiff, eq_self, true_and, and_true, false_and, and_false, and_self, ↓reduceIte, sr_has]; exact sr_PR_kd h) (by simp only [cx_learn, md_des1, en_ua, Nat.reduceEqDiff, eq_self, true_and, and_true, false_and, and_false, and_self, ↓reduceIte, sr_has]; exact sr_PR_op h) (by simp only [cx_learn, md_des1, en_ua, Nat.reduceEqDiff, eq_self, true_and, and_true, false_and, and_false, and_self, ↓reduceIte, sr_has]; exact sr_PR_ch h) (by simp only [cx_learn, md_des1, en_ua, Nat.reduceEqDiff, eq_self, true_and, and_true, false_and, and_false, and_self, ↓reduceIte, sr_has]; exact sr_PR_cb h) (by simp only [cx_learn, md_des1, en_ua, Nat.reduceEqDiff, eq_self, true_and, and_true, false_and, and_false, and_self, ↓reduceIte, sr_has]; exact sr_PR_cf h) (by simp only [cx_learn, md_des1, en_ua, Nat.reduceEqDiff, eq_self, true_and, and_true, false_and, and_false, and_self, ↓reduceIte, sr_has]; exact sr_PR_cc h) (by simp only [cx_learn, md_des1, en_ua, Nat.reduceEqDiff, eq_self, true_and, and_true, false_and, and_false, and_self, ↓reduceIte, sr_has]; exact sr_PR_kd h) (by
      simp only [cx_learn, md_des1, en_ua, Nat.reduceEqDiff, eq_self, true_and, and_true, false_and, and_false, and_self, ↓reduceIte, sr_has]
      rcases dv with y | ⟨y, s, -⟩ | ⟨y, -, -, s, -⟩ | ⟨y, -, s⟩
      · exact absurd y hk
      · rw [y, if_pos rfl]; exact s
      · rw [y, if_neg (by decide)]; exact s
      · rw [y, if_neg (by decide)]; exact s) (by
      simp only [cx_learn, md_des1, en_ua, Nat.reduceEqDiff, eq_self, true_and, and_true, false_and, and_false, and_self, ↓reduceIte, sr_has]
      rcases dv with y | ⟨y, -, -, s, -⟩ | ⟨y, -, s, -⟩ | ⟨y, s, -⟩
      · exact absurd y hk
      · rw [y, if_neg (by decide), if_neg (by decide)]; exact s
      · rw [y, if_pos rfl]; exact s
      · rw [y, if_neg (by decide), if_pos rfl]; exact s) (by simp only [cx_learn, md_des1, en_ua, Nat.reduceEqDiff, eq_self, true_and, and_true, false_and, and_false, and_self, ↓reduceIte, sr_has]; exact sr_PR_hi h) (by simp only [cx_learn, md_des1, en_ua, Nat.reduceEqDiff, eq_self, true_and, and_true, false_and, and_false, and_self, ↓reduceIte, sr_has]; exact sr_PR_ho h) (by simp only [cx_learn, md_des1, en_ua, Nat.reduceEqDiff, eq_self, true_and, and_true, false_and, and_false, and_self, ↓reduceIte, sr_has]; exact sr_PR_fa h) (by simp only [cx_learn, md_des1, en_ua, Nat.reduceEqDiff, eq_self, true_and, and_true, false_and, and_false, and_self, ↓reduceIte, sr_has]; exact sr_PR_bi h) (by simp only [cx_learn, md_des1, en_ua, Nat.reduceEqDiff, eq_self, true_and, and_true, false_and, and_false, and_self, ↓reduceIte, sr_has]; exact sr_PR_bo h) (by
      simp only [cx_learn, md_des1, en_ua, Nat.reduceEqDiff, eq_self, true_and, and_true, false_and, and_false, and_self, ↓reduceIte, sr_has]
      intro y2
      rcases dv with y | ⟨y, -, -, s, -⟩ | ⟨y, s, -, -, s2, -⟩ | ⟨y, s, -⟩
      · exact absurd y hk
      · rw [y] at y2; exact absurd y2 (by decide)
      · rw [y, if_pos rfl]; exact ⟨s, s2⟩
      · rw [y] at y2; exact absurd y2 (by decide)) (by simp only [cx_learn, md_des1, en_ua, Nat.reduceEqDiff, eq_self, true_and, and_true, false_and, and_false, and_self, ↓reduceIte, sr_has]; exact sr_PR_ah h) (by simp only [cx_learn, md_des1, en_ua, Nat.reduceEqDiff, eq_self, true_and, and_true, false_and, and_false, and_self, ↓reduceIte, sr_has]; exact sr_PR_an h) (by simp only [cx_learn, md_des1, en_ua, Nat.reduceEqDiff, eq_self, true_and, and_true, false_and, and_false, and_self, ↓reduceIte, sr_has]; exact sr_PR_nu h) (by simp only [cx_learn, md_des1, en_ua, Nat.reduceEqDiff, eq_self, true_and, and_true, false_and, and_false, and_self, ↓reduceIte, sr_has]; exact sr_PR_fl h) (by
      simp only [cx_learn, md_des1, en_ua, Nat.reduceEqDiff, eq_self, true_and, and_true, false_and, and_false, and_self, ↓reduceIte, sr_has]
      rcases dv with y | ⟨y, -, -, s, -⟩ | ⟨y, -, -, -, -, s⟩ | ⟨y, s, -⟩
      · exact absurd y hk
      · rw [y, if_neg (by decide), if_neg (by decide)]; exact Or.inr (Or.inl ⟨rfl, rfl⟩)
      · rw [y, if_pos rfl]; exact Or.inr (Or.inr (Or.inl ⟨rfl, s⟩))
      · rw [y, if_neg (by decide), if_pos rfl]; exact Or.inr (Or.inr (Or.inr ⟨rfl, by decide⟩))) (by simp only [cx_learn, md_des1, en_ua, Nat.reduceEqDiff, eq_self, true_and, and_true, false_and, and_false, and_self, ↓reduceIte, sr_has]; exact sr_PR_dv h) (by simp only [cx_learn, md_des1, en_ua, Nat.reduceEqDiff, eq_self, true_and, and_true, false_and, and_false, and_self, ↓reduceIte, sr_has]; exact sr_PR_oh h) (by simp only [cx_learn, md_des1, en_ua, Nat.reduceEqDiff, eq_self, true_and, and_true, false_and, and_false, and_self, ↓reduceIte, sr_has]; exact sr_PR_gs h) (by simp only [cx_learn, md_des1, sr_OD, en_ua, Nat.reduceEqDiff, eq_self, true_and, and_true, false_and, and_false, and_self, ↓reduceIte, sr_has]; exact sr_PR_od h) (fun z1 z2 => by
      rw [e _ _ (by omega)] at z1 z2
      obtain ⟨a1, a2, a3, a4, a5⟩ := sr_PR_go h z1 z2
      unfold sr_GO
      simp only [md_des1, en_ua, Nat.reduceEqDiff, eq_self, true_and, and_true, false_and, and_false, and_self, ↓reduceIte, sr_has]
      refine ⟨a1, a2, a3, a4, fun z3 => ?_⟩
      have J := a5 z3
      rw [h3] at J ⊢
      rcases J with ⟨y, -⟩ | ⟨y, -⟩ | ⟨y, -⟩ | y | ⟨y, -⟩
      · exact absurd y (by decide)
      · exact absurd y (by decide)
      · exact absurd y (by decide)
      · exact Or.inr (Or.inr (Or.inr (Or.inl y)))
      · rcases y with y | y
        · exact absurd y (by decide)
        · exact absurd y (by decide)) (fun _ z => by
      rw [e _ _ (by omega), h2] at z
      exact absurd z (by decide))
  · intro z; rw [e _ _ (by omega), h2] at z; exact absurd z (by decide)
theorem sr_fin (R : sr_SR f g) (oc : md_oc g ≤ 16) (hp : p < 6) (h2 : g 36 0 p = 2) (h3 : ¬ g 16 0 28 = 3) (hJ : ¬ g 16 0 28 = 5 → ¬ g 20 0 p = 0 → ¬ g 17 0 p = 0 → sr_J5 (g 16 0 28 + 1) (g 22 0 p) (g 23 0 p) (g 37 0 p) (g 38 0 p) (g 17 0 p)) {c : Prop} {d1 : Decidable c} : sr_SR (cx_eo2 (cx_cfo f p (@ite _ c d1 0 1)) p (@ite _ c d1 0 1)) (md_eo2 g p (@ite _ c d1 0 1)) := by
  by_cases hc : c
  · rw [if_pos hc]; exact sr_bad R oc hp h2
  · rw [if_neg hc]; exact sr_good R oc hp h2 h3 (by decide) hJ
/-- the answer to step 3 -/
theorem sr_described (R : sr_SR f g) (oc : md_oc g ≤ 16) (hp : p < 6) (h2 : g 36 0 p = 2) (h3 : g 16 0 28 = 3) (ho : ¬ g 20 0 p = 0) (hk : ¬ g 17 0 p = 0) : sr_SR (cx_eo2 (cx_cfo (cx_learn f p p) p 1) p 1) (md_eo2 (md_des g p p) p 1) := by
  have R1 := sr_learn R oc hp h2 h3 hk
  have e : ∀ k j, ¬ (k = 38 ∨ k = 39 ∨ k = 40 ∨ k = 41) → md_des1 g p p k 0 j = g k 0 j := fun k j z => by
    unfold md_des1
    rw [up_n (by omega), up_n (by omega), up_n (by omega), up_n (by omega)]
  have oc1 : md_oc (md_des1 g p p) ≤ 16 := by unfold md_oc; rw [e _ _ (by omega)]; exact oc
  have h := sr_SR_prs R1 p hp
  have R2 := sr_flt (x := 0) R1 oc1 hp (fun _ => Or.inl rfl)
  have e' : ∀ k j, ¬ k = 44 → en_up (md_des1 g p p) 44 0 p 0 k 0 j = md_des1 g p p k 0 j := fun k j z => up_n (by omega)
  have oc2 : md_oc (en_up (md_des1 g p p) 44 0 p 0) ≤ 16 := by unfold md_oc; rw [e' _ _ (by omega)]; exact oc1
  have e8 : cx_learn f p p 3 p 8 = 3 := by
    rw [(sr_PR_gs h (by rw [e _ _ (by omega)]; exact h2)).2, e _ _ (by omega)]; exact h3
  have e38 : md_des1 g p p 38 0 p = g 17 0 p := by simp only [md_des1, en_ua, Nat.reduceEqDiff, eq_self, true_and, and_true, false_and, and_false, and_self, ↓reduceIte, sr_has]
  have hload : cx_rc (en_up (cx_learn f p p) 3 p 7 0) 6 0 0 = md_ld (md_des1 g p p) 6 0 0 := by
    rw [sr_load R2 6 0 0 rfl]
    have : ∀ m i s, md_ld (en_up (md_des1 g p p) 44 0 p 0) m i s = md_ld (md_des1 g p p) m i s := by
      intro m
      induction m with
      | zero => intro i s; rfl
      | succ m ih => intro i s; unfold md_ld; rw [ih, e' _ _ (by omega), e' _ _ (by omega)]
    exact this 6 0 0
  have hl : ¬ (en_up (md_des1 g p p) 44 0 p 0 36 0 p = 3 ∧ en_up (md_des1 g p p) 44 0 p 0 38 0 p = 1) := by
    rw [e' _ _ (by omega), e _ _ (by omega), h2]; exact fun z => absurd z.1 (by decide)
  have hng : ∀ v, ¬ v = 2 → ∀ q, q < 6 → ¬ md_fails (en_up (md_des1 g p p) 44 0 p 0) p v 36 0 q = 2 := fun v hv q hq z => by
    rw [md_fails_36] at z
    by_cases hqp : q = p
    · rw [if_pos hqp] at z; exact hv z
    · rw [if_neg hqp, e' _ _ (by omega), e _ _ (by omega)] at z
      exact hqp (sr_SR_one R q p hq hp z h2)
  have fin : ∀ v, ¬ v = 2 → ¬ v = 3 → sr_SR (cx_leave (en_up (cx_learn f p p) 3 p 7 0) p v) (en_up (en_up (md_fails (md_des1 g p p) p v) 44 0 p 0) 16 0 28 4) := fun v hv hv3 => by
    rw [← md_fails_44]
    exact sr_stp0 (sr_fail R2 oc2 hp hv hv3 hl) (by rw [md_fails_oc]; exact oc2) (hng v hv)
  have ev : ∀ v, md_fails (md_des1 g p p) p v 16 0 28 = 3 := fun v => by
    unfold md_fails
    rw [up_n (by omega), up_n (by omega), e _ _ (by omega)]; exact h3
  rw [cx_cfo_1 (by decide)]
  unfold cx_eo2 cx_goE md_des
  rw [up_s, if_pos (by decide), if_neg (by decide), up_n (by omega), e8, if_neg (show ¬ (3 : Int32) = 5 by decide), if_pos rfl, up_n (by omega), up_n (by omega), hload, sr_PR_kn h, sr_PR_co h, e38]
  by_cases c1 : g 17 0 p = 3 ∧ ¬ p < 2
  · rw [if_pos c1, if_pos c1]
    unfold md_eo2
    rw [if_neg (by decide), ev, if_neg (by decide)]
    exact fin 5 (by decide) (by decide)
  · rw [if_neg c1, if_neg c1]
    have hpos : (¬ g 17 0 p = 1 ∧ 90 < md_des1 g p p 41 0 p + md_ld (md_des1 g p p) 6 0 0) ↔ (0 < md_des1 g p p 41 0 p ∧ 90 < md_des1 g p p 41 0 p + md_ld (md_des1 g p p) 6 0 0) := by
      have ki := sr_PR_ki h
      rw [e38] at ki
      constructor
      · intro ⟨z1, z2⟩
        refine ⟨?_, z2⟩
        rcases ki with ⟨y, -⟩ | ⟨y, -⟩ | ⟨-, y⟩ | ⟨-, y⟩
        · exact absurd y hk
        · exact absurd y z1
        · exact y
        · exact y
      · intro ⟨z1, z2⟩
        refine ⟨fun y => ?_, z2⟩
        rcases ki with ⟨u, -⟩ | ⟨-, u⟩ | ⟨u, -⟩ | ⟨u, -⟩
        · exact hk u
        · rw [u] at z1; exact absurd z1 (by decide)
        · rw [u] at y; exact absurd y (by decide)
        · rw [u] at y; exact absurd y (by decide)
    by_cases c2 : 0 < md_des1 g p p 41 0 p ∧ 90 < md_des1 g p p 41 0 p + md_ld (md_des1 g p p) 6 0 0
    · rw [if_pos (hpos.mpr c2), if_pos c2]
      unfold md_eo2
      rw [if_neg (by decide), ev, if_neg (by decide)]
      exact fin 7 (by decide) (by decide)
    · rw [if_neg (fun z => c2 (hpos.mp z)), if_neg c2]
      unfold md_eo2
      rw [if_neg (by decide), e 16 28 (by omega), h3, if_neg (by decide)]
      refine sr_stepup R2 oc2 hp (by rw [e' _ _ (by omega), e _ _ (by omega)]; exact h2) (Or.inr (Or.inr (Or.inr (Or.inr (Or.inl rfl))))) (fun z1 z2 => ?_)
      obtain ⟨-, -, -, -, a5⟩ := sr_PR_go (sr_SR_prs R p hp) ho h2
      have J := a5 hk
      rw [h3] at J
      rw [e' 22 p (by omega), e' 23 p (by omega), e' 37 p (by omega), e' 38 p (by omega), e' 17 p (by omega), e 22 p (by omega), e 23 p (by omega), e 37 p (by omega), e38, e 17 p (by omega)]
      rcases J with ⟨y, -⟩ | ⟨y, -⟩ | ⟨y, -⟩ | ⟨-, y1, y2⟩ | ⟨y, -⟩
      · exact absurd y (by decide)
      · exact absurd y (by decide)
      · exact absurd y (by decide)
      · exact Or.inr (Or.inr (Or.inr (Or.inr ⟨Or.inl rfl, y1, y2, rfl⟩)))
      · rcases y with y | y
        · exact absurd y (by decide)
        · exact absurd y (by decide)
end Sr7
