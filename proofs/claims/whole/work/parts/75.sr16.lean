/-! THE TWO STATES SIDE BY SIDE, 16: plugging and unplugging -/
section Sr16
variable {p k n m q i j s c : Nat} {f g f' g' F G : en_F} {v w a b x r e : Int32}
theorem sr_mark (R : sr_SR f g) (oc : md_oc g ≤ 16) (hp : p < 6) : sr_SR (cx_mark f p) (md_marks g p) := by
  have P := sr_SR_prs R p hp
  unfold cx_mark md_marks
  rw [sr_PR_cf (sr_SR_prs R (p / 2 - 1) (by omega))]
  by_cases h : p < 2 ∨ ¬ g 24 0 (p / 2 - 1) = 0
  · rw [if_pos h, if_pos (Or.inr h)]
    exact sr_chg R oc hp (Or.inr rfl)
  · rw [if_neg h]
    have : (if ¬ g 21 0 p = 0 ∨ p < 2 ∨ ¬ g 24 0 (p / 2 - 1) = 0 then (1 : Int32) else 0) = g 21 0 p := by
      rcases sr_PR_cb P with z | z
      · rw [z, if_neg (fun y => by rcases y with y | y; exact y rfl; exact h y)]
      · rw [z, if_pos (Or.inl (by decide))]
    rw [this, up_id]
    exact R
theorem sr_lose (R : sr_SR f g) (oc : md_oc g ≤ 16) (hp : p < 6) : sr_SR (cx_lose f p) (md_outp g p) := by
  have h := sr_SR_prs R p hp
  refine sr_quiet R oc hp (fun k i j z => ?_) (fun k j z => ?_) ?_ ?_ ?_ ?_ ?_
  · unfold cx_lose; rw [up_n (by omega), up_n (by omega), up_n (by omega)]
  · unfold md_outp; rw [up_n (by omega), up_n (by omega), up_n (by omega)]
  · unfold md_outp; rw [up_n (by omega), up_n (by omega), up_n (by omega)]
  · unfold md_outp; rw [up_n (by omega), up_n (by omega), up_n (by omega)]
  · unfold md_outp; rw [up_n (by omega), up_n (by omega), up_n (by omega)]
  · exact sr_PR_mk (by simp only [cx_lose, md_outp, en_ua, Nat.reduceEqDiff, eq_self, true_and, and_true, false_and, and_false, and_self, ↓reduceIte, sr_has]; exact sr_PR_vw h) (by simp only [cx_lose, md_outp, en_ua, Nat.reduceEqDiff, eq_self, true_and, and_true, false_and, and_false, and_self, ↓reduceIte, sr_has]) (by simp only [cx_lose, md_outp, en_ua, Nat.reduceEqDiff, eq_self, true_and, and_true, false_and, and_false, and_self, ↓reduceIte, sr_has]) (by simp only [cx_lose, md_outp, en_ua, Nat.reduceEqDiff, eq_self, true_and, and_true, false_and, and_false, and_self, ↓reduceIte, sr_has]; exact sr_PR_ch h) (by simp only [cx_lose, md_outp, en_ua, Nat.reduceEqDiff, eq_self, true_and, and_true, false_and, and_false, and_self, ↓reduceIte, sr_has]; exact sr_PR_cb h) (by simp only [cx_lose, md_outp, en_ua, Nat.reduceEqDiff, eq_self, true_and, and_true, false_and, and_false, and_self, ↓reduceIte, sr_has]) (by simp only [cx_lose, md_outp, en_ua, Nat.reduceEqDiff, eq_self, true_and, and_true, false_and, and_false, and_self, ↓reduceIte, sr_has]; exact sr_PR_cc h) (by simp only [cx_lose, md_outp, en_ua, Nat.reduceEqDiff, eq_self, true_and, and_true, false_and, and_false, and_self, ↓reduceIte, sr_has]; exact sr_PR_kn h) (by simp only [cx_lose, md_outp, en_ua, Nat.reduceEqDiff, eq_self, true_and, and_true, false_and, and_false, and_self, ↓reduceIte, sr_has]; exact sr_PR_bk h) (by simp only [cx_lose, md_outp, en_ua, Nat.reduceEqDiff, eq_self, true_and, and_true, false_and, and_false, and_self, ↓reduceIte, sr_has]; exact sr_PR_co h) (by simp only [cx_lose, md_outp, en_ua, Nat.reduceEqDiff, eq_self, true_and, and_true, false_and, and_false, and_self, ↓reduceIte, sr_has]; exact sr_PR_hi h) (by simp only [cx_lose, md_outp, en_ua, Nat.reduceEqDiff, eq_self, true_and, and_true, false_and, and_false, and_self, ↓reduceIte, sr_has]; exact sr_PR_ho h) (by simp only [cx_lose, md_outp, en_ua, Nat.reduceEqDiff, eq_self, true_and, and_true, false_and, and_false, and_self, ↓reduceIte, sr_has]; exact sr_PR_fa h) (by simp only [cx_lose, md_outp, en_ua, Nat.reduceEqDiff, eq_self, true_and, and_true, false_and, and_false, and_self, ↓reduceIte, sr_has]; exact sr_PR_bi h) (by simp only [cx_lose, md_outp, en_ua, Nat.reduceEqDiff, eq_self, true_and, and_true, false_and, and_false, and_self, ↓reduceIte, sr_has]; exact sr_PR_bo h) (by simp only [cx_lose, md_outp, en_ua, Nat.reduceEqDiff, eq_self, true_and, and_true, false_and, and_false, and_self, ↓reduceIte, sr_has]; exact sr_PR_iv h) (by simp only [cx_lose, md_outp, en_ua, Nat.reduceEqDiff, eq_self, true_and, and_true, false_and, and_false, and_self, ↓reduceIte, sr_has]; exact sr_PR_ah h) (by simp only [cx_lose, md_outp, en_ua, Nat.reduceEqDiff, eq_self, true_and, and_true, false_and, and_false, and_self, ↓reduceIte, sr_has]; exact sr_PR_an h) (by simp only [cx_lose, md_outp, en_ua, Nat.reduceEqDiff, eq_self, true_and, and_true, false_and, and_false, and_self, ↓reduceIte, sr_has]; exact sr_PR_nu h) (by simp only [cx_lose, md_outp, en_ua, Nat.reduceEqDiff, eq_self, true_and, and_true, false_and, and_false, and_self, ↓reduceIte, sr_has]; exact sr_PR_fl h) (by simp only [cx_lose, md_outp, en_ua, Nat.reduceEqDiff, eq_self, true_and, and_true, false_and, and_false, and_self, ↓reduceIte, sr_has]; exact sr_PR_ki h) (by simp only [cx_lose, md_outp, en_ua, Nat.reduceEqDiff, eq_self, true_and, and_true, false_and, and_false, and_self, ↓reduceIte, sr_has]; exact Or.inl rfl) (by simp only [cx_lose, md_outp, en_ua, Nat.reduceEqDiff, eq_self, true_and, and_true, false_and, and_false, and_self, ↓reduceIte, sr_has]; exact fun z => absurd trivial z) (by simp only [cx_lose, md_outp, en_ua, Nat.reduceEqDiff, eq_self, true_and, and_true, false_and, and_false, and_self, ↓reduceIte, sr_has]; exact sr_PR_gs h) (by simp only [cx_lose, md_outp, en_ua, Nat.reduceEqDiff, eq_self, true_and, and_true, false_and, and_false, and_self, ↓reduceIte, sr_has]; exact fun z => absurd trivial z) (by simp only [cx_lose, md_outp, en_ua, Nat.reduceEqDiff, eq_self, true_and, and_true, false_and, and_false, and_self, ↓reduceIte, sr_has]; exact fun z => absurd trivial z) (by simp only [cx_lose, md_outp, en_ua, Nat.reduceEqDiff, eq_self, true_and, and_true, false_and, and_false, and_self, ↓reduceIte, sr_has]; exact fun z => absurd trivial z)
  · intro z1 z2
    have e : ∀ k j, ¬ k = 17 → ¬ k = 20 → ¬ k = 24 → md_outp g p k 0 j = g k 0 j := fun k j a1 a2 a3 => by
      unfold md_outp; rw [up_n (by omega), up_n (by omega), up_n (by omega)]
    rw [e _ _ (by omega) (by omega) (by omega)] at z1 z2
    refine ⟨?_, fun z => absurd ?_ z⟩
    · rw [sr_hst_o (fun j => e _ _ (by omega) (by omega) (by omega)) (fun j => e _ _ (by omega) (by omega) (by omega)) (fun j => e _ _ (by omega) (by omega) (by omega)) (e _ _ (by omega) (by omega) (by omega)), ← (sr_SR_dps R p hp z1 z2).1]
      unfold cx_lose; rw [up_n (by omega), up_n (by omega), up_n (by omega)]
    · unfold md_outp; simp only [en_ua, Nat.reduceEqDiff, eq_self, true_and, and_true, false_and, and_false, and_self, ↓reduceIte, sr_has]
theorem md_outp_oc : md_oc (md_outp g p) = md_oc g := by
  unfold md_outp
  rw [oc_up (by omega), oc_up (by omega), oc_up (by omega)]
theorem sr_lose2 (R : sr_SR f g) (oc : md_oc g ≤ 16) (hp : p < 6) : sr_SR (cx_lose2 f p) (en_up (md_outp g p) 21 0 p 0) := by
  unfold cx_lose2
  exact sr_chg (sr_lose R oc hp) (by rw [md_outp_oc]; exact oc) hp (Or.inl rfl)
theorem cx_lose_c (h : ¬ i = p) : cx_lose (en_up f k i j x) p = en_up (cx_lose f p) k i j x := by
  unfold cx_lose
  rw [up_c (k := k) (i := i) (j := j) (k' := 4) (j' := 3) (by omega), up_c (k := k) (i := i) (j := j) (k' := 4) (j' := 8) (by omega), up_c (k := k) (i := i) (j := j) (k' := 3) (j' := 1) (by omega)]
theorem cx_lose_l2 (h : ¬ q = p) : cx_lose (cx_lose2 f q) p = cx_lose2 (cx_lose f p) q := by
  unfold cx_lose2
  rw [cx_lose_c h]
  have : cx_lose (cx_lose f q) p = cx_lose (cx_lose f p) q := by
    have e : cx_lose f q = en_up (en_up (en_up f 4 q 3 0) 4 q 8 0) 3 q 1 0 := rfl
    rw [e, cx_lose_c h, cx_lose_c h, cx_lose_c h]
    rfl
  rw [this]
theorem md_ulp {h : en_F} (hq : q < 6) : md_lp (md_ust q) 4 2 h = if h 17 0 q = 3 ∧ q < 2 then en_up (md_outp (en_up (md_outp h (2 * q + 2)) 21 0 (2 * q + 2) 0) (2 * q + 3)) 21 0 (2 * q + 3) 0 else h := by
  have l4 : md_lp (md_ust q) 4 2 h = md_ust q 5 (md_ust q 4 (md_ust q 3 (md_ust q 2 h))) := rfl
  have k17 : ∀ (u : en_F) (t : Nat), ¬ t = q → en_up (md_outp u t) 21 0 t 0 17 0 q = u 17 0 q := by
    intro u t ht
    unfold md_outp
    rw [up_n (by omega), up_n (by omega), up_n (by omega), up_n (by omega)]
  rw [l4]
  unfold md_ust
  rcases (show q = 0 ∨ q = 1 ∨ 2 ≤ q by omega) with rfl | rfl | z
  · by_cases h3 : h 17 0 0 = 3
    · rw [if_pos (show 2 / 2 - 1 = 0 ∧ h 17 0 0 = 3 from ⟨rfl, h3⟩), if_pos (show 3 / 2 - 1 = 0 ∧ en_up (md_outp h 2) 21 0 2 0 17 0 0 = 3 from ⟨rfl, by rw [k17 _ _ (by omega)]; exact h3⟩), if_neg (fun y => absurd y.1 (by decide)), if_neg (fun y => absurd y.1 (by decide)), if_pos ⟨h3, by omega⟩]
    · rw [if_neg (show ¬ (2 / 2 - 1 = 0 ∧ h 17 0 0 = 3) from fun y => h3 y.2), if_neg (show ¬ (3 / 2 - 1 = 0 ∧ h 17 0 0 = 3) from fun y => h3 y.2), if_neg (fun y => h3 y.2), if_neg (fun y => h3 y.2), if_neg (fun y => h3 y.1)]
  · by_cases h3 : h 17 0 1 = 3
    · rw [if_neg (show ¬ (2 / 2 - 1 = 1 ∧ h 17 0 1 = 3) from fun y => absurd y.1 (by decide)), if_neg (show ¬ (3 / 2 - 1 = 1 ∧ h 17 0 1 = 3) from fun y => absurd y.1 (by decide)), if_pos (show 4 / 2 - 1 = 1 ∧ h 17 0 1 = 3 from ⟨rfl, h3⟩), if_pos (show 5 / 2 - 1 = 1 ∧ en_up (md_outp h 4) 21 0 4 0 17 0 1 = 3 from ⟨rfl, by rw [k17 _ _ (by omega)]; exact h3⟩), if_pos ⟨h3, by omega⟩]
    · rw [if_neg (show ¬ (2 / 2 - 1 = 1 ∧ h 17 0 1 = 3) from fun y => h3 y.2), if_neg (show ¬ (3 / 2 - 1 = 1 ∧ h 17 0 1 = 3) from fun y => h3 y.2), if_neg (show ¬ (4 / 2 - 1 = 1 ∧ h 17 0 1 = 3) from fun y => h3 y.2), if_neg (show ¬ (5 / 2 - 1 = 1 ∧ h 17 0 1 = 3) from fun y => h3 y.2), if_neg (fun y => h3 y.1)]
  · rw [if_neg (show ¬ (2 / 2 - 1 = q ∧ h 17 0 q = 3) from fun y => absurd y.1 (by omega)), if_neg (show ¬ (3 / 2 - 1 = q ∧ h 17 0 q = 3) from fun y => absurd y.1 (by omega)), if_neg (show ¬ (4 / 2 - 1 = q ∧ h 17 0 q = 3) from fun y => absurd y.1 (by omega)), if_neg (show ¬ (5 / 2 - 1 = q ∧ h 17 0 q = 3) from fun y => absurd y.1 (by omega)), if_neg (fun y => absurd y.2 (by omega))]
theorem sr_unplug (R : sr_SR f g) (oc : md_oc g ≤ 16) : sr_SR (cx_unplug f v).2 (md_unplug g v).2 ∧ (cx_unplug f v).1 = (md_unplug g v).1 := by
  unfold cx_unplug md_unplug
  rcases cx_port v with ⟨p, hp, rfl⟩ | h
  · rw [if_pos (cx_portY hp), if_pos (cx_portY hp), cb_c6 hp, sr_PR_kd (sr_SR_prs R p hp)]
    by_cases h0 : g 17 0 p = 0
    · rw [if_pos h0, if_pos h0]; exact ⟨R, rfl⟩
    · rw [if_neg h0, if_neg h0]
      refine ⟨?_, rfl⟩
      dsimp only
      unfold md_unplug1
      rw [md_ulp hp]
      by_cases h3 : g 17 0 p = 3 ∧ p < 2
      · rw [if_pos h3, if_pos h3, ← cx_lose_l2 (by omega), ← cx_lose_l2 (by omega)]
        have R1 := sr_lose2 (p := 2 * p + 2) R oc (by omega)
        have o1 : md_oc (en_up (md_outp g (2 * p + 2)) 21 0 (2 * p + 2) 0) = md_oc g := by rw [oc_up (by omega), md_outp_oc]
        have R2 := sr_lose2 (p := 2 * p + 3) R1 (by rw [o1]; exact oc) (by omega)
        have o2 : md_oc (en_up (md_outp (en_up (md_outp g (2 * p + 2)) 21 0 (2 * p + 2) 0) (2 * p + 3)) 21 0 (2 * p + 3) 0) = md_oc g := by rw [oc_up (by omega), md_outp_oc, o1]
        have R3 := sr_lose R2 (by rw [o2]; exact oc) hp
        exact sr_mark R3 (by rw [md_outp_oc, o2]; exact oc) hp
      · rw [if_neg h3, if_neg h3]
        exact sr_mark (sr_lose R oc hp) (by rw [md_outp_oc]; exact oc) hp
  · rw [if_neg h, if_neg h]; exact ⟨R, rfl⟩
/-- plugging -/
def cx_zr (f : en_F) (p : Nat) : en_F := fun k i j => if k = 6 ∧ i = p ∧ j < 8 then 0 else f k i j
theorem cx_zr_k (h : ¬ k = 6) : cx_zr f p k i j = f k i j := if_neg (fun z => h z.1)
theorem sr_zero (R : sr_SR f g) (hp : p < 6) : sr_SR (cx_zr f p) (md_zero g p 8) := by
  have Gr := sr_SR_gr R
  refine sr_glob R (fun k i j z => cx_zr_k (by omega)) (fun k j z => md_zero_k (by unfold sr_pk at z; omega)) (sr_GR_up Gr _ _ (fun k i j z => cx_zr_k (by omega)) (fun k j z => md_zero_k (by omega)) (fun r hr i hi => ?_) (fun r hr i hi => ?_))
  · unfold cx_zr md_zero
    by_cases e : r = p
    · subst e
      rw [if_pos ⟨rfl, rfl, hi⟩, if_pos ⟨rfl, rfl, by omega, by omega⟩]
    · rw [if_neg (fun z => e z.2.1), if_neg (by omega)]
      exact sr_GR_ct Gr r hr i hi
  · rw [cx_zr_k (by omega), md_zero_k (by omega)]
    exact sr_GR_cd Gr r hr i hi
theorem cx_isDev_of (h : ¬ cx_isDevI v a b = 0) : cx_isDev v a b := by
  by_cases z : cx_isDev v a b
  · exact z
  · exfalso
    apply h
    unfold cx_isDevI
    rw [if_neg z]
theorem cx_pos1 (h : ¬ a < 1) : 0 < a := by
  rw [Int32.lt_iff_toInt_lt] at h ⊢
  rw [show (1 : Int32).toInt = 1 from rfl] at h
  rw [show (0 : Int32).toInt = 0 from rfl]
  omega
theorem cx_dev_dv (h : cx_isDev v a b) : sr_dev v a b (if v = 2 then a else 0) (if v = 2 then b else if v = 3 then 4 else 0) (if v = 1 then a else 0) (if v = 1 then b else 0) := by
  rcases h with ⟨rfl, h1, h2, h3⟩ | ⟨rfl, h1, h2, h3⟩ | ⟨rfl, h1, h2⟩
  · refine Or.inr (Or.inl ⟨rfl, if_pos rfl, if_pos rfl, ?_, ?_⟩)
    · rw [if_neg (by decide), if_neg (by decide)]
    · obtain ⟨j, hj, rfl⟩ := nI_of h2
      have : j ≤ 3 := by
        have := mt (nI_ltI (a := 3) (b := j) (by omega) hj).mpr h3
        omega
      rcases (show j = 0 ∨ j = 1 ∨ j = 2 ∨ j = 3 by omega) with rfl | rfl | rfl | rfl
      · exact Or.inl rfl
      · exact Or.inr (Or.inl rfl)
      · exact Or.inr (Or.inr (Or.inl rfl))
      · exact Or.inr (Or.inr (Or.inr rfl))
  · exact Or.inr (Or.inr (Or.inl ⟨rfl, if_pos rfl, if_pos rfl, if_neg (by decide), cx_pos1 h1.1, cx_pos1 h2⟩))
  · refine Or.inr (Or.inr (Or.inr ⟨rfl, ?_, if_neg (by decide)⟩))
    rw [if_neg (by decide), if_pos rfl]
theorem cx_knew_k (h : k ≠ 6) : cx_knew f p v w k i j = en_up (en_up f 5 p 1 v) 5 p 2 w k i j := if_neg (fun z => h z.1)
def md_pg (g : en_F) (p : Nat) (k a b : Int32) : en_F := en_up (en_up (md_zero (en_up (en_up (en_up (en_up g 17 0 p k) 18 0 p a) 19 0 p b) 34 0 p 0) p 8) 20 0 p 0) 24 0 p 0
theorem md_pg_k (h : ¬ k = 17) (h1 : ¬ k = 18) (h2 : ¬ k = 19) (h3 : ¬ k = 34) (h4 : ¬ k = 33) (h5 : ¬ k = 20) (h6 : ¬ k = 24) : md_pg g p v a b k i j = g k i j := by
  unfold md_pg
  rw [up_n (by omega), up_n (by omega), md_zero_k (by omega), up_n (by omega), up_n (by omega), up_n (by omega), up_n (by omega)]
theorem md_pg_oc : md_oc (md_pg g p v a b) = md_oc g := by
  unfold md_oc
  rw [md_pg_k (by omega) (by omega) (by omega) (by omega) (by omega) (by omega) (by omega)]
theorem sr_plug1 (R : sr_SR f g) (oc : md_oc g ≤ 16) (hp : p < 6) (hd : cx_isDev v a b) : sr_SR (cx_dnew (en_up f 3 p 1 0) p v a b) (md_pg g p v a b) := by
  have h := sr_SR_prs R p hp
  have R0 := sr_zero R hp
  have oc0 : md_oc (md_zero g p 8) ≤ 16 := by
    have : md_oc (md_zero g p 8) = md_oc g := by unfold md_oc; rw [md_zero_k (by omega)]
    omega
  refine sr_quiet R0 oc0 hp (fun k i j z => ?_) (fun k j z => ?_) ?_ ?_ ?_ ?_ ?_
  · unfold cx_dnew cx_dres cx_rest
    rw [up_n (by omega), up_n (by omega), up_n (by omega), up_n (by omega), up_n (by omega), up_n (by omega), up_n (by omega), up_n (by omega), up_n (by omega)]
    unfold cx_knew cx_zr
    by_cases y : k = 6 ∧ i = p ∧ j < 8
    · rw [if_pos y, if_pos y]
    · rw [if_neg y, if_neg y, up_n (by omega), up_n (by omega), up_n (by omega), up_n (by omega), up_n (by omega), up_n (by omega), up_n (by omega)]
  · unfold md_pg
    unfold sr_pk at z
    rw [up_n (by omega), up_n (by omega)]
    unfold md_zero
    by_cases y : k = 33 ∧ 0 = 0 ∧ 8 * p ≤ j ∧ j < 8 * p + 8
    · rw [if_pos y, if_pos y]
    · rw [if_neg y, if_neg y, up_n (by omega), up_n (by omega), up_n (by omega), up_n (by omega)]
  · rw [md_pg_k (by omega) (by omega) (by omega) (by omega) (by omega) (by omega) (by omega), md_zero_k (by omega)]
  · rw [md_pg_k (by omega) (by omega) (by omega) (by omega) (by omega) (by omega) (by omega), md_zero_k (by omega)]
  · rw [md_pg_k (by omega) (by omega) (by omega) (by omega) (by omega) (by omega) (by omega), md_zero_k (by omega)]
  · have D := cx_dev_dv hd
    exact sr_PR_mk (by simp only [cx_dnew, cx_dres, cx_rest, cx_knew_k, md_pg, md_zero_k, ne_eq, not_false_eq_true, en_ua, Nat.reduceEqDiff, eq_self, true_and, and_true, false_and, and_false, and_self, ↓reduceIte, sr_has]; exact sr_PR_vw h) (by simp only [cx_dnew, cx_dres, cx_rest, cx_knew_k, md_pg, md_zero_k, ne_eq, not_false_eq_true, en_ua, Nat.reduceEqDiff, eq_self, true_and, and_true, false_and, and_false, and_self, ↓reduceIte, sr_has]) (by simp only [cx_dnew, cx_dres, cx_rest, cx_knew_k, md_pg, md_zero_k, ne_eq, not_false_eq_true, en_ua, Nat.reduceEqDiff, eq_self, true_and, and_true, false_and, and_false, and_self, ↓reduceIte, sr_has]) (by simp only [cx_dnew, cx_dres, cx_rest, cx_knew_k, md_pg, md_zero_k, ne_eq, not_false_eq_true, en_ua, Nat.reduceEqDiff, eq_self, true_and, and_true, false_and, and_false, and_self, ↓reduceIte, sr_has]; exact sr_PR_ch h) (by simp only [cx_dnew, cx_dres, cx_rest, cx_knew_k, md_pg, md_zero_k, ne_eq, not_false_eq_true, en_ua, Nat.reduceEqDiff, eq_self, true_and, and_true, false_and, and_false, and_self, ↓reduceIte, sr_has]; exact sr_PR_cb h) (by simp only [cx_dnew, cx_dres, cx_rest, cx_knew_k, md_pg, md_zero_k, ne_eq, not_false_eq_true, en_ua, Nat.reduceEqDiff, eq_self, true_and, and_true, false_and, and_false, and_self, ↓reduceIte, sr_has]) (by simp only [cx_dnew, cx_dres, cx_rest, cx_knew_k, md_pg, md_zero_k, ne_eq, not_false_eq_true, en_ua, Nat.reduceEqDiff, eq_self, true_and, and_true, false_and, and_false, and_self, ↓reduceIte, sr_has]) (by simp only [cx_dnew, cx_dres, cx_rest, cx_knew_k, md_pg, md_zero_k, ne_eq, not_false_eq_true, en_ua, Nat.reduceEqDiff, eq_self, true_and, and_true, false_and, and_false, and_self, ↓reduceIte, sr_has]; exact sr_PR_kn h) (by simp only [cx_dnew, cx_dres, cx_rest, cx_knew_k, md_pg, md_zero_k, ne_eq, not_false_eq_true, en_ua, Nat.reduceEqDiff, eq_self, true_and, and_true, false_and, and_false, and_self, ↓reduceIte, sr_has]; exact sr_PR_bk h) (by simp only [cx_dnew, cx_dres, cx_rest, cx_knew_k, md_pg, md_zero_k, ne_eq, not_false_eq_true, en_ua, Nat.reduceEqDiff, eq_self, true_and, and_true, false_and, and_false, and_self, ↓reduceIte, sr_has]; exact sr_PR_co h) (by simp only [cx_dnew, cx_dres, cx_rest, cx_knew_k, md_pg, md_zero_k, ne_eq, not_false_eq_true, en_ua, Nat.reduceEqDiff, eq_self, true_and, and_true, false_and, and_false, and_self, ↓reduceIte, sr_has]; exact sr_PR_hi h) (by simp only [cx_dnew, cx_dres, cx_rest, cx_knew_k, md_pg, md_zero_k, ne_eq, not_false_eq_true, en_ua, Nat.reduceEqDiff, eq_self, true_and, and_true, false_and, and_false, and_self, ↓reduceIte, sr_has]; exact sr_PR_ho h) (by simp only [cx_dnew, cx_dres, cx_rest, cx_knew_k, md_pg, md_zero_k, ne_eq, not_false_eq_true, en_ua, Nat.reduceEqDiff, eq_self, true_and, and_true, false_and, and_false, and_self, ↓reduceIte, sr_has]; exact sr_PR_fa h) (by simp only [cx_dnew, cx_dres, cx_rest, cx_knew_k, md_pg, md_zero_k, ne_eq, not_false_eq_true, en_ua, Nat.reduceEqDiff, eq_self, true_and, and_true, false_and, and_false, and_self, ↓reduceIte, sr_has]; exact sr_PR_bi h) (by simp only [cx_dnew, cx_dres, cx_rest, cx_knew_k, md_pg, md_zero_k, ne_eq, not_false_eq_true, en_ua, Nat.reduceEqDiff, eq_self, true_and, and_true, false_and, and_false, and_self, ↓reduceIte, sr_has]; exact sr_PR_bo h) (by simp only [cx_dnew, cx_dres, cx_rest, cx_knew_k, md_pg, md_zero_k, ne_eq, not_false_eq_true, en_ua, Nat.reduceEqDiff, eq_self, true_and, and_true, false_and, and_false, and_self, ↓reduceIte, sr_has]; exact sr_PR_iv h) (by simp only [cx_dnew, cx_dres, cx_rest, cx_knew_k, md_pg, md_zero_k, ne_eq, not_false_eq_true, en_ua, Nat.reduceEqDiff, eq_self, true_and, and_true, false_and, and_false, and_self, ↓reduceIte, sr_has]; exact sr_PR_ah h) (by simp only [cx_dnew, cx_dres, cx_rest, cx_knew_k, md_pg, md_zero_k, ne_eq, not_false_eq_true, en_ua, Nat.reduceEqDiff, eq_self, true_and, and_true, false_and, and_false, and_self, ↓reduceIte, sr_has]; exact sr_PR_an h) (by simp only [cx_dnew, cx_dres, cx_rest, cx_knew_k, md_pg, md_zero_k, ne_eq, not_false_eq_true, en_ua, Nat.reduceEqDiff, eq_self, true_and, and_true, false_and, and_false, and_self, ↓reduceIte, sr_has]; exact sr_PR_nu h) (by simp only [cx_dnew, cx_dres, cx_rest, cx_knew_k, md_pg, md_zero_k, ne_eq, not_false_eq_true, en_ua, Nat.reduceEqDiff, eq_self, true_and, and_true, false_and, and_false, and_self, ↓reduceIte, sr_has]; exact sr_PR_fl h) (by simp only [cx_dnew, cx_dres, cx_rest, cx_knew_k, md_pg, md_zero_k, ne_eq, not_false_eq_true, en_ua, Nat.reduceEqDiff, eq_self, true_and, and_true, false_and, and_false, and_self, ↓reduceIte, sr_has]; exact sr_PR_ki h) (by simp only [cx_dnew, cx_dres, cx_rest, cx_knew_k, md_pg, md_zero_k, ne_eq, not_false_eq_true, en_ua, Nat.reduceEqDiff, eq_self, true_and, and_true, false_and, and_false, and_self, ↓reduceIte, sr_has]; exact D) (by simp only [md_pg, en_ua, Nat.reduceEqDiff, eq_self, true_and, and_true, false_and, and_false, and_self, ↓reduceIte, sr_has]; exact fun z => absurd trivial z) (by simp only [cx_dnew, cx_dres, cx_rest, cx_knew_k, md_pg, md_zero_k, ne_eq, not_false_eq_true, en_ua, Nat.reduceEqDiff, eq_self, true_and, and_true, false_and, and_false, and_self, ↓reduceIte, sr_has]; exact sr_PR_gs h) (by simp only [md_pg, en_ua, Nat.reduceEqDiff, eq_self, true_and, and_true, false_and, and_false, and_self, ↓reduceIte, sr_has]; exact fun z => absurd trivial z) (by simp only [md_pg, en_ua, Nat.reduceEqDiff, eq_self, true_and, and_true, false_and, and_false, and_self, ↓reduceIte, sr_has]; exact fun z => absurd trivial z) (by simp only [md_pg, en_ua, Nat.reduceEqDiff, eq_self, true_and, and_true, false_and, and_false, and_self, ↓reduceIte, sr_has]; exact fun z => absurd trivial z)
  · intro z1 z2
    rw [md_pg_k (by omega) (by omega) (by omega) (by omega) (by omega) (by omega) (by omega)] at z1 z2
    refine ⟨?_, fun z => absurd ?_ z⟩
    · rw [sr_hst_o (g := g) (fun j => md_pg_k (by omega) (by omega) (by omega) (by omega) (by omega) (by omega) (by omega)) (fun j => md_pg_k (by omega) (by omega) (by omega) (by omega) (by omega) (by omega) (by omega)) (fun j => md_pg_k (by omega) (by omega) (by omega) (by omega) (by omega) (by omega) (by omega)) (md_pg_k (by omega) (by omega) (by omega) (by omega) (by omega) (by omega) (by omega)), ← (sr_SR_dps R p hp z1 z2).1]
      simp only [cx_dnew, cx_dres, cx_rest, cx_knew_k, ne_eq, not_false_eq_true, en_ua, Nat.reduceEqDiff, eq_self, true_and, and_true, false_and, and_false, and_self, ↓reduceIte, sr_has]
    · unfold md_pg; simp only [en_ua, Nat.reduceEqDiff, eq_self, true_and, and_true, false_and, and_false, and_self, ↓reduceIte, sr_has]
theorem sr_plug (R : sr_SR f g) (oc : md_oc g ≤ 16) : sr_SR (cx_plug f v w a b).2 (md_plug g v w a b).2 ∧ (cx_plug f v w a b).1 = (md_plug g v w a b).1 := by
  unfold cx_plug md_plug
  rcases cx_port v with ⟨p, hp, rfl⟩ | h
  · rw [if_pos (cx_portY hp), if_pos (cx_portY hp), cb_c6 hp, sr_PR_kd (sr_SR_prs R p hp), sr_PR_kd (sr_SR_prs R (p / 2 - 1) (by omega))]
    by_cases h0 : (p < 2 ∨ g 17 0 (p / 2 - 1) = 3) ∧ g 17 0 p = 0 ∧ ¬ cx_isDevI w a b = 0
    · rw [if_pos h0, if_pos h0]
      have R1 := sr_plug1 R oc hp (cx_isDev_of h0.2.2)
      have o1 : md_oc (md_pg g p w a b) ≤ 16 := by rw [md_pg_oc]; exact oc
      exact ⟨sr_mark R1 o1 hp, rfl⟩
    · rw [if_neg h0, if_neg h0]; exact ⟨R, rfl⟩
  · rw [if_neg h, if_neg h]; exact ⟨R, rfl⟩
end Sr16
