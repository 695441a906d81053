/-! THE TWO STATES SIDE BY SIDE, 3: release, detach, hear -/
section Sr3
variable {p k n m q i j : Nat} {f g f' g' : en_F} {v w a b x : Int32}
theorem sr_IV_h (hg : ∀ k, sr_dk k → g' k 0 p = g k 0 p) (eh : sr_hand g' p = sr_hand g p) (e5 : ∀ j, sr_hand g p = some j → g' 55 0 j = g 55 0 j) (e2 : ∀ j, g' 52 0 j = g 52 0 j) (e0 : ∀ j, g' 50 0 j = g 50 0 j) (h : sr_IV g p) : sr_IV g' p := by
  unfold sr_IV at h ⊢
  rw [eh]
  refine ⟨?_, ?_⟩
  · unfold sr_H sr_I
    rw [hg 28 (by omega), hg 42 (by omega), hg 25 (by omega)]
    exact h.1
  · have h2 := h.2
    cases hh : sr_hand g p with
    | none =>
      rw [hh] at h2
      dsimp only at h2 ⊢
      unfold sr_H sr_I sr_E
      rw [hg 28 (by omega), hg 42 (by omega), hg 25 (by omega), hg 43 (by omega), hg 26 (by omega), hg 30 (by omega)]
      exact h2
    | some k =>
      rw [hh] at h2
      dsimp only at h2 ⊢
      obtain ⟨s, c, h3, h4, h5, h6, h7⟩ := h2
      exact ⟨s, c, by rw [e5 k hh]; exact h3, by rw [e2]; exact h4, h5, h6, by rw [e0]; exact sr_IVs_o hg h7⟩
theorem sr_DP_h (h3 : f' 3 p 8 = f 3 p 8) (hg : ∀ k, sr_dk k → g' k 0 p = g k 0 p) (eh : sr_hand g' p = sr_hand g p) (e5 : ∀ j, sr_hand g p = some j → g' 55 0 j = g 55 0 j) (e2 : ∀ j, g' 52 0 j = g 52 0 j) (e0 : ∀ j, g' 50 0 j = g 50 0 j) (h : sr_DP f g p) : sr_DP f' g' p := by
  have es : sr_hst g' p = sr_hst g p := by
    unfold sr_hst
    rw [eh]
    cases hh : sr_hand g p with
    | none => rfl
    | some k => exact e5 k hh
  unfold sr_DP at h ⊢
  rw [hg 36 (by omega), hg 38 (by omega), hg 20 (by omega), hg 17 (by omega), h3, es]
  exact fun z1 z2 => ⟨(h z1 z2).1, fun z3 z4 => sr_IV_h hg eh e5 e2 e0 ((h z1 z2).2 z3 z4)⟩
theorem sr_oc (R : sr_SR f g) : cx_oc f = md_oc g := by unfold cx_oc md_oc; rw [sr_GR_oc (sr_SR_gr R)]
theorem md_relO_54 {g : en_F} : md_relO g p n 54 0 j = if j < n ∧ g 49 0 j = nI p ∧ g 54 0 j = 0 then 3 else g 54 0 j := by
  unfold md_relO
  by_cases h : j < n ∧ g 49 0 j = nI p ∧ g 54 0 j = 0
  · rw [if_pos h, if_pos ⟨⟨rfl, rfl⟩, h⟩]
  · rw [if_neg h, if_neg (fun z => h z.2)]
theorem cx_relO_7 {f : en_F} : cx_relO f p n 8 j 7 = if j < n ∧ f 8 j 2 = nI p ∧ f 8 j 7 = 0 then 3 else f 8 j 7 := by
  unfold cx_relO
  by_cases h : j < n ∧ f 8 j 2 = nI p ∧ f 8 j 7 = 0
  · rw [if_pos h, if_pos ⟨⟨rfl, rfl⟩, h⟩]
  · rw [if_neg h, if_neg (fun z => h z.2)]
theorem sr_rel (R : sr_SR f g) (oc : md_oc g ≤ 16) (hq : q < 6) : sr_SR (cx_rel f q (md_oc g)) (md_leaf g q) := by
  have G := sr_SR_gr R
  have ef : ∀ k i j, ¬ (k = 8 ∧ j = 7) → ¬ (k = 3 ∧ i = q) → cx_rel f q (md_oc g) k i j = f k i j := fun k i j h1 h2 => by
    unfold cx_rel cx_leave
    rw [cx_relO_r h1, up_n (by omega), up_n (by omega), up_n (by omega)]
  have eg : ∀ k j, k ≠ 54 → ¬ (sr_pk k ∧ j = q) → md_leaf g q k 0 j = g k 0 j := fun k j h1 h2 => by
    unfold md_leaf
    rw [md_relO_r (by omega), up_n (by omega), up_n (by omega)]
  have eg2 : ∀ k j, k ≠ 54 → md_leaf g q k 0 j = md_fails g q 0 k 0 j := fun k j h1 => by
    unfold md_leaf md_fails
    rw [md_relO_r (by omega)]
  have ef2 : ∀ k i j, ¬ (k = 8 ∧ j = 7) → cx_rel f q (md_oc g) k i j = cx_leave f q 0 k i j := fun k i j h1 => by
    unfold cx_rel
    rw [cx_relO_r h1]
  have e54 : ∀ j, md_leaf g q 54 0 j = if j < md_oc g ∧ g 49 0 j = nI q ∧ g 54 0 j = 0 then 3 else g 54 0 j := fun j => by
    unfold md_leaf
    rw [md_relO_54, up_n (by omega), up_n (by omega), up_n (by omega), up_n (by omega)]
  have e87 : ∀ j, cx_rel f q (md_oc g) 8 j 7 = if j < md_oc g ∧ f 8 j 2 = nI q ∧ f 8 j 7 = 0 then 3 else f 8 j 7 := fun j => by
    unfold cx_rel cx_leave
    rw [cx_relO_7, up_n (by omega), up_n (by omega), up_n (by omega), up_n (by omega), up_n (by omega), up_n (by omega)]
  have ec : md_leaf g q 16 0 31 = g 16 0 31 := eg _ _ (by omega) (by omega)
  have hoc : md_oc (md_leaf g q) = md_oc g := by unfold md_oc; rw [ec]
  have hnq : ∀ p, p < 6 → ¬ p = q → ¬ nI p = nI q := fun p hp h z => h ((nI_eq (by omega) (by omega)).mp z)
  have eh : ∀ p, p < 6 → ¬ p = q → sr_hand (md_leaf g q) p = sr_hand g p := fun p hp hne => by
    have e1 : md_ohp (md_leaf g q) (nI p) = md_ohp g (nI p) := by
      funext k
      unfold md_ohp
      rw [eg 49 k (by omega) (by omega), e54]
      by_cases hd : k < md_oc g ∧ g 49 0 k = nI q ∧ g 54 0 k = 0
      · rw [if_pos hd]
        have : ¬ g 49 0 k = nI p := fun z => hnq p hp hne (z.symm.trans hd.2.1)
        rw [decide_eq_false (fun z => this z.1), decide_eq_false (fun z => this z.1)]
      · rw [if_neg hd]
    unfold sr_hand
    rw [e1, hoc]
  have e36 : md_leaf g q 36 0 q = 0 := by rw [eg2 _ _ (by omega)]; simp only [md_fails, en_ua, Nat.reduceEqDiff, eq_self, true_and, and_true, false_and, and_false, and_self, ↓reduceIte, sr_has]
  have ev : ∀ p, ¬ p = q → ∀ k, sr_pk k → md_leaf g q k 0 p = g k 0 p := fun p h k hk => eg k p (by omega) (fun z => h z.2)
  refine sr_SR_mk (sr_GR_mk ?_ ?_ ?_ ?_ ?_ ?_ ?_ ?_ ?_ ?_ ?_) (fun k hk => ?_) (fun p h6 => ?_) (fun p h6 => ?_) ?_ ?_
  · rw [ef _ _ _ (by omega) (by omega), ec]; exact sr_GR_oc G
  · rw [ef _ _ _ (by omega) (by omega), eg _ _ (by omega) (by omega)]; exact sr_GR_fr G
  · rw [ef _ _ _ (by omega) (by omega), eg _ _ (by omega) (by omega)]; exact sr_GR_sl G
  · rw [ef _ _ _ (by omega) (by omega), eg _ _ (by omega) (by omega)]; exact sr_GR_hp G
  · rw [ef _ _ _ (by omega) (by omega), eg _ _ (by omega) (by omega)]; exact sr_GR_tr G
  · rw [ef _ _ _ (by omega) (by omega), eg _ _ (by omega) (by omega)]; exact sr_GR_ky G
  · rw [ef _ _ _ (by omega) (by omega), eg _ _ (by omega) (by omega)]; exact sr_GR_kx G
  · intro i hi; rw [ef _ _ _ (by omega) (by omega), eg _ _ (by omega) (by omega)]; exact sr_GR_la G i hi
  · exact sr_LS_o (fun j => ef _ _ _ (by omega) (by omega)) (ef _ _ _ (by omega) (by omega)) (fun j => eg _ _ (by omega) (by omega)) (eg _ _ (by omega) (by omega)) (sr_GR_ls G)
  · intro p h6 i hi; rw [ef _ _ _ (by omega) (by omega), eg _ _ (by omega) (by omega)]; exact sr_GR_ct G p h6 i hi
  · intro p h6 i hi; rw [ef _ _ _ (by omega) (by omega), eg _ _ (by omega) (by omega)]; exact sr_GR_cd G p h6 i hi
  · have O := sr_SR_ors R k hk
    refine sr_OR_mk ?_ ?_ ?_ ?_ ?_ ?_
    · rw [hoc]
      intro z
      obtain ⟨o1, o2, o3, o4, o5, o6⟩ := sr_OR_ol O z
      rw [ef _ _ _ (by omega) (by omega), ef _ _ _ (by omega) (by omega), ef _ _ _ (by omega) (by omega), ef _ _ _ (by omega) (by omega), ef _ _ _ (by omega) (by omega), eg 49 k (by omega) (by omega), eg 50 k (by omega) (by omega), eg 51 k (by omega) (by omega), eg 52 k (by omega) (by omega), eg 53 k (by omega) (by omega), e54, e87, o1, o6]
      exact ⟨rfl, o2, o3, o4, o5, rfl⟩
    · rw [ef _ _ _ (by omega) (by omega), eg 56 k (by omega) (by omega)]; exact sr_OR_tk O
    · intro i hi
      rw [ef _ _ _ (by omega) (by omega), eg 57 _ (by omega) (by omega)]; exact sr_OR_nn O i hi
    · rw [hoc, e87]
      intro z
      rw [if_neg (by omega)]
      exact sr_OR_nw O z
    · rw [hoc, e54]
      intro z1 z2
      by_cases hd : k < md_oc g ∧ g 49 0 k = nI q ∧ g 54 0 k = 0
      · rw [if_pos hd] at z2; exact absurd z2 (by decide)
      · rw [if_neg hd] at z2
        obtain ⟨p, hp, h1, h2, h3, h4⟩ := sr_OR_lv O z1 z2
        have hne : ¬ p = q := fun y => hd ⟨z1, by rw [← y]; exact h1, z2⟩
        refine ⟨p, hp, by rw [eg 49 k (by omega) (by omega)]; exact h1, by rw [ev p hne 36 (by omega)]; exact h2, by rw [ev p hne 38 (by omega)]; exact h3, ?_⟩
        rw [eg 55 k (by omega) (by omega), eh p hp hne]
        exact h4
    · rw [hoc, e54, eg 55 k (by omega) (by omega), eg 52 k (by omega) (by omega)]
      intro z1 z2
      by_cases hd : k < md_oc g ∧ g 49 0 k = nI q ∧ g 54 0 k = 0
      · rw [if_pos hd] at z2; exact absurd z2 (by decide)
      · rw [if_neg hd] at z2
        exact sr_OR_sc O z1 z2
  · by_cases hpq : p = q
    · subst hpq
      exact sr_PR_o (fun j => ef2 _ _ _ (by omega)) (fun j => ef2 _ _ _ (by omega)) (fun j => ef2 _ _ _ (by omega)) (fun k z => eg2 _ _ (by omega)) (Or.inl (eg2 _ _ (by omega))) (sr_PR_leave (sr_SR_prs R p h6) (by decide) (by decide))
    · exact sr_PR_o (fun j => ef _ _ _ (by omega) (by omega)) (fun j => ef _ _ _ (by omega) (by omega)) (fun j => ef _ _ _ (by omega) (by omega)) (ev p hpq) (Or.inl (eg _ _ (by omega) (by omega))) (sr_SR_prs R p h6)
  · by_cases hpq : p = q
    · subst hpq
      intro z
      rw [e36] at z
      exact absurd z (by decide)
    · exact sr_DP_h (ef _ _ _ (by omega) (by omega)) (fun k z => ev p hpq k (by omega)) (eh p h6 hpq) (fun j _ => eg 55 j (by omega) (by omega)) (fun j => eg 52 j (by omega) (by omega)) (fun j => eg 50 j (by omega) (by omega)) (sr_SR_dps R p h6)
  · have hw : ∀ p, sr_has (md_leaf g q) p → ¬ p = q := fun p z y => by
      subst y
      unfold sr_has at z
      rw [e36] at z
      exact absurd z (by decide)
    intro p r h6 h7 hne h1 h2
    have hp := hw p h1
    have hr := hw r h2
    unfold sr_has at h1 h2
    rw [ev p hp 36 (by omega)] at h1
    rw [ev r hr 36 (by omega)] at h2
    rw [ev p hp 37 (by omega), ev r hr 37 (by omega)]
    exact sr_SR_num R p r h6 h7 hne h1 h2
  · have hw : ∀ p, md_leaf g q 36 0 p = 2 → ¬ p = q := fun p z y => by
      subst y
      rw [e36] at z
      exact absurd z (by decide)
    intro p r h6 h7 h1 h2
    have hp := hw p h1
    have hr := hw r h2
    rw [ev p hp 36 (by omega)] at h1
    rw [ev r hr 36 (by omega)] at h2
    exact sr_SR_one R p r h6 h7 h1 h2
/-- releasing where nothing is -/
theorem sr_relid (R : sr_SR f g) (oc : md_oc g ≤ 16) (hq : q < 6) (h0 : g 36 0 q = 0) : cx_rel f q (md_oc g) = f := by
  have h := sr_SR_prs R q hq
  have hz : ¬ sr_has g q := by unfold sr_has; rw [h0]; decide
  have e1 : cx_leave f q 0 = f := by
    have a1 : f 3 q 3 = 0 := by rw [sr_PR_vw h, h0]
    have a2 : f 3 q 1 = 0 := by
      rw [sr_PR_op h]
      by_cases z : g 20 0 q = 0
      · exact z
      · exact absurd (sr_PR_oh h z) hz
    have a3 : f 3 q 4 = 0 := sr_PR_an h hz
    have b1 : en_up f 3 q 3 0 = f := by
      have := up_id (g := f) (k := 3) (i := q) (j := 3)
      rw [a1] at this; exact this
    have b2 : en_up f 3 q 1 0 = f := by
      have := up_id (g := f) (k := 3) (i := q) (j := 1)
      rw [a2] at this; exact this
    have b3 : en_up f 3 q 4 0 = f := by
      have := up_id (g := f) (k := 3) (i := q) (j := 4)
      rw [a3] at this; exact this
    unfold cx_leave
    rw [b1, b2, b3]
  unfold cx_rel
  rw [e1]
  funext k i j
  unfold cx_relO
  refine if_neg (fun z => ?_)
  obtain ⟨z1, z2, z3, z4⟩ := z
  obtain ⟨o1, o2, o3, o4, o5, o6⟩ := sr_OR_ol (sr_SR_ors R i (by omega)) z2
  rw [o1] at z3
  rw [o6] at z4
  exact sr_live R oc hq (by rw [h0]; exact fun y => absurd y.1 (by decide)) i z2 z4 z3
theorem md_leaf_16 {g : en_F} : md_leaf g p 16 i j = g 16 i j := by
  unfold md_leaf
  rw [md_relO_r (by omega), up_n (by omega), up_n (by omega)]
theorem md_dlp {h : en_F} (hp : p < 6) : md_lp (md_dst p) 4 2 h = if p < 2 then md_leaf (md_leaf h (2 * p + 2)) (2 * p + 3) else h := by
  have hc : p = 0 ∨ p = 1 ∨ p = 2 ∨ p = 3 ∨ p = 4 ∨ p = 5 := by omega
  rcases hc with rfl | rfl | rfl | rfl | rfl | rfl <;> simp [md_lp, md_dst]
theorem sr_det (R : sr_SR f g) (oc : md_oc g ≤ 16) (hp : p < 6) : sr_SR (cx_det f p (md_oc g)) (md_detach g p) := by
  have h := sr_SR_prs R p hp
  have R1 := sr_rel R oc hp
  unfold cx_det md_detach
  rw [sr_PR_vw h, sr_PR_kn h, md_dlp hp]
  by_cases h3 : g 36 0 p = 3 ∧ g 38 0 p = 3
  · by_cases h2 : p < 2
    · rw [if_pos ⟨h3, h2⟩, if_pos h3, if_pos h2]
      have R2 := sr_rel R1 (q := 2 * p + 2) (by rw [md_leaf_oc]; exact oc) (by omega)
      rw [md_leaf_oc] at R2
      have R3 := sr_rel R2 (q := 2 * p + 3) (by rw [md_leaf_oc, md_leaf_oc]; exact oc) (by omega)
      rw [md_leaf_oc, md_leaf_oc] at R3
      exact R3
    · rw [if_neg (fun z => h2 z.2), if_pos h3, if_neg h2]
      exact R1
  · rw [if_neg (fun z => h3 z.1), if_neg h3]
    exact R1
theorem md_leaf_36 {g : en_F} : md_leaf g p 36 0 q = if q = p then 0 else g 36 0 q := by
  unfold md_leaf
  rw [md_relO_r (by omega), up_n (by omega)]
  unfold en_up
  by_cases h : q = p
  · rw [if_pos ⟨rfl, rfl, h⟩, if_pos h]
  · rw [if_neg (fun z => h z.2.2), if_neg h]
theorem md_det_36 {g : en_F} (hp : p < 6) : md_detach g p 36 0 p = 0 := by
  unfold md_detach
  rw [md_dlp hp]
  split
  · split
    · rw [md_leaf_36, if_neg (by omega), md_leaf_36, if_neg (by omega), md_leaf_36, if_pos rfl]
    · rw [md_leaf_36, if_pos rfl]
  · rw [md_leaf_36, if_pos rfl]
theorem md_det_oc {g : en_F} : md_oc (md_detach g p) = md_oc g := by unfold md_oc; rw [md_detach_31]
theorem sr_hear (R : sr_SR f g) (oc : md_oc g ≤ 16) (hp : p < 6) (hv : v = 1 ∨ v = 3) : sr_SR (cx_hear f p v (md_oc g)) (md_hears g p (if v = 3 then 1 else 0)) := by
  have h := sr_SR_prs R p hp
  have key : sr_SR (cx_det f p (md_oc g)) (if g 36 0 p = 0 then g else md_detach g p) ∧ (if g 36 0 p = 0 then g else md_detach g p) 36 0 p = 0 ∧ md_oc (if g 36 0 p = 0 then g else md_detach g p) = md_oc g := by
    by_cases h0 : g 36 0 p = 0
    · rw [if_pos h0]
      refine ⟨?_, h0, rfl⟩
      unfold cx_det
      rw [if_neg (fun z => by have := z.1.1; rw [sr_PR_vw h, h0] at this; exact absurd this (by decide)), sr_relid R oc hp h0]
      exact R
    · rw [if_neg h0]
      exact ⟨sr_det R oc hp, md_det_36 hp, md_det_oc⟩
  obtain ⟨k1, k2, k3⟩ := key
  unfold cx_hear md_hears
  rcases hv with rfl | rfl
  · rw [if_neg (by decide), if_pos (by decide), if_pos (by decide)]
    exact k1
  · rw [if_neg (by decide), if_neg (by decide), if_pos rfl, if_neg (by decide)]
    exact sr_wait k1 (by rw [k3]; exact oc) hp k2
theorem md_hears_oc {g : en_F} : md_oc (md_hears g p v) = md_oc g := by unfold md_oc; rw [md_hears_31]
theorem sr_own1 (R : sr_SR f g) (oc : md_oc g ≤ 16) (hp : p < 6) : sr_SR (cx_own1 f p (md_oc g)) (md_ow1 g p) := by
  have h := sr_SR_prs R p hp
  unfold cx_own1 cx_tell md_ow1
  rw [sr_PR_ch h, sr_PR_kd h]
  by_cases h0 : g 21 0 p = 0
  · rw [if_pos h0, if_pos h0]
    unfold cx_hear
    dsimp only
    rw [if_pos (show (0 : Int32) &&& 1 = 0 by decide)]
    exact R
  · rw [if_neg h0, if_neg h0]
    have R1 := sr_chg (x := 0) R oc hp (Or.inl rfl)
    have e : md_oc (en_up g 21 0 p 0) = md_oc g := by unfold md_oc; rw [up_n (by omega)]
    by_cases hk : g 17 0 p = 0
    · rw [if_pos hk, if_pos hk]
      have := sr_hear (v := 1) R1 (by rw [e]; exact oc) hp (Or.inl rfl)
      rw [e] at this
      exact this
    · rw [if_neg hk, if_neg hk]
      have := sr_hear (v := 3) R1 (by rw [e]; exact oc) hp (Or.inr rfl)
      rw [e] at this
      exact this
theorem md_ow1_oc {g : en_F} : md_oc (md_ow1 g p) = md_oc g := by
  unfold md_ow1
  split
  · rfl
  · rw [md_hears_oc]; unfold md_oc; rw [up_n (by omega)]
theorem sr_own (R : sr_SR f g) (oc : md_oc g ≤ 16) : sr_SR (cx_own f (cx_oc f)) (md_ow1 (md_ow1 g 0) 1) := by
  rw [sr_oc R]
  unfold cx_own
  have R1 := sr_own1 (p := 0) R oc (by omega)
  have R2 := sr_own1 (p := 1) R1 (by rw [md_ow1_oc]; exact oc) (by omega)
  rw [md_ow1_oc] at R2
  exact R2
end Sr3
