/-! THE TWO STATES SIDE BY SIDE, 14: orders -/
section Sr14
variable {p k n m q i j s c : Nat} {f g f' g' F G : en_F} {v w a b x r e : Int32}
theorem sr_fltX (R : sr_SX f g q) (oc : md_oc g ≤ 16) (hq : q < 6) (hx : sr_has g q → sr_f3 x) : sr_SX (en_up f 3 q 7 x) (en_up g 44 0 q x) q := by
  have h := sr_SX_prs R q hq
  refine sr_quietX R oc hq (fun k i j z => up_n (by omega)) (fun k j z => up_n (by omega)) (up_n (by omega)) (up_n (by omega)) (up_n (by omega)) ?_
  exact sr_PR_mk (by simp only [en_ua, Nat.reduceEqDiff, eq_self, true_and, and_true, false_and, and_false, and_self, ↓reduceIte, sr_has]; exact sr_PR_vw h) (by simp only [en_ua, Nat.reduceEqDiff, eq_self, true_and, and_true, false_and, and_false, and_self, ↓reduceIte, sr_has]; exact sr_PR_kd h) (by simp only [en_ua, Nat.reduceEqDiff, eq_self, true_and, and_true, false_and, and_false, and_self, ↓reduceIte, sr_has]; exact sr_PR_op h) (by simp only [en_ua, Nat.reduceEqDiff, eq_self, true_and, and_true, false_and, and_false, and_self, ↓reduceIte, sr_has]; exact sr_PR_ch h) (by simp only [en_ua, Nat.reduceEqDiff, eq_self, true_and, and_true, false_and, and_false, and_self, ↓reduceIte, sr_has]; exact sr_PR_cb h) (by simp only [en_ua, Nat.reduceEqDiff, eq_self, true_and, and_true, false_and, and_false, and_self, ↓reduceIte, sr_has]; exact sr_PR_cf h) (by simp only [en_ua, Nat.reduceEqDiff, eq_self, true_and, and_true, false_and, and_false, and_self, ↓reduceIte, sr_has]; exact sr_PR_cc h) (by simp only [en_ua, Nat.reduceEqDiff, eq_self, true_and, and_true, false_and, and_false, and_self, ↓reduceIte, sr_has]; exact sr_PR_kn h) (by simp only [en_ua, Nat.reduceEqDiff, eq_self, true_and, and_true, false_and, and_false, and_self, ↓reduceIte, sr_has]; exact sr_PR_bk h) (by simp only [en_ua, Nat.reduceEqDiff, eq_self, true_and, and_true, false_and, and_false, and_self, ↓reduceIte, sr_has]; exact sr_PR_co h) (by simp only [en_ua, Nat.reduceEqDiff, eq_self, true_and, and_true, false_and, and_false, and_self, ↓reduceIte, sr_has]; exact sr_PR_hi h) (by simp only [en_ua, Nat.reduceEqDiff, eq_self, true_and, and_true, false_and, and_false, and_self, ↓reduceIte, sr_has]; exact sr_PR_ho h) (by simp only [en_ua, Nat.reduceEqDiff, eq_self, true_and, and_true, false_and, and_false, and_self, ↓reduceIte, sr_has]) (by simp only [en_ua, Nat.reduceEqDiff, eq_self, true_and, and_true, false_and, and_false, and_self, ↓reduceIte, sr_has]; exact sr_PR_bi h) (by simp only [en_ua, Nat.reduceEqDiff, eq_self, true_and, and_true, false_and, and_false, and_self, ↓reduceIte, sr_has]; exact sr_PR_bo h) (by simp only [en_ua, Nat.reduceEqDiff, eq_self, true_and, and_true, false_and, and_false, and_self, ↓reduceIte, sr_has]; exact sr_PR_iv h) (by simp only [en_ua, Nat.reduceEqDiff, eq_self, true_and, and_true, false_and, and_false, and_self, ↓reduceIte, sr_has]; exact sr_PR_ah h) (by simp only [en_ua, Nat.reduceEqDiff, eq_self, true_and, and_true, false_and, and_false, and_self, ↓reduceIte, sr_has]; exact sr_PR_an h) (by simp only [en_ua, Nat.reduceEqDiff, eq_self, true_and, and_true, false_and, and_false, and_self, ↓reduceIte, sr_has]; exact sr_PR_nu h) (by simp only [en_ua, Nat.reduceEqDiff, eq_self, true_and, and_true, false_and, and_false, and_self, ↓reduceIte, sr_has]; exact hx) (by simp only [en_ua, Nat.reduceEqDiff, eq_self, true_and, and_true, false_and, and_false, and_self, ↓reduceIte, sr_has]; exact sr_PR_ki h) (by simp only [en_ua, Nat.reduceEqDiff, eq_self, true_and, and_true, false_and, and_false, and_self, ↓reduceIte, sr_has]; exact sr_PR_dv h) (by simp only [en_ua, Nat.reduceEqDiff, eq_self, true_and, and_true, false_and, and_false, and_self, ↓reduceIte, sr_has]; exact sr_PR_oh h) (by simp only [en_ua, Nat.reduceEqDiff, eq_self, true_and, and_true, false_and, and_false, and_self, ↓reduceIte, sr_has]; exact sr_PR_gs h) (by simp only [sr_OD, en_ua, Nat.reduceEqDiff, eq_self, true_and, and_true, false_and, and_false, and_self, ↓reduceIte, sr_has]; exact sr_PR_od h) (by simp only [sr_GO, en_ua, Nat.reduceEqDiff, eq_self, true_and, and_true, false_and, and_false, and_self, ↓reduceIte, sr_has]; exact sr_PR_go h) (by simp only [en_ua, Nat.reduceEqDiff, eq_self, true_and, and_true, false_and, and_false, and_self, ↓reduceIte, sr_has]; exact sr_PR_rd h)
theorem sr_PR_8 (h : sr_PR f g p) (h2 : ¬ g 36 0 p = 2) : sr_PR (en_up f 3 p 8 x) g p := sr_PR_mk (by simp only [en_ua, Nat.reduceEqDiff, eq_self, true_and, and_true, false_and, and_false, and_self, ↓reduceIte, sr_has]; exact sr_PR_vw h) (by simp only [en_ua, Nat.reduceEqDiff, eq_self, true_and, and_true, false_and, and_false, and_self, ↓reduceIte, sr_has]; exact sr_PR_kd h) (by simp only [en_ua, Nat.reduceEqDiff, eq_self, true_and, and_true, false_and, and_false, and_self, ↓reduceIte, sr_has]; exact sr_PR_op h) (by simp only [en_ua, Nat.reduceEqDiff, eq_self, true_and, and_true, false_and, and_false, and_self, ↓reduceIte, sr_has]; exact sr_PR_ch h) (sr_PR_cb h) (by simp only [en_ua, Nat.reduceEqDiff, eq_self, true_and, and_true, false_and, and_false, and_self, ↓reduceIte, sr_has]; exact sr_PR_cf h) (by simp only [en_ua, Nat.reduceEqDiff, eq_self, true_and, and_true, false_and, and_false, and_self, ↓reduceIte, sr_has]; exact sr_PR_cc h) (by simp only [en_ua, Nat.reduceEqDiff, eq_self, true_and, and_true, false_and, and_false, and_self, ↓reduceIte, sr_has]; exact sr_PR_kn h) (by simp only [en_ua, Nat.reduceEqDiff, eq_self, true_and, and_true, false_and, and_false, and_self, ↓reduceIte, sr_has]; exact sr_PR_bk h) (by simp only [en_ua, Nat.reduceEqDiff, eq_self, true_and, and_true, false_and, and_false, and_self, ↓reduceIte, sr_has]; exact sr_PR_co h) (by simp only [en_ua, Nat.reduceEqDiff, eq_self, true_and, and_true, false_and, and_false, and_self, ↓reduceIte, sr_has]; exact sr_PR_hi h) (by simp only [en_ua, Nat.reduceEqDiff, eq_self, true_and, and_true, false_and, and_false, and_self, ↓reduceIte, sr_has]; exact sr_PR_ho h) (by simp only [en_ua, Nat.reduceEqDiff, eq_self, true_and, and_true, false_and, and_false, and_self, ↓reduceIte, sr_has]; exact sr_PR_fa h) (sr_PR_bi h) (sr_PR_bo h) (by simp only [en_ua, Nat.reduceEqDiff, eq_self, true_and, and_true, false_and, and_false, and_self, ↓reduceIte, sr_has]; exact sr_PR_iv h) (by simp only [en_ua, Nat.reduceEqDiff, eq_self, true_and, and_true, false_and, and_false, and_self, ↓reduceIte, sr_has]; exact sr_PR_ah h) (by simp only [en_ua, Nat.reduceEqDiff, eq_self, true_and, and_true, false_and, and_false, and_self, ↓reduceIte, sr_has]; exact sr_PR_an h) (by simp only [en_ua, Nat.reduceEqDiff, eq_self, true_and, and_true, false_and, and_false, and_self, ↓reduceIte, sr_has]; exact sr_PR_nu h) (by simp only [en_ua, Nat.reduceEqDiff, eq_self, true_and, and_true, false_and, and_false, and_self, ↓reduceIte, sr_has]; exact sr_PR_fl h) (sr_PR_ki h) (by simp only [en_ua, Nat.reduceEqDiff, eq_self, true_and, and_true, false_and, and_false, and_self, ↓reduceIte, sr_has]; exact sr_PR_dv h) (by simp only [en_ua, Nat.reduceEqDiff, eq_self, true_and, and_true, false_and, and_false, and_self, ↓reduceIte, sr_has]; exact sr_PR_oh h) (fun z => absurd z h2) (by simp only [sr_OD, en_ua, Nat.reduceEqDiff, eq_self, true_and, and_true, false_and, and_false, and_self, ↓reduceIte, sr_has]; exact sr_PR_od h) (by simp only [sr_GO, en_ua, Nat.reduceEqDiff, eq_self, true_and, and_true, false_and, and_false, and_self, ↓reduceIte, sr_has]; exact sr_PR_go h) (sr_PR_rd h)
theorem sr_ohp (e9 : g' 49 0 j = g 49 0 j) (e4 : g' 54 0 j = g 54 0 j) : md_ohp g' v j = md_ohp g v j := by
  unfold md_ohp
  rw [e9, e4]
/-- an order of port p changes, and where it stands -/
theorem sr_ord (X : sr_SX f g p) (oc : md_oc g ≤ 16) (hp : p < 6) (hk : k < md_oc g) (h49 : g 49 0 k = nI p) (hot : ∀ j, j < md_oc g → ¬ j = k → g 49 0 j = nI p → g 54 0 j = 0 → g 55 0 j = 0) (ef : ∀ a i j, ¬ (a = 3 ∧ i = p ∧ j = 8) → ¬ ((a = 8 ∨ a = 9) ∧ i = k) → f' a i j = f a i j) (eg : ∀ a j, ¬ ((a = 54 ∨ a = 55 ∨ a = 56) ∧ j = k) → ¬ (a = 57 ∧ 4 * k ≤ j ∧ j < 4 * k + 4) → g' a 0 j = g a 0 j) (h2 : ¬ g 36 0 p = 2) (hO : sr_OR f' g' k) (hD : sr_DP f' g' p) : sr_SR f' g' := by
  have hoc : md_oc g' = md_oc g := by unfold md_oc; rw [eg 16 31 (by omega) (by omega)]
  have hne : ∀ r, r < 6 → ¬ r = p → ¬ g 49 0 k = nI r := by
    intro r hr hrp z
    rw [h49] at z
    exact hrp ((nI_eq (by omega) (by omega)).mp z).symm
  have hhand : ∀ r, r < 6 → ¬ r = p → sr_hand g' r = sr_hand g r := by
    intro r hr hrp
    unfold sr_hand
    rw [hoc]
    refine cx_fo_c _ _ (fun j _ _ => ?_)
    by_cases e : j = k
    · subst e
      have z1 : md_ohp g (nI r) j = false := by
        unfold md_ohp
        exact decide_eq_false (fun z => hne r hr hrp z.1)
      have z2 : md_ohp g' (nI r) j = false := by
        unfold md_ohp
        rw [eg 49 j (by omega) (by omega)]
        exact decide_eq_false (fun z => hne r hr hrp z.1)
      rw [z1, z2]
    · exact sr_ohp (eg 49 j (by omega) (by omega)) (eg 54 j (by omega) (by omega))
  refine sr_SR_mk ?_ (fun j hj => ?_) (fun r hr => ?_) (fun r hr => ?_) ?_ ?_
  · refine sr_GR_up (sr_SX_gr X) f' g' (fun a i j z => ef a i j (by omega) (by omega)) (fun a j z => eg a j (by omega) (by omega)) (fun r hr i hi => ?_) (fun r hr i hi => ?_)
    · rw [ef 6 r i (by omega) (by omega), eg 33 _ (by omega) (by omega)]; exact sr_GR_ct (sr_SX_gr X) r hr i hi
    · rw [ef 7 r i (by omega) (by omega), eg 35 _ (by omega) (by omega)]; exact sr_GR_cd (sr_SX_gr X) r hr i hi
  · by_cases e : j = k
    · subst e; exact hO
    · have h := sr_SX_ors X j hj
      refine sr_OR_mk ?_ ?_ ?_ ?_ ?_ ?_
      · rw [hoc, ef 8 j _ (by omega) (by omega), ef 8 j _ (by omega) (by omega), ef 8 j _ (by omega) (by omega), ef 8 j _ (by omega) (by omega), ef 8 j _ (by omega) (by omega), ef 8 j _ (by omega) (by omega), eg 49 j (by omega) (by omega), eg 50 j (by omega) (by omega), eg 51 j (by omega) (by omega), eg 52 j (by omega) (by omega), eg 53 j (by omega) (by omega), eg 54 j (by omega) (by omega)]
        exact sr_OR_ol h
      · rw [ef 8 j _ (by omega) (by omega), eg 56 j (by omega) (by omega)]; exact sr_OR_tk h
      · intro i hi
        rw [ef 9 j _ (by omega) (by omega), eg 57 _ (by omega) (by omega)]; exact sr_OR_nn h i hi
      · rw [hoc, ef 8 j _ (by omega) (by omega)]; exact sr_OR_nw h
      · rw [hoc, eg 54 j (by omega) (by omega)]
        intro z1 z2
        obtain ⟨r, hr, y1, y2, y3, y4⟩ := sr_OR_lv h z1 z2
        refine ⟨r, hr, by rw [eg 49 j (by omega) (by omega)]; exact y1, by rw [eg 36 r (by omega) (by omega)]; exact y2, by rw [eg 38 r (by omega) (by omega)]; exact y3, ?_⟩
        rw [eg 55 j (by omega) (by omega)]
        by_cases er : r = p
        · subst er
          exact Or.inl (hot j z1 e y1 z2)
        · rw [hhand r hr er]; exact y4
      · rw [hoc, eg 54 j (by omega) (by omega), eg 55 j (by omega) (by omega), eg 52 j (by omega) (by omega)]
        exact sr_OR_sc h
  · by_cases er : r = p
    · subst er
      refine sr_PR_o (f := en_up f 3 r 8 (f' 3 r 8)) (g := g) (fun j => ?_) (fun j => ?_) (fun j => ?_) (fun a ha => ?_) (Or.inl (eg 16 28 (by omega) (by omega))) (sr_PR_8 (sr_SX_prs X r hr) h2)
      · by_cases e8 : j = 8
        · subst e8; rw [up_s]
        · rw [up_n (by omega)]; exact ef _ _ _ (by omega) (by omega)
      · rw [up_n (by omega)]; exact ef _ _ _ (by omega) (by omega)
      · rw [up_n (by omega)]; exact ef _ _ _ (by omega) (by omega)
      · unfold sr_pk at ha; exact eg _ _ (by omega) (by omega)
    · exact sr_PR_o (fun j => ef _ _ _ (by omega) (by omega)) (fun j => ef _ _ _ (by omega) (by omega)) (fun j => ef _ _ _ (by omega) (by omega)) (fun a ha => by unfold sr_pk at ha; exact eg _ _ (by omega) (by omega)) (Or.inl (eg 16 28 (by omega) (by omega))) (sr_SX_prs X r hr)
  · by_cases er : r = p
    · subst er; exact hD
    · refine sr_DP_h (ef _ _ _ (by omega) (by omega)) (fun a ha => by unfold sr_dk at ha; exact eg _ _ (by omega) (by omega)) (hhand r hr er) (fun j hj => ?_) (fun j => eg _ _ (by omega) (by omega)) (fun j => eg _ _ (by omega) (by omega)) (sr_SX_dpx X r hr er)
      refine eg _ _ (fun z => ?_) (by omega)
      have := (cx_fo_lt hj).2.2
      unfold md_ohp at this
      have := of_decide_eq_true this
      rw [z.2] at this
      exact hne r hr er this.1
  · intro r t hr ht hne h1 h2
    unfold sr_has at h1 h2
    rw [eg 36 r (by omega) (by omega)] at h1
    rw [eg 36 t (by omega) (by omega)] at h2
    rw [eg 37 r (by omega) (by omega), eg 37 t (by omega) (by omega)]
    exact sr_SX_num X r t hr ht hne h1 h2
  · intro r t hr ht h1 h2
    rw [eg 36 r (by omega) (by omega)] at h1
    rw [eg 36 t (by omega) (by omega)] at h2
    exact sr_SX_one X r t hr ht h1 h2
/-- an order that is over is over otherwise -/
theorem cx_relO_x (h : ¬ x = 0) : cx_relO (en_up f 8 k 7 x) p n = en_up (cx_relO f p n) 8 k 7 x := by
  funext k' i' j'
  by_cases e : k' = 8 ∧ j' = 7
  · obtain ⟨rfl, rfl⟩ := e
    rw [cx_relO_7]
    by_cases ei : i' = k
    · subst ei
      rw [up_s, up_s, if_neg (fun z => h z.2.2)]
    · rw [up_n (by omega), up_n (by omega), up_n (by omega), cx_relO_7]
  · have e1 : ∀ u : en_F, cx_relO u p n k' i' j' = u k' i' j' := fun u => if_neg (fun z => e z.1)
    rw [e1, up_n (by omega), up_n (by omega), e1]
theorem md_relO_x (h : ¬ x = 0) : md_relO (en_up g 54 0 k x) p n = en_up (md_relO g p n) 54 0 k x := by
  funext k' i' j'
  by_cases e : k' = 54 ∧ i' = 0
  · obtain ⟨rfl, rfl⟩ := e
    rw [md_relO_54]
    by_cases ei : j' = k
    · subst ei
      rw [up_s, up_s, if_neg (fun z => h z.2.2)]
    · rw [up_n (by omega), up_n (by omega), up_n (by omega), md_relO_54]
  · have e1 : ∀ u : en_F, md_relO u p n k' i' j' = u k' i' j' := fun u => if_neg (fun z => e z.1)
    rw [e1, up_n (by omega), up_n (by omega), e1]
theorem sr_detF2 (R : sr_SR f g) (oc : md_oc g ≤ 16) (hp : p < 6) (hk : k < md_oc g) (h1 : g 38 0 p = 1) (h49 : g 49 0 k = nI p) (h54 : g 54 0 k = 0) : sr_SR (cx_detF (cx_end (en_up f 3 p 7 x) k 2) p (cx_oc (cx_end (en_up f 3 p 7 x) k 2))) (md_fails (md_detach (en_up (en_up g 44 0 p x) 54 0 k 2) p) p 4) := by
  have P := sr_SR_prs R p hp
  have R1 := sr_detF (x := x) R oc hp
  have ol := sr_OR_ol (sr_SR_ors R k (by omega)) hk
  have eE : cx_end (en_up f 3 p 7 x) k 2 = en_up (en_up f 3 p 7 x) 8 k 7 2 := by
    unfold cx_end
    rw [if_pos (by rw [up_n (by omega), ol.2.2.2.2.2]; exact h54)]
  have eo : cx_oc (en_up (en_up f 3 p 7 x) 8 k 7 2) = cx_oc (en_up f 3 p 7 x) := by
    unfold cx_oc
    rw [up_n (by omega)]
  have z8 : ∀ F : en_F, F 38 0 p = 1 → md_detach F p = md_leaf F p := fun F z => if_neg (fun y => absurd (z.symm.trans y.2) (by decide))
  have cF : ∀ F : en_F, F 3 p 9 = 1 → ∀ n, cx_detF (en_up F 8 k 7 2) p n = en_up (cx_detF F p n) 8 k 7 2 := by
    intro F z n
    have w1 : cx_det (en_up F 8 k 7 2) p n = cx_rel (en_up F 8 k 7 2) p n := if_neg (fun y => absurd (z.symm.trans ((up_n (by omega)).symm.trans y.1.2)) (by decide))
    have w2 : cx_det F p n = cx_rel F p n := if_neg (fun y => absurd (z.symm.trans y.1.2) (by decide))
    unfold cx_detF
    rw [w1, w2]
    unfold cx_rel cx_leave
    rw [up_c (k := 8) (k' := 3) (j' := 3) (by omega), up_c (k := 8) (k' := 3) (j' := 1) (by omega), up_c (k := 8) (k' := 3) (j' := 4) (by omega), cx_relO_x (by decide), up_c (k := 8) (k' := 3) (j' := 3) (by omega)]
  have mF : ∀ F : en_F, F 38 0 p = 1 → md_fails (md_detach (en_up F 54 0 k 2) p) p 4 = en_up (md_fails (md_detach F p) p 4) 54 0 k 2 := by
    intro F z
    rw [z8 F z, z8 (en_up F 54 0 k 2) (by rw [up_n (by omega)]; exact z)]
    unfold md_leaf md_fails
    rw [oc_up (by omega), up_c (k := 54) (k' := 36) (by omega), up_c (k := 54) (k' := 20) (by omega), md_relO_x (by decide), up_c (k := 54) (k' := 36) (by omega), up_c (k := 54) (k' := 20) (by omega)]
  rw [eE, eo, cF _ (by rw [up_n (by omega), sr_PR_kn P]; exact h1), mF _ (by rw [up_n (by omega)]; exact h1)]
  have g36 : md_fails (md_detach (en_up g 44 0 p x) p) p 4 36 0 p = 4 := by rw [md_fails_36, if_pos rfl]
  have goc : md_oc (md_fails (md_detach (en_up g 44 0 p x) p) p 4) = md_oc g := by rw [md_fails_oc, md_det_oc, oc_up (by omega)]
  have g49 : md_fails (md_detach (en_up g 44 0 p x) p) p 4 49 0 k = nI p := by
    rw [z8 _ (by rw [up_n (by omega)]; exact h1)]
    unfold md_fails md_leaf
    rw [up_n (by omega), up_n (by omega)]
    have e1 : ∀ u : en_F, md_relO u p (md_oc (en_up g 44 0 p x)) 49 0 k = u 49 0 k := fun u => if_neg (fun z => absurd z.1.1 (by omega))
    rw [e1, up_n (by omega), up_n (by omega), up_n (by omega)]
    exact h49
  have hl : ∀ j, j < md_oc g → md_fails (md_detach (en_up g 44 0 p x) p) p 4 54 0 j = 0 → ¬ md_fails (md_detach (en_up g 44 0 p x) p) p 4 49 0 j = nI p := by
    intro j hj z
    exact sr_live R1 (by rw [goc]; exact oc) hp (fun y => absurd (g36.symm.trans y.1) (by decide)) j (by rw [goc]; exact hj) z
  have O1 := sr_SR_ors R1 k (by omega)
  refine sr_ord (p := p) (k := k) (sr_SX_of R1) (by rw [goc]; exact oc) hp (by rw [goc]; exact hk) g49 (fun j hj _ y1 y2 => absurd y1 (hl j (by rw [goc] at hj; exact hj) y2)) (fun a i j _ z2 => up_n (by omega)) (fun a j z1 _ => up_n (by omega)) (by rw [g36]; decide) ?_ ?_
  · have ol1 := sr_OR_ol O1 (by rw [goc]; exact hk)
    have e54 : en_up (md_fails (md_detach (en_up g 44 0 p x) p) p 4) 54 0 k 2 54 0 k = 2 := up_s
    refine sr_OR_mk (fun _ => ?_) ?_ (fun i hi => ?_) (fun z => ?_) (fun _ z => ?_) (fun _ z => ?_)
    · rw [up_s, up_s, up_n (by omega), up_n (by omega), up_n (by omega), up_n (by omega), up_n (by omega), up_n (by omega), up_n (by omega), up_n (by omega), up_n (by omega), up_n (by omega)]
      exact ⟨ol1.1, ol1.2.1, ol1.2.2.1, ol1.2.2.2.1, ol1.2.2.2.2.1, rfl⟩
    · rw [up_n (by omega), up_n (by omega)]; exact sr_OR_tk O1
    · rw [up_n (by omega), up_n (by omega)]; exact sr_OR_nn O1 i hi
    · rw [oc_up (by omega), goc] at z; omega
    · rw [e54] at z; exact absurd z (by decide)
    · rw [e54] at z; exact absurd z (by decide)
  · intro z
    rw [up_n (by omega), g36] at z
    exact absurd z (by decide)
end Sr14
