/-! THE TWO STATES SIDE BY SIDE, 17: codes, losses, orders; questions -/
section Sr17
variable {p k n m q i j s c : Nat} {f g f' g' F G : en_F} {v w a b x r e : Int32}
theorem sr_press (R : sr_SR f g) (ok : md_OK g) : sr_SR (cx_press f v w).2 (md_press g v w).2 ∧ (cx_press f v w).1 = (md_press g v w).1 := by
  have oc : md_oc g ≤ 16 := ok.1.1
  unfold cx_press md_press
  by_cases h1 : (¬ v < 0 ∧ v < 6) ∧ ¬ w < 0 ∧ w < 256
  · rw [if_pos h1]
    rcases cx_port v with ⟨p, hp, rfl⟩ | h
    · rw [cb_c6 hp]
      have P := sr_SR_prs R p hp
      have hc := MO_co ok p hp
      have hlt : f 4 p 2 < 4 ↔ ¬ g 34 0 p = 4 := by
        rw [sr_PR_cc P, hc.2, show (4 : Int32) = nI 4 from rfl, nI_ltI (by have := hc.1; omega) (by omega), nI_eq (by have := hc.1; omega) (by omega)]
        have := hc.1
        omega
      unfold cx_addCode
      by_cases h2 : g 17 0 p = 2 ∧ ¬ g 34 0 p = 4
      · rw [if_pos ⟨by rw [sr_PR_kd P]; exact h2.1, hlt.mpr h2.2⟩, if_pos ⟨h1, h2⟩, sr_PR_cc P]
        refine ⟨?_, rfl⟩
        dsimp only
        have hcc : md_cc g p < 4 := by
          have := hlt.mpr h2.2
          rw [sr_PR_cc P, hc.2, show (4 : Int32) = nI 4 from rfl, nI_ltI (by have := hc.1; omega) (by omega)] at this
          exact this
        have X1 := sr_code (q := p) (j := md_cc g p) (x := w) (sr_SX_of (p := p) R) hp hcc
        have X2 := sr_codes (x := g 34 0 p + 1) X1 (by rw [oc_up (by omega)]; exact oc) hp
        refine sr_SR_of X2 (sr_DP_o ?_ (fun k hk => ?_) (fun k j h1 h2 => ?_) ?_ (sr_SR_dps R p hp))
        · rw [up_n (by omega), up_n (by omega)]
        · unfold sr_dk at hk; rw [up_n (by omega), up_n (by omega)]
        · rw [up_n (by omega), up_n (by omega)]
        · rw [up_n (by omega), up_n (by omega)]
      · rw [if_neg (fun z => h2 ⟨by rw [← sr_PR_kd P]; exact z.1, hlt.mp z.2⟩), if_neg (fun z => h2 z.2)]
        exact ⟨R, rfl⟩
    · exact absurd h1.1 h
  · rw [if_neg h1, if_neg (fun z => h1 z.1)]
    exact ⟨R, rfl⟩
theorem sr_spoil (R : sr_SR f g) (hn : cx_ln f < 40) : sr_SR (cx_spoil f v w).2 (md_spoil g v w).2 ∧ (cx_spoil f v w).1 = (md_spoil g v w).1 := by
  have Gr := sr_SR_gr R
  obtain ⟨l1, l2⟩ := sr_GR_ls Gr
  unfold cx_spoil md_spoil
  by_cases h : (¬ v < 1 ∧ ¬ 40 < v) ∧ ¬ w < 0 ∧ ¬ 3 < w
  · rw [if_pos h, if_pos h]
    refine ⟨?_, rfl⟩
    dsimp only
    have h0 : ¬ v < 0 := fun z => h.1.1 (Int32.lt_trans z (by decide))
    obtain ⟨t, ht, rfl⟩ := nI_of h0
    have ht40 : t ≤ 40 := by
      have := mt (nI_ltI (a := 40) (b := t) (by omega) ht).mpr h.1.2
      omega
    have ht1 : 1 ≤ t := by
      have := mt (nI_ltI (a := t) (b := 1) ht (by omega)).mpr h.1.1
      omega
    rw [nI_clamp ht, tk_63 (by omega), Int32.add_comm 1 w]
    generalize (if w = 3 then (0 : Int32) else w + 1) = y
    have ef : ∀ k i j, ¬ k = 11 → en_up f 11 0 ((cx_ln f + t - 1) % 40) y k i j = f k i j := fun k i j z => up_n (by omega)
    have eg : ∀ k j, ¬ k = 60 → en_up g 60 0 (((g 16 0 44).toBitVec.toNat + t) % 64) y k 0 j = g k 0 j := fun k j z => up_n (by omega)
    refine sr_glob R (fun k i j z => ef k i j (by omega)) (fun k j z => eg k j (by unfold sr_pk at z; omega)) (sr_GR_mk ?_ ?_ ?_ ?_ ?_ ?_ ?_ ?_ ?_ ?_ ?_)
    · rw [ef _ _ _ (by omega), eg _ _ (by omega)]; exact sr_GR_oc Gr
    · rw [ef _ _ _ (by omega), eg _ _ (by omega)]; exact sr_GR_fr Gr
    · rw [ef _ _ _ (by omega), eg _ _ (by omega)]; exact sr_GR_sl Gr
    · rw [ef _ _ _ (by omega), eg _ _ (by omega)]; exact sr_GR_hp Gr
    · rw [ef _ _ _ (by omega), eg _ _ (by omega)]; exact sr_GR_tr Gr
    · rw [ef _ _ _ (by omega), eg _ _ (by omega)]; exact sr_GR_ky Gr
    · rw [ef _ _ _ (by omega), eg _ _ (by omega)]; exact sr_GR_kx Gr
    · intro i hi; rw [ef _ _ _ (by omega), eg _ _ (by omega)]; exact sr_GR_la Gr i hi
    · have eln : cx_ln (en_up f 11 0 ((cx_ln f + t - 1) % 40) y) = cx_ln f := by
        show (en_up f 11 0 ((cx_ln f + t - 1) % 40) y 10 0 1).toNatClampNeg = cx_ln f
        rw [ef _ _ _ (by omega)]
        rfl
      have et : sr_t (en_up g 60 0 (((g 16 0 44).toBitVec.toNat + t) % 64) y) = sr_t g := by unfold sr_t; rw [eg _ _ (by omega)]
      unfold sr_LS
      rw [eln, et]
      refine ⟨fun j hj1 hj2 => ?_, fun j hj1 hj2 => ?_⟩
      · by_cases e : j = t
        · subst e
          unfold sr_t
          rw [up_s, up_s]
        · rw [up_n (by omega), up_n (by unfold sr_t; omega)]
          exact l1 j hj1 hj2
      · rw [up_n (by unfold sr_t; omega)]
        exact l2 j hj1 hj2
    · intro p h6 i hi; rw [ef _ _ _ (by omega), eg _ _ (by omega)]; exact sr_GR_ct Gr p h6 i hi
    · intro p h6 i hi; rw [ef _ _ _ (by omega), eg _ _ (by omega)]; exact sr_GR_cd Gr p h6 i hi
  · rw [if_neg h, if_neg h]; exact ⟨R, rfl⟩
/-- an order is placed -/
theorem cx_fo_sn {c : Nat → Bool} : ∀ m i, cx_fo c (m + 1) i = match cx_fo c m i with
    | some k => some k
    | none => if c (i + m) = true then some (i + m) else none := by
  intro m
  induction m with
  | zero => intro i; rfl
  | succ m ih =>
    intro i
    have e1 : cx_fo c (m + 1 + 1) i = if c i = true then some i else cx_fo c (m + 1) (i + 1) := rfl
    have e2 : cx_fo c (m + 1) i = if c i = true then some i else cx_fo c m (i + 1) := rfl
    rw [e1, e2, ih (i + 1), show i + 1 + m = i + (m + 1) by omega]
    by_cases h : c i = true
    · rw [if_pos h, if_pos h]
    · rw [if_neg h, if_neg h]
theorem sr_place1 (R : sr_SR f g) (ok : md_OK g) (hp : p < 6) (h3 : g 36 0 p = 3) (h1 : g 38 0 p = 1) (hn : md_oc g < 16) (hc1 : 1 ≤ c) (hc4 : c ≤ 4) (f' g' : en_F) (e8 : f' 0 0 4 = nI (md_oc g + 1)) (e31 : g' 16 0 31 = nI (md_oc g + 1)) (ef : ∀ k i j, ¬ (k = 0 ∧ j = 4) → ¬ (k = 8 ∧ i = md_oc g ∧ 2 ≤ j) → f' k i j = f k i j) (eg : ∀ k j, ¬ (k = 16 ∧ j = 31) → ¬ ((49 ≤ k ∧ k ≤ 54) ∧ j = md_oc g) → g' k 0 j = g k 0 j) (f2 : f' 8 (md_oc g) 2 = g' 49 0 (md_oc g) ∧ f' 8 (md_oc g) 3 = g' 51 0 (md_oc g) ∧ f' 8 (md_oc g) 4 = g' 52 0 (md_oc g) ∧ f' 8 (md_oc g) 5 = g' 50 0 (md_oc g) ∧ f' 8 (md_oc g) 6 = g' 53 0 (md_oc g) ∧ f' 8 (md_oc g) 7 = g' 54 0 (md_oc g)) (g2 : g' 49 0 (md_oc g) = nI p) (g5 : g' 52 0 (md_oc g) = nI c) : sr_SR f' g' := by
  have Gr := sr_SR_gr R
  have hoc : md_oc g' = md_oc g + 1 := by unfold md_oc at e31 ⊢; rw [e31]; exact nI_clamp (by unfold md_oc at hn; omega)
  have g55 : g 55 0 (md_oc g) = 0 := (ok.2.2.2.2.2 (md_oc g) (Nat.le_refl _) hn).1
  have old : ∀ k, k < md_oc g → ∀ v, md_ohp g' v k = md_ohp g v k := fun k hk v => sr_ohp (eg _ _ (by omega) (by omega)) (eg _ _ (by omega) (by omega))
  have hand : ∀ r, sr_hand g' r = match sr_hand g r with
      | some k => some k
      | none => if md_ohp g' (nI r) (md_oc g) = true then some (md_oc g) else none := by
    intro r
    unfold sr_hand
    rw [hoc, cx_fo_sn, Nat.zero_add, cx_fo_c (c := md_ohp g' (nI r)) (c' := md_ohp g (nI r)) (md_oc g) 0 (fun j _ hj => old j (by omega) _)]
  have hsome : ∀ r k, sr_hand g r = some k → sr_hand g' r = some k := fun r k h => by rw [hand, h]
  have hnone : ∀ r, r < 6 → sr_hand g r = none → ¬ r = p → sr_hand g' r = none := by
    intro r hr h hrp
    rw [hand, h]
    dsimp only
    rw [if_neg]
    intro z
    unfold md_ohp at z
    have := (of_decide_eq_true z).1
    rw [g2] at this
    exact hrp ((nI_eq (by omega) (by omega)).mp this).symm
  refine sr_SR_mk (sr_GR_mk ?_ ?_ ?_ ?_ ?_ ?_ ?_ ?_ ?_ ?_ ?_) (fun k hk => ?_) (fun r hr => ?_) (fun r hr => ?_) ?_ ?_
  · rw [e8, e31]
  · rw [ef _ _ _ (by omega) (by omega), eg _ _ (by omega) (by omega)]; exact sr_GR_fr Gr
  · rw [ef _ _ _ (by omega) (by omega), eg _ _ (by omega) (by omega)]; exact sr_GR_sl Gr
  · rw [ef _ _ _ (by omega) (by omega), eg _ _ (by omega) (by omega)]; exact sr_GR_hp Gr
  · rw [ef _ _ _ (by omega) (by omega), eg _ _ (by omega) (by omega)]; exact sr_GR_tr Gr
  · rw [ef _ _ _ (by omega) (by omega), eg _ _ (by omega) (by omega)]; exact sr_GR_ky Gr
  · rw [ef _ _ _ (by omega) (by omega), eg _ _ (by omega) (by omega)]; exact sr_GR_kx Gr
  · intro i hi; rw [ef _ _ _ (by omega) (by omega), eg _ _ (by omega) (by omega)]; exact sr_GR_la Gr i hi
  · exact sr_LS_o (fun j => ef _ _ _ (by omega) (by omega)) (ef _ _ _ (by omega) (by omega)) (fun j => eg _ _ (by omega) (by omega)) (eg _ _ (by omega) (by omega)) (sr_GR_ls Gr)
  · intro p h6 i hi; rw [ef _ _ _ (by omega) (by omega), eg _ _ (by omega) (by omega)]; exact sr_GR_ct Gr p h6 i hi
  · intro p h6 i hi; rw [ef _ _ _ (by omega) (by omega), eg _ _ (by omega) (by omega)]; exact sr_GR_cd Gr p h6 i hi
  · have O := sr_SR_ors R k hk
    by_cases ek : k = md_oc g
    · subst ek
      refine sr_OR_mk (fun _ => f2) ?_ (fun i hi => ?_) (fun z => ?_) (fun _ _ => ?_) (fun _ _ => ?_)
      · rw [ef _ _ _ (by omega) (by omega), eg _ _ (by omega) (by omega)]; exact sr_OR_tk O
      · rw [ef _ _ _ (by omega) (by omega), eg _ _ (by omega) (by omega)]; exact sr_OR_nn O i hi
      · omega
      · exact ⟨p, hp, g2, by rw [eg _ _ (by omega) (by omega)]; exact h3, by rw [eg _ _ (by omega) (by omega)]; exact h1, Or.inl (by rw [eg _ _ (by omega) (by omega)]; exact g55)⟩
      · exact ⟨0, c, by rw [eg _ _ (by omega) (by omega)]; exact g55, g5, by omega, hc1, hc4⟩
    · refine sr_OR_mk (fun z => ?_) ?_ (fun i hi => ?_) (fun z => ?_) (fun z1 z2 => ?_) (fun z1 z2 => ?_)
      · rw [ef _ _ _ (by omega) (by omega), ef _ _ _ (by omega) (by omega), ef _ _ _ (by omega) (by omega), ef _ _ _ (by omega) (by omega), ef _ _ _ (by omega) (by omega), ef _ _ _ (by omega) (by omega), eg _ _ (by omega) (by omega), eg _ _ (by omega) (by omega), eg _ _ (by omega) (by omega), eg _ _ (by omega) (by omega), eg _ _ (by omega) (by omega), eg _ _ (by omega) (by omega)]
        exact sr_OR_ol O (by omega)
      · rw [ef _ _ _ (by omega) (by omega), eg _ _ (by omega) (by omega)]; exact sr_OR_tk O
      · rw [ef _ _ _ (by omega) (by omega), eg _ _ (by omega) (by omega)]; exact sr_OR_nn O i hi
      · rw [ef _ _ _ (by omega) (by omega)]; exact sr_OR_nw O (by omega)
      · rw [eg _ _ (by omega) (by omega)] at z2
        obtain ⟨r, hr, y1, y2, y3, y4⟩ := sr_OR_lv O (by omega) z2
        refine ⟨r, hr, by rw [eg _ _ (by omega) (by omega)]; exact y1, by rw [eg _ _ (by omega) (by omega)]; exact y2, by rw [eg _ _ (by omega) (by omega)]; exact y3, ?_⟩
        rw [eg _ _ (by omega) (by omega)]
        rcases y4 with y | y
        · exact Or.inl y
        · exact Or.inr (hsome r k y)
      · rw [eg _ _ (by omega) (by omega)] at z2
        rw [eg _ _ (by omega) (by omega), eg _ _ (by omega) (by omega)]
        exact sr_OR_sc O (by omega) z2
  · exact sr_PR_o (fun j => ef _ _ _ (by omega) (by omega)) (fun j => ef _ _ _ (by omega) (by omega)) (fun j => ef _ _ _ (by omega) (by omega)) (fun a ha => by unfold sr_pk at ha; exact eg _ _ (by omega) (by omega)) (Or.inl (eg _ _ (by omega) (by omega))) (sr_SR_prs R r hr)
  · have D := sr_SR_dps R r hr
    have hdk : ∀ k, sr_dk k → g' k 0 r = g k 0 r := fun k hk => by unfold sr_dk at hk; exact eg _ _ (by omega) (by omega)
    intro z1 z2
    rw [hdk 36 (by omega)] at z1
    rw [hdk 38 (by omega)] at z2
    obtain ⟨d1, d2⟩ := D z1 z2
    have uI : sr_I g' r = sr_I g r := by unfold sr_I; rw [hdk 42 (by omega), hdk 25 (by omega)]
    have uH : sr_H g' r = sr_H g r := by unfold sr_H; rw [hdk 28 (by omega)]
    have uE : sr_E g' r = sr_E g r := by unfold sr_E; rw [hdk 43 (by omega), hdk 26 (by omega)]
    rw [hdk 20 (by omega), hdk 17 (by omega), ef _ _ _ (by omega) (by omega), d1]
    unfold sr_IV at d2
    unfold sr_hst sr_IV
    rw [uI, uH]
    cases hh : sr_hand g r with
    | some k =>
      have hk := cx_fo_lt hh
      rw [hsome r k hh]
      rw [hh] at d2
      dsimp only at d2 ⊢
      refine ⟨by rw [eg _ _ (by omega) (by omega)], fun o0 k0 => ?_⟩
      obtain ⟨y1, s, c, y2, y3, y4, y5, y6⟩ := d2 o0 k0
      exact ⟨y1, s, c, by rw [eg _ _ (by omega) (by omega)]; exact y2, by rw [eg _ _ (by omega) (by omega)]; exact y3, y4, y5, by rw [eg _ _ (by omega) (by omega)]; exact sr_IVs_o hdk y6⟩
    | none =>
      rw [hh] at d2
      dsimp only at d2
      have hnew : sr_hand g' r = none ∨ (sr_hand g' r = some (md_oc g) ∧ r = p) := by
        by_cases hrp : r = p
        · rw [hand, hh]
          dsimp only
          by_cases z : md_ohp g' (nI r) (md_oc g) = true
          · rw [if_pos z]; exact Or.inr ⟨rfl, hrp⟩
          · rw [if_neg z]; exact Or.inl rfl
        · exact Or.inl (hnone r hr hh hrp)
      rcases hnew with y | ⟨y, rfl⟩
      · rw [y]
        dsimp only
        rw [uE, hdk 30 (by omega)]
        exact ⟨rfl, d2⟩
      · rw [y]
        dsimp only
        refine ⟨by rw [eg _ _ (by omega) (by omega)]; exact g55.symm, fun o0 k0 => ?_⟩
        obtain ⟨y1, y2, y3, y4⟩ := d2 o0 k0
        refine ⟨y1, 0, c, by rw [eg _ _ (by omega) (by omega)]; exact g55, g5, hc1, hc4, Or.inl ⟨rfl, ?_, Or.inl ⟨?_, ?_⟩⟩⟩
        · rw [uI, uH]; exact y4
        · rw [uE]; exact y2
        · rw [hdk 30 (by omega)]; exact y3
  · intro r t hr ht hne h1 h2
    unfold sr_has at h1 h2
    rw [eg 36 r (by omega) (by omega)] at h1
    rw [eg 36 t (by omega) (by omega)] at h2
    rw [eg 37 r (by omega) (by omega), eg 37 t (by omega) (by omega)]
    exact sr_SR_num R r t hr ht hne h1 h2
  · intro r t hr ht h1 h2
    rw [eg 36 r (by omega) (by omega)] at h1
    rw [eg 36 t (by omega) (by omega)] at h2
    exact sr_SR_one R r t hr ht h1 h2
theorem sr_place (R : sr_SR f g) (ok : md_OK g) : sr_SR (cx_place f v a b x w).2 (md_takes g v a b x w).2 ∧ (cx_place f v a b x w).1 = (md_takes g v a b x w).1 := by
  have oc := sr_oc R
  have e4 := sr_GR_oc (sr_SR_gr R)
  unfold cx_place md_takes
  rcases cx_port v with ⟨p, hp, rfl⟩ | h
  · have P := sr_SR_prs R p hp
    rw [cb_c6 hp, sr_PR_vw P, sr_PR_kn P, e4, oc]
    by_cases h : ((¬ nI p < 0 ∧ nI p < 6) ∧ (¬ a < 0 ∧ a < 8) ∧ ¬ b < 1 ∧ ¬ 4 < b) ∧ g 16 0 31 < 16 ∧ g 36 0 p = 3 ∧ g 38 0 p = 1
    · rw [if_pos h, if_pos h]
      refine ⟨?_, rfl⟩
      dsimp only
      have hoc := ok.1
      have hn : md_oc g < 16 := by
        have := h.2.1
        rw [hoc.2, show (16 : Int32) = nI 16 from rfl] at this
        exact (nI_ltI (by omega) (by omega)).mp this
      have hb0 : ¬ b < 0 := fun z => h.1.2.2.1 (Int32.lt_trans z (by decide))
      obtain ⟨c, hc, rfl⟩ := nI_of hb0
      have hc4 : c ≤ 4 := by
        have := mt (nI_ltI (a := 4) (b := c) (by omega) hc).mpr h.1.2.2.2
        omega
      have hc1 : 1 ≤ c := by
        have := mt (nI_ltI (a := c) (b := 1) hc (by omega)).mpr h.1.2.2.1
        omega
      have e31 : g 16 0 31 + 1 = nI (md_oc g + 1) := by rw [hoc.2, nI_s1]
      have f7 : f 8 (md_oc g) 7 = 0 := sr_OR_nw (sr_SR_ors R (md_oc g) hn) (Nat.le_refl _)
      have h7 : cx_place1 f (md_oc g) (nI p) a (nI c) x w 8 (md_oc g) 7 = 0 := by
        unfold cx_place1
        rw [up_n (by omega), up_n (by omega), up_n (by omega), up_n (by omega), up_n (by omega)]
        exact f7
      have hb := sr_PR_bk P
      have eE : cx_place2 f (md_oc g) p (nI p) a (nI c) x w = en_up (cx_place1 f (md_oc g) (nI p) a (nI c) x w) 8 (md_oc g) 7 (if g 39 0 p < a + nI c then 4 else 0) := by
        unfold cx_place2 cx_end
        rw [hb]
        by_cases z : g 39 0 p < a + nI c
        · rw [if_pos z, if_pos z, if_pos h7]
        · rw [if_neg z, if_neg z, up_idv h7]
      rw [eE]
      unfold cx_place1 md_takes1
      refine sr_place1 (p := p) (c := c) R ok hp h.2.2.1 h.2.2.2 hn hc1 hc4 _ _ ?_ ?_ (fun k i j z1 z2 => ?_) (fun k j z1 z2 => ?_) ?_ ?_ ?_
      · rw [up_s]; exact e31
      · rw [up_s]; exact e31
      · by_cases z0 : i = 0
        · rw [up_n (by omega), up_n (by omega), up_n (by omega), up_n (by omega), up_n (by omega), up_n (by omega), up_n (by omega)]
        · rw [up_n (by omega), up_n (by omega), up_n (by omega), up_n (by omega), up_n (by omega), up_n (by omega), up_n (by omega)]
      · rw [up_n (by omega), up_n (by omega), up_n (by omega), up_n (by omega), up_n (by omega), up_n (by omega), up_n (by omega)]
      · simp only [en_ua, Nat.reduceEqDiff, eq_self, true_and, and_true, false_and, and_false, and_self, ↓reduceIte, sr_has]
      · simp only [en_ua, Nat.reduceEqDiff, eq_self, true_and, and_true, false_and, and_false, and_self, ↓reduceIte, sr_has]
      · simp only [en_ua, Nat.reduceEqDiff, eq_self, true_and, and_true, false_and, and_false, and_self, ↓reduceIte, sr_has]
    · rw [if_neg h, if_neg h]; exact ⟨R, rfl⟩
  · rw [if_neg (fun z => h z.1.1), if_neg (fun z => h z.1.1)]; exact ⟨R, rfl⟩
/-- questions -/
theorem sr_view (R : sr_SR f g) : (if ¬ v < 0 ∧ v < 6 then f 3 v.toNatClampNeg 3 else -1) = if ¬ v < 0 ∧ v < 6 then g 36 0 v.toNatClampNeg else -1 := by
  rcases cx_port v with ⟨p, hp, rfl⟩ | h
  · rw [cb_c6 hp, sr_PR_vw (sr_SR_prs R p hp)]
  · rw [if_neg h, if_neg h]
theorem sr_addr (R : sr_SR f g) : (if ¬ v < 0 ∧ v < 6 then f 3 v.toNatClampNeg 4 else -1) = if ¬ v < 0 ∧ v < 6 then (if g 36 0 v.toNatClampNeg = 2 ∨ g 36 0 v.toNatClampNeg = 3 then g 37 0 v.toNatClampNeg else 0) else -1 := by
  rcases cx_port v with ⟨p, hp, rfl⟩ | h
  · rw [cb_c6 hp]
    have P := sr_SR_prs R p hp
    by_cases z : sr_has g p
    · rw [sr_PR_ah P z, if_pos (show g 36 0 p = 2 ∨ g 36 0 p = 3 from z)]
    · rw [sr_PR_an P z, if_neg (show ¬ (g 36 0 p = 2 ∨ g 36 0 p = 3) from z)]
  · rw [if_neg h, if_neg h]
theorem sr_ordq (R : sr_SR f g) (ok : md_OK g) : (if ¬ v < 0 ∧ v < f 0 0 4 then f 8 v.toNatClampNeg 7 else -1) = if ¬ v < 0 ∧ v < g 16 0 31 then g 54 0 v.toNatClampNeg else -1 := by
  rw [sr_GR_oc (sr_SR_gr R)]
  by_cases h : ¬ v < 0 ∧ v < g 16 0 31
  · rw [if_pos h, if_pos h]
    obtain ⟨k, hk, rfl⟩ := nI_of h.1
    have hko : k < md_oc g := by
      have := h.2
      rw [ok.1.2] at this
      exact (nI_ltI hk (by have := ok.1.1; omega)).mp this
    rw [nI_clamp hk]
    exact (sr_OR_ol (sr_SR_ors R k (by have := ok.1.1; omega)) hko).2.2.2.2.2
  · rw [if_neg h, if_neg h]
theorem sr_gotq (R : sr_SR f g) (ok : md_OK g) : (if ¬ v < 0 ∧ v < f 0 0 4 then (if ¬ w < 0 ∧ w < f 8 v.toNatClampNeg 1 then f 9 v.toNatClampNeg w.toNatClampNeg else 0) else -1) = if ¬ v < 0 ∧ v < g 16 0 31 then (if ¬ w < 0 ∧ w < g 56 0 v.toNatClampNeg then g 57 0 (4 * v.toNatClampNeg + w.toNatClampNeg) else 0) else -1 := by
  rw [sr_GR_oc (sr_SR_gr R)]
  by_cases h : ¬ v < 0 ∧ v < g 16 0 31
  · rw [if_pos h, if_pos h]
    obtain ⟨k, hk, rfl⟩ := nI_of h.1
    have hko : k < md_oc g := by
      have := h.2
      rw [ok.1.2] at this
      exact (nI_ltI hk (by have := ok.1.1; omega)).mp this
    have O := sr_SR_ors R k (by have := ok.1.1; omega)
    rw [nI_clamp hk, sr_OR_tk O]
    by_cases h2 : ¬ w < 0 ∧ w < g 56 0 k
    · rw [if_pos h2, if_pos h2]
      obtain ⟨j, hj, rfl⟩ := nI_of h2.1
      obtain ⟨t, ht, et⟩ := ok.2.2.2.2.1 k hko
      have hjt : j < t := by
        have := h2.2
        rw [et] at this
        exact (nI_ltI hj (by omega)).mp this
      rw [nI_clamp hj]
      exact sr_OR_nn O j (by omega)
    · rw [if_neg h2, if_neg h2]
  · rw [if_neg h, if_neg h]
theorem sr_imgq (R : sr_SR f g) (ok : md_OK g) : (if (¬ v < 0 ∧ v < 6) ∧ f 4 v.toNatClampNeg 3 = 1 then cx_blockAt f v.toNatClampNeg w else 0) = if (¬ v < 0 ∧ v < 6) ∧ g 17 0 v.toNatClampNeg = 1 then md_blockAt g v.toNatClampNeg w else 0 := by
  rcases cx_port v with ⟨p, hp, rfl⟩ | h
  · rw [cb_c6 hp]
    have P := sr_SR_prs R p hp
    rw [sr_PR_kd P]
    by_cases h : (¬ nI p < 0 ∧ nI p < 6) ∧ g 17 0 p = 1
    · rw [if_pos h, if_pos h]
      have hs : f 5 p 1 = g 18 0 p := by
        have := sr_PR_dv P
        unfold sr_dev at this
        rw [h.2] at this
        rcases this with z | z | z | z
        · exact absurd z (by decide)
        · exact z.2.1
        · exact absurd z.1 (by decide)
        · exact absurd z.1 (by decide)
      obtain ⟨a, ha, e18⟩ := (ok.2.2.1 p hp).2.2.2.1 h.2
      unfold cx_blockAt md_blockAt
      rw [hs, e18]
      by_cases h0 : w < 0
      · rw [if_neg (fun z => z.1 h0), if_pos (Or.inl h0)]
      · obtain ⟨j, hj, rfl⟩ := nI_of h0
        have hm : nI a - 1 < nI j ↔ ¬ nI j < nI a := by
          rw [nI_ltI hj (by omega)]
          cases a with
          | zero =>
            have : nI 0 - 1 < nI j := by
              rw [Int32.lt_iff_toInt_lt, show (nI 0 - 1).toInt = -1 from rfl]
              have := mt (Int32.lt_iff_toInt_lt (x := nI j) (y := 0)).mpr h0
              rw [show (0 : Int32).toInt = 0 from rfl] at this
              omega
            exact ⟨fun _ => by omega, fun _ => this⟩
          | succ a =>
            rw [show (1 : Int32) = nI 1 from rfl, pk_sub (by omega), nI_ltI (by omega) hj]
            omega
        by_cases hl : nI j < nI a
        · have hja := (nI_ltI hj (by omega)).mp hl
          have h8 : nI j < 8 := (nI_ltI hj (b := 8) (by omega)).mpr (by omega)
          rw [if_pos ⟨h0, hl, h8⟩, if_neg (fun z => by rcases z with z | z; exact h0 z; exact hm.mp z hl), nI_clamp hj]
          exact sr_GR_ct (sr_SR_gr R) p hp j (by omega)
        · rw [if_neg (fun z => hl z.2.1), if_pos (Or.inr (hm.mpr hl))]
    · rw [if_neg h, if_neg h]
  · rw [if_neg (fun z => h z.1), if_neg (fun z => h z.1)]
theorem kk7s (hj : j < 8) : ((x - 1 - nI j) &&& 7).toNatClampNeg = (x.toBitVec.toNat % 8 + 7 - j) % 8 := by
  rw [kk7, nI_clamp (by omega), Int32.toBitVec_sub, BitVec.toNat_sub, Int32.toBitVec_sub, BitVec.toNat_sub, pk_tn (by omega), show (1 : Int32) = nI 1 from rfl, pk_tn (by omega)]
  have := x.toBitVec.isLt
  omega
theorem sr_keyq (R : sr_SR f g) : cx_recent f (cx_kn f) v = md_key g v := by
  have Gr := sr_SR_gr R
  have hk : cx_kn f = (g 16 0 41).toBitVec.toNat % 8 := by
    unfold cx_kn
    rw [sr_GR_kx Gr, kk7, nI_clamp (by omega)]
  unfold cx_recent md_key
  rw [sr_GR_ky Gr, hk]
  by_cases h : ¬ v < 0 ∧ v < 8 ∧ v < g 16 0 41
  · rw [if_pos h, if_pos h]
    obtain ⟨j, hj, rfl⟩ := nI_of h.1
    have h8 : j < 8 := (nI_ltI hj (by omega)).mp h.2.1
    rw [nI_clamp hj, kk7s h8]
    exact sr_GR_la Gr _ (Nat.mod_lt _ (by omega))
  · rw [if_neg h, if_neg h]
end Sr17
