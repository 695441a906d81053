/-! THE TWO STATES SIDE BY SIDE, 11: a device is polled -/
section Sr11
variable {p k n m q i j : Nat} {f g f' g' F G : en_F} {v w a b x l l' : Int32}
def sr_rc (c r : Int32) : Prop := (c = 0 ∧ r = -2) ∨ (c = 1 ∧ r = -1) ∨ (c = 2 ∧ r = 0) ∨ (c = 3 ∧ r = 1)
theorem md_t1_z (h : ¬ k = 16) (h2 : ¬ k = 60) : md_t1 g k i j = g k i j := by
  unfold md_t1
  rw [up_n (by omega), up_n (by omega), up_n (by omega)]
theorem md_t1_oc : md_oc (md_t1 g) = md_oc g := by
  unfold md_oc
  rw [md_t1_16 (by omega)]
def cx_i3 (F : en_F) (p : Nat) (l : Int32) : en_F := if F 4 p 9 = F 3 p 5 then
        (if l = 2 then en_up (en_up F 0 0 7 (F 4 p 12)) 3 p 5 (F 3 p 5 ^^^ 1) else en_up (cx_letGo (en_up F 0 0 7 (F 4 p 12)) p) 3 p 5 (F 3 p 5 ^^^ 1))
      else (if l = 2 then en_up F 0 0 7 (F 4 p 12) else cx_letGo (en_up F 0 0 7 (F 4 p 12)) p)
def md_i3 (G : en_F) (p : Nat) (l : Int32) : en_F := if G 25 0 p = G 42 0 p then en_up (md_in3 G p p l) 42 0 p (1 - G 42 0 p) else md_in3 G p p l
theorem sr_in3 (X : sr_SX F G p) (oc : md_oc G ≤ 16) (hp : p < 6) (ho : ¬ G 20 0 p = 0) (h3 : G 36 0 p = 3) (hH : ¬ G 28 0 p = 0) (hl : l = 2 ↔ l' = 2) : sr_SX (cx_i3 F p l) (md_i3 G p l') p := by
  have P := sr_SX_prs X p hp
  have D := sr_PR_od P ho
  have h2 : ¬ G 36 0 p = 2 := by rw [h3]; decide
  have X1 := sr_pack (x := G 29 0 p) X
  have o1 : md_oc (en_up G 16 0 46 (G 29 0 p)) ≤ 16 := by rw [oc_up (by omega)]; exact oc
  have u36 : ¬ en_up G 16 0 46 (G 29 0 p) 36 0 p = 2 := by rw [up_n (by omega)]; exact h2
  have u20 : ¬ en_up G 16 0 46 (G 29 0 p) 20 0 p = 0 := by rw [up_n (by omega)]; exact ho
  have X2 := sr_letGo X1 o1 hp u36 u20
  rw [up_n (show ¬ (25 = 16 ∧ 0 = 0 ∧ p = 46) by omega)] at X2
  unfold cx_i3 md_i3 md_in3
  rw [sr_OD_it D, sr_PR_hi P, sr_OD_pk D hH]
  by_cases z : G 25 0 p = G 42 0 p
  · rw [if_pos z, if_pos z]
    by_cases y : l' = 2
    · rw [if_pos (hl.mpr y), if_pos y]
      have X3 := sr_hin X1 o1 hp u36
      rw [up_n (show ¬ (3 = 0 ∧ p = 0 ∧ 5 = 7) by omega), up_n (show ¬ (42 = 16 ∧ 0 = 0 ∧ p = 46) by omega), sr_PR_hi P] at X3
      exact X3
    · rw [if_neg (fun t => y (hl.mp t)), if_neg y]
      have X3 := sr_hin X2 (by rw [oc_up (by omega), oc_up (by omega)]; exact o1) hp (by rw [up_n (by omega), up_n (by omega)]; exact u36)
      rw [cx_letGo_3, up_n (show ¬ (3 = 0 ∧ p = 0 ∧ 5 = 7) by omega), up_n (show ¬ (42 = 25 ∧ 0 = 0 ∧ p = p) by omega), up_n (show ¬ (42 = 28 ∧ 0 = 0 ∧ p = p) by omega), up_n (show ¬ (42 = 16 ∧ 0 = 0 ∧ p = 46) by omega), sr_PR_hi P] at X3
      exact X3
  · rw [if_neg z, if_neg z]
    by_cases y : l' = 2
    · rw [if_pos (hl.mpr y), if_pos y]
      exact X1
    · rw [if_neg (fun t => y (hl.mp t)), if_neg y]
      exact X2
theorem md_i3_46 : md_i3 G p l 16 0 46 = G 29 0 p := by
  unfold md_i3 md_in3
  split <;> split <;> simp only [en_ua, Nat.reduceEqDiff, eq_self, true_and, and_true, false_and, and_false, and_self, ↓reduceIte, sr_has]
theorem sr_in (R : sr_SR f g) (oc : md_oc g ≤ 16) (hn : cx_ln f < 40) (hp : p < 6) (h3 : g 36 0 p = 3) (hX : ¬ g 20 0 p = 0 → ¬ g 17 0 p = 0 → sr_SX (cx_in2 (cx_nxt f) p) (md_in2 (md_t1 g) p) p) : sr_SX (cx_in f p).2 (md_in g p).2 p ∧ sr_rc (cx_in f p).1 (md_in g p).1 ∧ ((md_in g p).1 = 1 → g 38 0 p = 3 → sr_hb ((md_in g p).2 16 0 46)) ∧ (((md_in g p).2 = md_t1 g ∧ (md_in g p).1 = -2 ∧ (cx_in f p).2 = cx_nxt f) ∨ (¬ g 20 0 p = 0 ∧ ¬ g 17 0 p = 0 ∧ (((md_in g p).1 = -2 ∧ (md_in g p).2 = md_in2 (md_t1 g) p) ∨ ((md_in g p).1 = -1 ∧ md_in2 (md_t1 g) p 28 0 p = 0 ∧ (md_in g p).2 = md_in2 (md_t1 g) p) ∨ (¬ md_in2 (md_t1 g) p 28 0 p = 0 ∧ ((md_in g p).1 = if md_in2 (md_t1 g) p 25 0 p = md_in2 (md_t1 g) p 42 0 p then 1 else 0) ∧ (md_in g p).2 = md_i3 (md_in2 (md_t1 g) p) p (md_lost g))))) := by
  have P := sr_SR_prs R p hp
  have hh : sr_has g p := Or.inr h3
  have hv := sr_n4_ne (sr_PR_nu P hh)
  unfold cx_in md_in
  rw [sr_PR_ah P hh, sr_mo R hn hv.2]
  cases hm : md_mo g (g 37 0 p) with
  | none =>
    dsimp only
    exact ⟨sr_SX_of (sr_tok R hn), Or.inl ⟨rfl, rfl⟩, fun z => absurd z (by decide), Or.inl ⟨rfl, rfl, rfl⟩⟩
  | some q =>
    obtain ⟨hq, hl0, hli⟩ := md_mo_lt hm
    rw [md_lis_t1] at hli
    have e := sr_who1 R hp hq hh hli
    subst e
    obtain ⟨k0, o0, -⟩ := md_lis_e hli
    have X := hX o0 k0
    have ho : ¬ md_in2 (md_t1 g) q 20 0 q = 0 := by rw [md_in2_k (by omega), md_t1_z (by omega) (by omega)]; exact o0
    have h36 : md_in2 (md_t1 g) q 36 0 q = 3 := by rw [md_in2_k (by omega), md_t1_z (by omega) (by omega)]; exact h3
    have h17 : md_in2 (md_t1 g) q 17 0 q = g 17 0 q := by rw [md_in2_k (by omega), md_t1_z (by omega) (by omega)]
    have hoc : md_oc (md_in2 (md_t1 g) q) ≤ 16 := by
      have : md_oc (md_in2 (md_t1 g) q) = md_oc g := by
        unfold md_oc
        rw [md_in2_k (by omega), md_t1_16 (by omega)]
      omega
    have P2 := sr_SX_prs X q hp
    have D := sr_PR_od P2 ho
    dsimp only
    by_cases l1 : md_lost g = 1
    · rw [if_pos l1, if_pos ((sr_lost R hn (Or.inr (Or.inl rfl))).mpr l1)]
      exact ⟨X, Or.inl ⟨rfl, rfl⟩, fun z => absurd z (show ¬ (-2 : Int32) = 1 by decide), Or.inr ⟨o0, k0, Or.inl ⟨rfl, rfl⟩⟩⟩
    · rw [if_neg l1, if_neg (fun z => l1 ((sr_lost R hn (Or.inr (Or.inl rfl))).mp z)), sr_OD_hd D]
      by_cases z : md_in2 (md_t1 g) q 28 0 q = 0
      · rw [if_pos z, if_pos z]
        exact ⟨X, Or.inr (Or.inl ⟨rfl, rfl⟩), fun z => absurd z (show ¬ (-1 : Int32) = 1 by decide), Or.inr ⟨o0, k0, Or.inr (Or.inl ⟨rfl, z, rfl⟩)⟩⟩
      · rw [if_neg z, if_neg z]
        have X3 := sr_in3 X hoc hp ho h36 z (sr_lost R hn (v := 2) (Or.inr (Or.inr rfl)))
        have eG : (if md_in2 (md_t1 g) q 25 0 q = md_in2 (md_t1 g) q 42 0 q then ((1 : Int32), en_up (md_in3 (md_in2 (md_t1 g) q) q q (md_lost g)) 42 0 q (1 - md_in2 (md_t1 g) q 42 0 q)) else (0, md_in3 (md_in2 (md_t1 g) q) q q (md_lost g))) = (if md_in2 (md_t1 g) q 25 0 q = md_in2 (md_t1 g) q 42 0 q then (1 : Int32) else 0, md_i3 (md_in2 (md_t1 g) q) q (md_lost g)) := by
          unfold md_i3
          split <;> rfl
        rw [eG]
        refine ⟨X3, ?_, ?_, Or.inr ⟨o0, k0, Or.inr (Or.inr ⟨z, rfl, rfl⟩)⟩⟩
        · dsimp only
          rw [sr_OD_it D, sr_PR_hi P2]
          by_cases y : md_in2 (md_t1 g) q 25 0 q = md_in2 (md_t1 g) q 42 0 q
          · rw [if_pos y, if_pos y]; exact Or.inr (Or.inr (Or.inr ⟨rfl, rfl⟩))
          · rw [if_neg y, if_neg y]; exact Or.inr (Or.inr (Or.inl ⟨rfl, rfl⟩))
        · intro _ h38
          dsimp only
          rw [md_i3_46]
          refine sr_OD_hb D ?_ z
          rw [h17, ← (sr_PR_rd P o0 h3 k0).2.2]
          exact h38
theorem md_in_k (h : (17 ≤ k ∧ k < 21) ∨ (36 ≤ k ∧ k < 42) ∨ 47 ≤ k ∧ k < 60) : (md_in g p).2 k i j = g k i j := by
  unfold md_in
  split
  · exact md_t1_z (by omega) (by omega)
  · split
    · dsimp only; rw [md_in2_k (by omega), md_t1_z (by omega) (by omega)]
    · split
      · dsimp only; rw [md_in2_k (by omega), md_t1_z (by omega) (by omega)]
      · split
        · unfold md_in3
          split
          · dsimp only
            rw [up_n (by omega), up_n (by omega), md_in2_k (by omega), md_t1_z (by omega) (by omega)]
          · dsimp only
            rw [up_n (by omega), up_n (by omega), up_n (by omega), up_n (by omega), md_in2_k (by omega), md_t1_z (by omega) (by omega)]
        · unfold md_in3
          split
          · dsimp only
            rw [up_n (by omega), md_in2_k (by omega), md_t1_z (by omega) (by omega)]
          · dsimp only
            rw [up_n (by omega), up_n (by omega), up_n (by omega), md_in2_k (by omega), md_t1_z (by omega) (by omega)]
theorem md_in_oc : md_oc (md_in g p).2 = md_oc g := by
  unfold md_oc
  rw [md_in_16 (by omega)]
/-- a port is given up: three faults -/
theorem cx_relO_up (h : ¬ k = 8) : cx_relO (en_up f k i j x) p n = en_up (cx_relO f p n) k i j x := by
  funext k' i' j'
  by_cases e : k' = 8
  · unfold cx_relO
    rw [up_n (show ¬ (8 = k ∧ i' = i ∧ 2 = j) by omega), up_n (show ¬ (8 = k ∧ i' = i ∧ 7 = j) by omega), up_n (show ¬ (k' = k ∧ i' = i ∧ j' = j) by omega), up_n (show ¬ (k' = k ∧ i' = i ∧ j' = j) by omega)]
  · have e1 : ∀ u : en_F, cx_relO u p n k' i' j' = u k' i' j' := fun u => if_neg (fun z => e z.1.1)
    rw [e1]
    by_cases e2 : k' = k ∧ i' = i ∧ j' = j
    · obtain ⟨rfl, rfl, rfl⟩ := e2
      rw [up_s, up_s]
    · rw [up_n e2, up_n e2, e1]
theorem md_relO_up (h : ¬ k = 49) (h2 : ¬ k = 54) : md_relO (en_up g k i j x) p n = en_up (md_relO g p n) k i j x := by
  funext k' i' j'
  by_cases e : k' = 54
  · unfold md_relO
    rw [up_n (show ¬ (49 = k ∧ 0 = i ∧ j' = j) by omega), up_n (show ¬ (54 = k ∧ 0 = i ∧ j' = j) by omega), up_n (show ¬ (k' = k ∧ i' = i ∧ j' = j) by omega), up_n (show ¬ (k' = k ∧ i' = i ∧ j' = j) by omega)]
  · have e1 : ∀ u : en_F, md_relO u p n k' i' j' = u k' i' j' := fun u => if_neg (fun z => e z.1.1)
    rw [e1]
    by_cases e2 : k' = k ∧ i' = i ∧ j' = j
    · obtain ⟨rfl, rfl, rfl⟩ := e2
      rw [up_s, up_s]
    · rw [up_n e2, up_n e2, e1]
theorem cx_rel_7 : cx_rel (en_up f 3 q 7 x) p n = en_up (cx_rel f p n) 3 q 7 x := by
  unfold cx_rel cx_leave
  rw [← cx_relO_up (by omega), up_c (k := 3) (i := q) (j := 7) (by omega), up_c (k := 3) (i := q) (j := 7) (by omega), up_c (k := 3) (i := q) (j := 7) (by omega)]
theorem cx_det_7 : cx_det (en_up f 3 q 7 x) p n = en_up (cx_det f p n) 3 q 7 x := by
  unfold cx_det
  rw [up_n (show ¬ (3 = 3 ∧ p = q ∧ 3 = 7) by omega), up_n (show ¬ (3 = 3 ∧ p = q ∧ 9 = 7) by omega), cx_rel_7, cx_rel_7, cx_rel_7]
  split <;> rfl
theorem md_leaf_44 : md_leaf (en_up g 44 0 q x) p = en_up (md_leaf g p) 44 0 q x := by
  unfold md_leaf
  rw [oc_up (by omega), ← md_relO_up (by omega) (by omega), up_c (k := 44) (i := 0) (j := q) (by omega), up_c (k := 44) (i := 0) (j := q) (by omega)]
theorem md_det_44 (hp : p < 6) : md_detach (en_up g 44 0 q x) p = en_up (md_detach g p) 44 0 q x := by
  unfold md_detach
  rw [up_n (show ¬ (36 = 44 ∧ 0 = 0 ∧ p = q) by omega), up_n (show ¬ (38 = 44 ∧ 0 = 0 ∧ p = q) by omega), md_leaf_44, md_dlp hp, md_dlp hp, md_leaf_44, md_leaf_44]
  split
  · split <;> rfl
  · rfl
theorem up_idv (h : f k i j = x) : en_up f k i j x = f := by rw [← h]; exact up_id
theorem sr_detF (R : sr_SR f g) (oc : md_oc g ≤ 16) (hp : p < 6) : sr_SR (cx_detF (en_up f 3 p 7 x) p (cx_oc (en_up f 3 p 7 x))) (md_fails (md_detach (en_up g 44 0 p x) p) p 4) := by
  have eo : cx_oc (en_up f 3 p 7 x) = md_oc g := by rw [← sr_oc R]; unfold cx_oc; rw [up_n (by omega)]
  have R1 := sr_det R oc hp
  have h0 := md_det_36 (g := g) hp
  have P := sr_SR_prs R1 p hp
  have hn : ¬ sr_has (md_detach g p) p := by unfold sr_has; rw [h0]; decide
  have e1 : cx_det f p (md_oc g) 3 p 1 = 0 := by
    rw [sr_PR_op P]
    exact Decidable.byContradiction (fun z => hn (sr_PR_oh P z))
  have e4 : cx_det f p (md_oc g) 3 p 4 = 0 := sr_PR_an P hn
  have R2 := sr_fail7 (x := x) (v := 4) R1 (by rw [md_det_oc]; exact oc) hp (by decide) (by decide) (fun z => absurd z.1 (by rw [h0]; decide))
  rw [md_det_44 hp, eo]
  have : cx_detF (en_up f 3 p 7 x) p (md_oc g) = cx_leave (en_up (cx_det f p (md_oc g)) 3 p 7 x) p 4 := by
    unfold cx_detF cx_leave
    rw [cx_det_7, up_idv (k := 3) (i := p) (j := 4), up_idv (k := 3) (i := p) (j := 1)]
    · simp only [en_ua, Nat.reduceEqDiff, eq_self, true_and, and_true, false_and, and_false, and_self, ↓reduceIte, sr_has]; exact e1
    · simp only [en_ua, Nat.reduceEqDiff, eq_self, true_and, and_true, false_and, and_false, and_self, ↓reduceIte, sr_has]; exact e4
  rw [this]
  exact R2
/-- a key is heard -/
theorem kk7 : x &&& 7 = nI (x.toBitVec.toNat % 8) := pk_and x (m := 7) 3 (by decide)
theorem sr_key (R : sr_SR f g) : sr_SR (cx_add f (cx_kn f) v) (en_up (en_up g 59 0 (g 16 0 41 &&& 7).toNatClampNeg v) 16 0 41 (g 16 0 41 + 1)) := by
  have Gr := sr_SR_gr R
  have hk : cx_kn f = (g 16 0 41).toBitVec.toNat % 8 := by
    unfold cx_kn
    rw [sr_GR_kx Gr, kk7, nI_clamp (by omega)]
  have hi : (g 16 0 41 &&& 7).toNatClampNeg = (g 16 0 41).toBitVec.toNat % 8 := by rw [kk7, nI_clamp (by omega)]
  rw [hk, hi]
  unfold cx_add
  refine sr_glob R (fun k i j z => ?_) (fun k j z => ?_) (sr_GR_mk ?_ ?_ ?_ ?_ ?_ ?_ ?_ ?_ ?_ ?_ ?_)
  · rw [up_n (by omega), up_n (by omega), up_n (by omega)]
  · rw [up_n (by omega), up_n (by omega)]
  · rw [up_n (by omega), up_n (by omega), up_n (by omega), up_n (by omega), up_n (by omega)]; exact sr_GR_oc Gr
  · rw [up_n (by omega), up_n (by omega), up_n (by omega), up_n (by omega), up_n (by omega)]; exact sr_GR_fr Gr
  · rw [up_n (by omega), up_n (by omega), up_n (by omega), up_n (by omega), up_n (by omega)]; exact sr_GR_sl Gr
  · rw [up_n (by omega), up_n (by omega), up_n (by omega), up_n (by omega), up_n (by omega)]; exact sr_GR_hp Gr
  · rw [up_n (by omega), up_n (by omega), up_n (by omega), up_n (by omega), up_n (by omega)]; exact sr_GR_tr Gr
  · rw [up_s, up_s, sr_GR_ky Gr]
  · rw [up_n (by omega), up_s, up_s, kk7, show (1 : Int32) = nI 1 from rfl, tk_tn (by omega)]
    congr 1
    omega
  · intro i h8
    rw [up_n (by omega), up_n (by omega), up_n (k := 16) (by omega)]
    by_cases e : i = (g 16 0 41).toBitVec.toNat % 8
    · rw [e, up_s, up_s]
    · rw [up_n (by omega), up_n (by omega)]; exact sr_GR_la Gr i h8
  · refine sr_LS_o (fun j => ?_) ?_ (fun j => ?_) ?_ (sr_GR_ls Gr)
    · rw [up_n (by omega), up_n (by omega), up_n (by omega)]
    · rw [up_n (by omega), up_n (by omega), up_n (by omega)]
    · rw [up_n (by omega), up_n (by omega)]
    · rw [up_n (by omega), up_n (by omega)]
  · intro p h6 i h8; rw [up_n (by omega), up_n (by omega), up_n (by omega), up_n (by omega), up_n (by omega)]; exact sr_GR_ct Gr p h6 i h8
  · intro p h6 i h8; rw [up_n (by omega), up_n (by omega), up_n (by omega), up_n (by omega), up_n (by omega)]; exact sr_GR_cd Gr p h6 i h8
/-- what a hub told is heard -/
theorem cx_hear_0 : cx_hear f p 0 n = f := by unfold cx_hear; rw [if_pos (by decide)]
def sr_h1 (g : en_F) (q : Nat) (v : Int32) : en_F := if v = 0 then g else md_hears g q (if v = 3 then 1 else 0)
theorem sr_h1_oc : md_oc (sr_h1 g q v) = md_oc g := by
  unfold sr_h1
  split
  · rfl
  · exact md_hears_oc
theorem sr_hear1 (R : sr_SR f g) (oc : md_oc g ≤ 16) (hp : p < 6) (hv : v = 0 ∨ v = 1 ∨ v = 3) : sr_SR (cx_hear f p v (md_oc g)) (sr_h1 g p v) := by
  unfold sr_h1
  rcases hv with rfl | h
  · rw [cx_hear_0, if_pos rfl]; exact R
  · have h0 : ¬ v = 0 := by rcases h with rfl | rfl <;> decide
    rw [if_neg h0]
    exact sr_hear R oc hp h
theorem md_plp (t : Int32) (hp : p < 6) (ht : sr_hb t) : md_lp (md_pst p t) 4 2 g = if p < 2 then sr_h1 (sr_h1 g (2 * p + 2) (t &&& 3)) (2 * p + 3) (t >>> ((2 : Int32) &&& 31)) else g := by
  have s0 : (2 * (nI 2 &&& 1)) &&& 31 = (0 : Int32) := by decide
  have s1 : (2 * (nI 3 &&& 1)) &&& 31 = (2 : Int32) := by decide
  have s2 : (2 * (nI 4 &&& 1)) &&& 31 = (0 : Int32) := by decide
  have s3 : (2 * (nI 5 &&& 1)) &&& 31 = (2 : Int32) := by decide
  have e0 : t >>> (0 : Int32) &&& 3 = t &&& 3 := by rcases ht with rfl | rfl | rfl | rfl | rfl | rfl | rfl | rfl <;> decide
  have e2 : t >>> (2 : Int32) &&& 3 = t >>> ((2 : Int32) &&& 31) := by rcases ht with rfl | rfl | rfl | rfl | rfl | rfl | rfl | rfl <;> decide
  have hst : ∀ (q : Nat) (u : Int32) (h : en_F), t >>> ((2 * (nI q &&& 1)) &&& 31) &&& 3 = u → md_pst p t q h = if q / 2 - 1 = p then sr_h1 h q u else h := by
    intro q u h e
    unfold md_pst sr_h1
    rw [e]
    by_cases z : q / 2 - 1 = p
    · by_cases y : u = 0
      · rw [if_neg (fun w => w.2 y), if_pos z, if_pos y]
      · rw [if_pos ⟨z, y⟩, if_pos z, if_neg y]
    · rw [if_neg (fun w => z w.1), if_neg z]
  have l4 : md_lp (md_pst p t) 4 2 g = md_pst p t 5 (md_pst p t 4 (md_pst p t 3 (md_pst p t 2 g))) := rfl
  rw [l4, hst 2 (t &&& 3) _ (by rw [s0]; exact e0), hst 3 (t >>> ((2 : Int32) &&& 31)) _ (by rw [s1]; exact e2), hst 4 (t &&& 3) _ (by rw [s2]; exact e0), hst 5 (t >>> ((2 : Int32) &&& 31)) _ (by rw [s3]; exact e2)]
  rcases (show p = 0 ∨ p = 1 ∨ 2 ≤ p by omega) with rfl | rfl | h
  · rw [if_neg (by decide), if_neg (by decide), if_pos (by decide), if_pos (by decide), if_pos (by decide)]
  · rw [if_pos (by decide), if_pos (by decide), if_neg (by decide), if_neg (by decide), if_pos (by decide)]
  · rw [if_neg (by omega), if_neg (by omega), if_neg (by omega), if_neg (by omega), if_neg (by omega)]
theorem sr_hb_b (h : sr_hb x) : (x &&& 3 = 0 ∨ x &&& 3 = 1 ∨ x &&& 3 = 3) ∧ (x >>> ((2 : Int32) &&& 31) = 0 ∨ x >>> ((2 : Int32) &&& 31) = 1 ∨ x >>> ((2 : Int32) &&& 31) = 3) := by
  rcases h with rfl | rfl | rfl | rfl | rfl | rfl | rfl | rfl <;> decide
theorem sr_hub (R : sr_SR f g) (oc : md_oc g ≤ 16) (hp : p < 6) (ht : sr_hb (g 16 0 46)) : sr_SR (if p < 2 then cx_hear (cx_hear f (2 * p + 2) (f 0 0 7 &&& 3) (cx_oc f)) (2 * p + 3) (f 0 0 7 >>> ((2 : Int32) &&& 31)) (cx_oc f) else f) (md_lp (md_pst p (g 16 0 46)) 4 2 g) := by
  rw [md_plp _ hp ht, sr_GR_hp (sr_SR_gr R), sr_oc R]
  by_cases h2 : p < 2
  · rw [if_pos h2, if_pos h2]
    obtain ⟨b1, b2⟩ := sr_hb_b ht
    have R1 := sr_hear1 (p := 2 * p + 2) R oc (by omega) b1
    have R2 := sr_hear1 (p := 2 * p + 3) R1 (by rw [sr_h1_oc]; exact oc) (by omega) b2
    rw [sr_h1_oc] at R2
    exact R2
  · rw [if_neg h2, if_neg h2]
    exact R
theorem sr_poll2 (R : sr_SR f g) (oc : md_oc g ≤ 16) (hp : p < 6) (h3 : g 36 0 p = 3) (hk : g 38 0 p = 2 ∨ g 38 0 p = 3) (hc : sr_rc v w) (hb : w = 1 → g 38 0 p = 3 → sr_hb (g 16 0 46)) : sr_SR (cx_poll2 (cx_cfo f p v) p v) (md_poll2 g p w) := by
  have P := sr_SR_prs R p hp
  have hf := sr_PR_fl P (Or.inr h3)
  unfold cx_poll2 md_poll2
  by_cases h0 : v = 0
  · have hw : w = -2 := by
      rcases hc with z | z | z | z
      · exact z.2
      · exact absurd (h0.symm.trans z.1) (by decide)
      · exact absurd (h0.symm.trans z.1) (by decide)
      · exact absurd (h0.symm.trans z.1) (by decide)
    subst h0 hw
    rw [cx_cfo_0, up_s, sr_PR_fa P, if_pos rfl]
    rcases sr_f3s hf with ⟨-, z1, z2⟩ | ⟨z1, z2, z3⟩
    · rw [if_neg z2, if_pos z1]
      exact sr_detF R oc hp
    · rw [if_pos z2, if_neg z1, if_neg (by decide)]
      exact sr_flt R oc hp (fun _ => z3)
  · have hw : ¬ w = -2 := by
      rcases hc with z | z | z | z
      · exact absurd z.1 h0
      · rw [z.2]; decide
      · rw [z.2]; decide
      · rw [z.2]; decide
    have R0 := sr_flt (x := 0) R oc hp (fun _ => Or.inl rfl)
    rw [cx_cfo_1 h0, up_s, if_neg hw, if_pos (show (0 : Int32) < 3 by decide)]
    by_cases h1 : w = 1
    · have hv : v = 3 := by
        rcases hc with z | z | z | z
        · exact absurd z.1 h0
        · exact absurd (h1.symm.trans z.2) (by decide)
        · exact absurd (h1.symm.trans z.2) (by decide)
        · exact z.1
      rw [if_pos hv, if_pos h1, up_n (show ¬ (3 = 3 ∧ p = p ∧ 9 = 7) by omega), sr_PR_kn P]
      rcases hk with z | z
      · rw [if_pos z, if_pos z]
        have R1 := sr_key (v := en_up f 3 p 7 0 0 0 7 + 256 * nI p) R0
        rw [up_n (show ¬ (16 = 44 ∧ 0 = 0 ∧ 41 = p) by omega), sr_GR_hp (sr_SR_gr R0), up_n (show ¬ (16 = 44 ∧ 0 = 0 ∧ 46 = p) by omega)] at R1
        rw [sr_GR_hp (sr_SR_gr R0), up_n (show ¬ (16 = 44 ∧ 0 = 0 ∧ 46 = p) by omega)]
        exact R1
      · rw [if_neg (show ¬ g 38 0 p = 2 by rw [z]; decide), if_neg (show ¬ g 38 0 p = 2 by rw [z]; decide)]
        have R1 := sr_hub R0 (by rw [oc_up (by omega)]; exact oc) hp (by rw [up_n (by omega)]; exact hb h1 z)
        rw [up_n (show ¬ (16 = 44 ∧ 0 = 0 ∧ 46 = p) by omega)] at R1
        exact R1
    · have hv : ¬ v = 3 := by
        rcases hc with z | z | z | z
        · exact absurd z.1 h0
        · rw [z.1]; decide
        · rw [z.1]; decide
        · exact absurd z.2 h1
      rw [if_neg hv, if_neg h1]
      exact R0
theorem sr_poll (R : sr_SR f g) (ok : md_OK g) (hn : cx_ln f < 40) (hp : p < 6) (h3 : g 36 0 p = 3) (hk : g 38 0 p = 2 ∨ g 38 0 p = 3) : sr_SR (cx_poll f p) (md_poll g p) := by
  have P := sr_SR_prs R p hp
  have oc : md_oc g ≤ 16 := ok.1.1
  have k1 : ¬ g 38 0 p = 1 := by rcases hk with z | z <;> rw [z] <;> decide
  obtain ⟨X, hc, hb, -⟩ := sr_in R oc hn hp h3 (fun o0 k0 => sr_SX_of (sr_mkP (sr_tok R hn) (by rw [md_t1_oc]; exact oc) hp (by rw [md_t1_z (by omega) (by omega)]; exact o0) (by rw [md_t1_z (by omega) (by omega), h3]; decide) (by rw [md_t1_z (by omega) (by omega), ← (sr_PR_rd P o0 h3 k0).2.2]; exact hk) (by rw [md_t1_z (by omega) (by omega)]; exact k1) (md_t1_cok (MO_co ok p hp))))
  have e38 : (md_in g p).2 38 0 p = g 38 0 p := md_in_k (by omega)
  have e36 : (md_in g p).2 36 0 p = g 36 0 p := md_in_k (by omega)
  have R1 := sr_SR_of1 X (by rw [e38]; exact k1)
  exact sr_poll2 R1 (by rw [md_in_oc]; exact oc) hp (by rw [e36]; exact h3) (by rw [e38]; exact hk) hc (by rw [e38]; exact hb)
/-- who is due; a frame's polls -/
theorem sr_due (R : sr_SR f g) (hp : p < 6) : cx_due f p ↔ md_pol g p := by
  have P := sr_SR_prs R p hp
  unfold cx_due md_pol
  rw [sr_PR_vw P, sr_PR_kn P, sr_GR_fr (sr_SR_gr R)]
  constructor
  · rintro (z | ⟨z, -, y⟩)
    · exact ⟨z.1, Or.inl z.2⟩
    · rw [(sr_PR_iv P z.2).1] at y
      exact ⟨z.1, Or.inr ⟨z.2, y⟩⟩
  · rintro ⟨z, y | ⟨y, x⟩⟩
    · exact Or.inl ⟨z, y⟩
    · obtain ⟨i1, i2⟩ := sr_PR_iv P y
      rw [i1]
      exact Or.inr ⟨⟨z, y⟩, i2, x⟩
theorem sr_pd : ∀ (m i : Nat) (s u : Int32) (f g : en_F), sr_SR f g → md_OK g → cx_OK f → i + m = 6 → u = 100 - s → sr_SR (cx_pd m i s f).2 (md_pd m i u g).2 ∧ (md_pd m i u g).1 = 100 - (cx_pd m i s f).1 := by
  intro m
  induction m with
  | zero =>
    intro i s u f g R _ _ _ e
    exact ⟨R, e⟩
  | succ m ih =>
    intro i s u f g R okg okf hi e
    have hp : i < 6 := by omega
    have P := sr_SR_prs R i hp
    unfold cx_pd md_pd
    by_cases h : md_pol g i
    · rw [if_pos h, if_pos ((sr_due R hp).mpr h)]
      refine ih (i + 1) _ _ _ _ (sr_poll R okg okf.1.1.1 hp h.1 ?_) (MO_poll okg) (OK_poll okf) (by omega) ?_
      · rcases h.2 with z | z
        · exact Or.inr z
        · exact Or.inl z.1
      · rw [e, sr_PR_co P]
        exact Int32.sub_sub ..
    · rw [if_neg h, if_neg (fun z => h ((sr_due R hp).mp z))]
      exact ih (i + 1) _ _ _ _ R okg okf (by omega) e
end Sr11
