/-! THE TWO STATES SIDE BY SIDE, 4: a transaction's token -/
section Sr4
variable {p k n m q i j : Nat} {f g f' g' : en_F} {v w a b x : Int32}
theorem tk_tn {k : Nat} (hk : k < 2 ^ 32) : (x + nI k).toBitVec.toNat = (x.toBitVec.toNat + k) % 2 ^ 32 := by
  rw [Int32.toBitVec_add, BitVec.toNat_add, pk_tn hk]
theorem tk_63 {k : Nat} (hk : k < 2 ^ 32) : ((x + nI k) &&& 63).toNatClampNeg = (x.toBitVec.toNat + k) % 64 := by
  rw [pk_and (x + nI k) (m := 63) 6 (by decide), nI_clamp (by omega), tk_tn hk]
  omega
theorem md_t1_idx {g : en_F} : ((g 16 0 44 + 1) &&& 63).toNatClampNeg = (sr_t g + 1) % 64 := tk_63 (k := 1) (by omega)
theorem sr_x (R : sr_SR f g) (hn : cx_ln f < 40) : f 11 0 (cx_ln f) = g 60 0 ((g 16 0 44 + 1) &&& 63).toNatClampNeg := by
  have h := (sr_GR_ls (sr_SR_gr R)).1 1 (by omega) (by omega)
  rw [md_t1_idx, ← h]
  congr 1
  omega
theorem sr_lost (R : sr_SR f g) (hn : cx_ln f < 40) (hv : v = 0 ∨ v = 1 ∨ v = 2) : (cx_lost f = v) ↔ (md_lost g = v) := by
  unfold cx_lost md_lost
  rw [← sr_x R hn]
  by_cases h : f 11 0 (cx_ln f) = 0
  · rw [if_pos h, h]
    rcases hv with rfl | rfl | rfl <;> decide
  · rw [if_neg h]
theorem sr_tok (R : sr_SR f g) (hn : cx_ln f < 40) : sr_SR (cx_nxt f) (md_t1 g) := by
  have G := sr_SR_gr R
  obtain ⟨l1, l2⟩ := sr_GR_ls G
  have ef : ∀ k i j, ¬ (k = 10) → ¬ (k = 11) → cx_nxt f k i j = f k i j := fun k i j h1 h2 => by
    unfold cx_nxt cx_nx
    rw [up_n (by omega), up_n (by omega), up_n (by omega)]
  have eg : ∀ k j, ¬ (k = 60) → ¬ (k = 16 ∧ (j = 44 ∨ j = 45)) → md_t1 g k 0 j = g k 0 j := fun k j h1 h2 => by
    unfold md_t1
    rw [up_n (by omega), up_n (by omega), up_n (by omega)]
  refine sr_glob R (fun k i j h => ef _ _ _ (by omega) (by omega)) (fun k j h => eg _ _ (by omega) (by omega)) (sr_GR_mk ?_ ?_ ?_ ?_ ?_ ?_ ?_ ?_ ?_ ?_ ?_)
  · rw [ef _ _ _ (by omega) (by omega), eg _ _ (by omega) (by omega)]; exact sr_GR_oc G
  · rw [ef _ _ _ (by omega) (by omega), eg _ _ (by omega) (by omega)]; exact sr_GR_fr G
  · rw [ef _ _ _ (by omega) (by omega), eg _ _ (by omega) (by omega)]; exact sr_GR_sl G
  · rw [ef _ _ _ (by omega) (by omega), eg _ _ (by omega) (by omega)]; exact sr_GR_hp G
  · have e1 : cx_nxt f 10 0 2 = f 10 0 2 + 1 := by simp only [cx_nxt, cx_nx, en_ua, Nat.reduceEqDiff, eq_self, true_and, and_true, false_and, and_false, and_self, ↓reduceIte, sr_has]
    have e2 : md_t1 g 16 0 44 = g 16 0 44 + 1 := by simp only [md_t1, en_ua, Nat.reduceEqDiff, eq_self, true_and, and_true, false_and, and_false, and_self, ↓reduceIte, sr_has]
    rw [e1, e2, sr_GR_tr G]
  · rw [ef _ _ _ (by omega) (by omega), eg _ _ (by omega) (by omega)]; exact sr_GR_ky G
  · rw [ef _ _ _ (by omega) (by omega), eg _ _ (by omega) (by omega)]; exact sr_GR_kx G
  · intro i hi; rw [ef _ _ _ (by omega) (by omega), eg _ _ (by omega) (by omega)]; exact sr_GR_la G i hi
  · have e10 : cx_ln (cx_nxt f) = (cx_ln f + 1) % 40 := by
      have : cx_nxt f 10 0 1 = nI ((cx_ln f + 1) % 40) := by simp only [cx_nxt, cx_nx, en_ua, Nat.reduceEqDiff, eq_self, true_and, and_true, false_and, and_false, and_self, ↓reduceIte, sr_has]
      unfold cx_ln at *
      rw [this, nI_clamp (by omega)]
    have et : sr_t (md_t1 g) = (sr_t g + 1) % 2 ^ 32 := by
      have e2 : md_t1 g 16 0 44 = g 16 0 44 + nI 1 := by simp only [md_t1, en_ua, Nat.reduceEqDiff, eq_self, true_and, and_true, false_and, and_false, and_self, ↓reduceIte, sr_has]; rfl
      unfold sr_t
      rw [e2, tk_tn (by omega)]
    have e11 : ∀ j, cx_nxt f 11 0 j = if j = cx_ln f then 0 else f 11 0 j := fun j => by
      unfold cx_nxt cx_nx
      rw [up_n (by omega), up_n (by omega)]
      unfold en_up
      by_cases h : j = cx_ln f
      · rw [if_pos ⟨rfl, rfl, h⟩, if_pos h]
      · rw [if_neg (fun z => h z.2.2), if_neg h]
    have e60 : ∀ j, md_t1 g 60 0 j = if j = (sr_t g + 1) % 64 then 0 else g 60 0 j := fun j => by
      unfold md_t1
      rw [md_t1_idx]
      unfold en_up
      by_cases h : j = (sr_t g + 1) % 64
      · rw [if_pos ⟨rfl, rfl, h⟩, if_pos h]
      · rw [if_neg (fun z => h z.2.2), if_neg h, if_neg (by omega), if_neg (by omega)]
    refine ⟨fun j h1 h2 => ?_, fun j h1 h2 => ?_⟩
    · rw [e10, et, e11, e60]
      have ei : ((sr_t g + 1) % 2 ^ 32 + j) % 64 = (sr_t g + (j + 1)) % 64 := by omega
      rw [ei, if_neg (show ¬ (sr_t g + (j + 1)) % 64 = (sr_t g + 1) % 64 by omega)]
      by_cases h40 : j = 40
      · subst h40
        rw [if_pos (by omega)]
        exact (l2 41 (by omega) (by omega)).symm
      · rw [if_neg (by omega)]
        have := l1 (j + 1) (by omega) (by omega)
        rw [← this]
        congr 1
        omega
    · rw [et, e60]
      have ei : ((sr_t g + 1) % 2 ^ 32 + j) % 64 = (sr_t g + (j + 1)) % 64 := by omega
      rw [ei]
      by_cases h64 : j = 64
      · subst h64
        rw [if_pos (by omega)]
      · rw [if_neg (by omega)]
        exact l2 (j + 1) (by omega) (by omega)
  · intro p h6 i hi; rw [ef _ _ _ (by omega) (by omega), eg _ _ (by omega) (by omega)]; exact sr_GR_ct G p h6 i hi
  · intro p h6 i hi; rw [ef _ _ _ (by omega) (by omega), eg _ _ (by omega) (by omega)]; exact sr_GR_cd G p h6 i hi
-- who is meant
theorem cx_fo_c {c c' : Nat → Bool} : ∀ m i, (∀ j, i ≤ j → j < i + m → c j = c' j) → cx_fo c m i = cx_fo c' m i := by
  intro m
  induction m with
  | zero => intro i _; rfl
  | succ m ih =>
    intro i h
    unfold cx_fo
    rw [h i (by omega) (by omega), ih (i + 1) (fun j h1 h2 => h j (by omega) (by omega))]
theorem sr_lis (R : sr_SR f g) (hv : ¬ v = -1) (hp : p < 6) : cx_lis f v p = md_lis g v p := by
  have h := sr_SR_prs R p hp
  have h' := sr_SR_prs R (p / 2 - 1) (by omega)
  have e1 : cx_hears f p = md_hr g p := by
    unfold cx_hears md_hr
    rw [sr_PR_kd h, sr_PR_op h, sr_PR_op h']
  unfold cx_lis md_lis
  rw [e1]
  cases hh : md_hr g p with
  | false => rfl
  | true =>
    have ho : ¬ g 20 0 p = 0 := (of_decide_eq_true hh).2.1
    have D := sr_PR_od h ho
    have e2 : (v = f 4 p 6 ∨ v = f 4 p 7) ↔ (g 22 0 p = v ∨ g 23 0 p = v) := by
      rw [sr_OD_ow D]
      rcases sr_OD_su D with e | ⟨e1, e2, e3⟩
      · rw [e]
        exact ⟨fun z => by rcases z with z | z; exact Or.inl z.symm; exact Or.inr z.symm, fun z => by rcases z with z | z; exact Or.inl z.symm; exact Or.inr z.symm⟩
      · rw [e1, e2, e3]
        exact ⟨fun z => by rcases z with z | z; exact Or.inl z.symm; exact Or.inl z.symm, fun z => by rcases z with z | z; exact Or.inl z.symm; exact absurd z.symm hv⟩
    rw [decide_eq_decide.mpr e2]
theorem sr_mo (R : sr_SR f g) (hn : cx_ln f < 40) (hv : ¬ v = -1) : cx_mo (cx_nxt f) v (cx_lost f) = md_mo g v := by
  unfold cx_mo md_mo
  have e := sr_lost R hn (v := 0) (Or.inl rfl)
  by_cases h : md_lost g = 0
  · rw [if_pos h, if_pos (e.mpr h)]
  · rw [if_neg h, if_neg (fun z => h (e.mp z))]
    exact cx_fo_c 6 0 (fun j _ hj => sr_lis (sr_tok R hn) hv (by omega))
theorem md_lis_t1 {g : en_F} : md_lis (md_t1 g) v p = md_lis g v p := by
  unfold md_lis md_hr
  rw [md_t1_k (by omega) (by omega), md_t1_k (by omega) (by omega), md_t1_k (by omega) (by omega), md_t1_k (by omega) (by omega), md_t1_k (by omega) (by omega)]
theorem md_lis_e {g : en_F} (h : md_lis g v p = true) : ¬ g 17 0 p = 0 ∧ ¬ g 20 0 p = 0 ∧ (g 22 0 p = v ∨ g 23 0 p = v) := by
  unfold md_lis at h
  rw [Bool.and_eq_true] at h
  have h1 : ¬ g 17 0 p = 0 ∧ ¬ g 20 0 p = 0 ∧ (p < 2 ∨ ¬ g 20 0 (p / 2 - 1) = 0) := of_decide_eq_true h.1
  exact ⟨h1.1, h1.2.1, of_decide_eq_true h.2⟩
theorem sr_n4_ne (h : sr_n4 x) : ¬ x = 0 ∧ ¬ x = -1 := by
  rcases h with rfl | rfl | rfl | rfl <;> exact ⟨by decide, by decide⟩
/-- a port's own number reaches its own device alone -/
theorem sr_who1 (R : sr_SR f g) (hp : p < 6) (hq : q < 6) (hh : sr_has g p) (h : md_lis g (g 37 0 p) q = true) : q = p := by
  obtain ⟨h1, h2, h3⟩ := md_lis_e h
  have Q := sr_SR_prs R q hq
  have hn := sr_n4_ne (sr_PR_nu (sr_SR_prs R p hp) hh)
  have key : g 37 0 q = g 37 0 p → q = p := fun z => by
    by_cases hne : q = p
    · exact hne
    · exact absurd z (sr_SR_num R q p hq hp hne (sr_PR_oh Q h2) hh)
  rcases sr_PR_oh Q h2 with h4 | h4
  · obtain ⟨-, -, -, -, j5⟩ := sr_PR_go Q h2 h4
    have J := j5 h1
    unfold sr_J5 at J
    apply key
    rcases J with ⟨-, jl, js⟩ | ⟨-, jl, js⟩ | ⟨-, jl, js⟩ | ⟨-, jl, js⟩ | ⟨-, jl, js, -⟩
    · rcases h3 with e | e
      · rcases jl with y | y
        · rw [y] at e; exact absurd e.symm hn.1
        · rw [← y]; exact e
      · rcases js with y | y
        · rw [y] at e; exact absurd e.symm hn.2
        · rw [y] at e; exact absurd e.symm hn.1
    · rcases h3 with e | e
      · rw [← jl]; exact e
      · rw [js] at e; exact absurd e.symm hn.1
    · rcases h3 with e | e
      · rw [← jl]; exact e
      · rcases js with y | y
        · rw [y] at e; exact absurd e.symm hn.1
        · rw [← y]; exact e
    · rcases h3 with e | e
      · rw [← jl]; exact e
      · rw [← js]; exact e
    · rcases h3 with e | e
      · rw [← jl]; exact e
      · rw [← js]; exact e
  · obtain ⟨e1, e2, -⟩ := sr_PR_rd Q h2 h4 h1
    apply key
    rcases h3 with e | e
    · rw [← e1]; exact e
    · rw [← e2]; exact e
/-- the number 0 reaches the device that is being enumerated alone -/
theorem sr_who0 (R : sr_SR f g) (hp : p < 6) (hq : q < 6) (hg : g 36 0 p = 2) (h : md_lis g 0 q = true) : q = p := by
  obtain ⟨h1, h2, h3⟩ := md_lis_e h
  have Q := sr_SR_prs R q hq
  rcases sr_PR_oh Q h2 with h4 | h4
  · exact sr_SR_one R q p hq hp h4 hg
  · obtain ⟨e1, e2, -⟩ := sr_PR_rd Q h2 h4 h1
    have hn := sr_n4_ne (sr_PR_nu Q (Or.inr h4))
    rcases h3 with e | e
    · rw [e1] at e; exact absurd e hn.1
    · rw [e2] at e; exact absurd e hn.1
end Sr4
