/-! THE TWO STATES SIDE BY SIDE, 8: an enumeration's transaction, put together -/
section Sr8
variable {p k n m q i j : Nat} {f g f' g' : en_F} {v w a b x : Int32}
theorem sr_eo (R : sr_SR f g) (oc : md_oc g ≤ 16) (hn : cx_ln f < 40) (hp : p < 6) (h2 : g 36 0 p = 2) : sr_SR (cx_eo f p) (md_eo g p) := by
  have h := sr_SR_prs R p hp
  obtain ⟨hs, e8⟩ := sr_PR_gs h h2
  have e4 := sr_PR_ah h (Or.inl h2)
  have RT := sr_tok R hn
  have t : ∀ k j, ¬ k = 16 → ¬ k = 60 → md_t1 g k 0 j = g k 0 j := fun k j z1 z2 => md_t1_k z1 z2
  have t28 := md_t1_28 (g := g)
  have ocT : md_oc (md_t1 g) ≤ 16 := by unfold md_oc; rw [md_t1_31]; exact oc
  have h2T : md_t1 g 36 0 p = 2 := by rw [t _ _ (by omega) (by omega)]; exact h2
  have l1 := sr_lost R hn (v := 1) (Or.inr (Or.inl rfl))
  have l2 := sr_lost R hn (v := 2) (Or.inr (Or.inr rfl))
  have n4 := sr_n4_ne (sr_PR_nu h (Or.inl h2))
  have e2 : (if cx_lost f = 2 then (0 : Int32) else 1) = if md_lost g = 2 then 0 else 1 := by
    by_cases z : md_lost g = 2
    · rw [if_pos z, if_pos (l2.mpr z)]
    · rw [if_neg z, if_neg (fun y => z (l2.mp y))]
  have who0 : ∀ q, md_mo g 0 = some q → q = p ∧ ¬ g 20 0 p = 0 ∧ ¬ g 17 0 p = 0 := fun q hq => by
    obtain ⟨q6, -, ql⟩ := md_mo_lt hq
    rw [md_lis_t1] at ql
    have e := sr_who0 R hp q6 h2 ql
    subst e
    exact ⟨rfl, (md_lis_e ql).2.1, (md_lis_e ql).1⟩
  have who1 : ∀ q, md_mo g (g 37 0 p) = some q → q = p ∧ ¬ g 20 0 p = 0 ∧ ¬ g 17 0 p = 0 := fun q hq => by
    obtain ⟨q6, -, ql⟩ := md_mo_lt hq
    rw [md_lis_t1] at ql
    have e := sr_who1 R hp q6 (Or.inl h2) ql
    subst e
    exact ⟨rfl, (md_lis_e ql).2.1, (md_lis_e ql).1⟩
  have bad := sr_bad RT ocT hp h2T
  have J : ¬ g 20 0 p = 0 → ¬ g 17 0 p = 0 → sr_J5 (g 16 0 28) (g 22 0 p) (g 23 0 p) (g 37 0 p) (g 38 0 p) (g 17 0 p) := fun z1 z2 => (sr_PR_go h z1 h2).2.2.2.2 z2
  unfold cx_eo md_eo cx_eo1 md_eo1
  rw [e8, e4]
  rcases hs with st | st | st | st | st | st
  · rw [st] at J t28
    rw [st, if_pos (show (0 : Int32) - 0 / 2 * 2 = 0 by decide), if_pos (show (0 : Int32) < 2 by decide), if_pos (show (0 : Int32) - 0 / 2 * 2 = 0 by decide), if_pos rfl]
    unfold cx_setup md_setup
    rw [sr_mo R hn (by decide), e8, st, e4]
    cases hm : md_mo g 0 with
    | none => exact bad
    | some q =>
      obtain ⟨rfl, ho, hk⟩ := who0 q hm
      dsimp only
      by_cases z : md_lost g = 1
      · rw [if_pos z, if_pos (l1.mpr z)]; exact bad
      · rw [if_neg z, if_neg (fun y => z (l1.mp y)), e2, if_pos rfl]
        unfold md_su2
        rw [if_pos (show (0 : Int32) / 2 = 0 by decide)]
        have J0 := J ho hk
        have R1 := sr_setat (v := 0) RT ocT hp h2T (by
          rw [t 20 q (by omega) (by omega), t 17 q (by omega) (by omega), t28, t 22 q (by omega) (by omega), t 37 q (by omega) (by omega), t 38 q (by omega) (by omega)]
          intro _ _
          rcases J0 with ⟨-, y1, -⟩ | ⟨y, -⟩ | ⟨y, -⟩ | ⟨y, -⟩ | ⟨y, -⟩
          · exact Or.inl ⟨rfl, y1, Or.inr rfl⟩
          · exact absurd y (by decide)
          · exact absurd y (by decide)
          · exact absurd y (by decide)
          · rcases y with y | y
            · exact absurd y (by decide)
            · exact absurd y (by decide))
        have s : ∀ k j, ¬ k = 23 → ¬ k = 16 → ¬ k = 60 → en_up (md_t1 g) 23 0 q 0 k 0 j = g k 0 j := fun k j z1 z2 z3 => by rw [up_n (by omega), t _ _ z2 z3]
        have s28 : en_up (md_t1 g) 23 0 q 0 16 0 28 = 0 := by rw [up_n (by omega)]; exact t28
        have oc1 : md_oc (en_up (md_t1 g) 23 0 q 0) ≤ 16 := by unfold md_oc; rw [up_n (by omega)]; exact ocT
        have R2 := sr_setown (v := g 37 0 q) R1 oc1 hp (by rw [s _ _ (by omega) (by omega) (by omega)]; exact h2) (by rw [up_s, up_s]) (by
          rw [s28, up_s, s 37 q (by omega) (by omega) (by omega)]
          exact fun _ _ => Or.inl ⟨rfl, Or.inr rfl, Or.inr rfl⟩)
        have r : ∀ k j, ¬ k = 22 → en_up (en_up (md_t1 g) 23 0 q 0) 22 0 q (g 37 0 q) k 0 j = en_up (md_t1 g) 23 0 q 0 k 0 j := fun k j z1 => up_n (by omega)
        have r28 : en_up (en_up (md_t1 g) 23 0 q 0) 22 0 q (g 37 0 q) 16 0 28 = 0 := by rw [r _ _ (by omega)]; exact s28
        refine sr_fin R2 ?_ hp ?_ ?_ ?_
        · unfold md_oc; rw [up_n (by omega)]; exact oc1
        · rw [r _ _ (by omega), s _ _ (by omega) (by omega) (by omega)]; exact h2
        · rw [r28]; decide
        · rw [r28, up_s, r 23 q (by omega), up_s, r 37 q (by omega), s 37 q (by omega) (by omega) (by omega)]
          exact fun _ _ _ => Or.inr (Or.inl ⟨rfl, rfl, rfl⟩)
  · rw [st] at J t28
    rw [st, if_neg (show ¬ (1 : Int32) - 1 / 2 * 2 = 0 by decide), if_pos (show (1 : Int32) < 2 by decide), if_neg (show ¬ (1 : Int32) - 1 / 2 * 2 = 0 by decide), if_pos rfl]
    unfold cx_answer
    rw [sr_mo R hn (by decide), e8, st]
    cases hm : md_mo g 0 with
    | none => exact bad
    | some q =>
      obtain ⟨rfl, ho, hk⟩ := who0 q hm
      dsimp only
      by_cases z : md_lost g = 1
      · rw [if_pos z, if_pos (l1.mpr z)]; exact bad
      · rw [if_neg z, if_neg (fun y => z (l1.mp y)), if_neg (by decide), if_neg (by decide)]
        dsimp only
        refine sr_good RT ocT hp h2T (by rw [t28]; decide) (by decide) (fun _ _ _ => ?_)
        rw [t28, t 22 q (by omega) (by omega), t 23 q (by omega) (by omega), t 37 q (by omega) (by omega), t 38 q (by omega) (by omega), t 17 q (by omega) (by omega)]
        rcases J ho hk with ⟨y, -⟩ | ⟨-, y1, y2⟩ | ⟨y, -⟩ | ⟨y, -⟩ | ⟨y, -⟩
        · exact absurd y (by decide)
        · exact Or.inr (Or.inr (Or.inl ⟨rfl, y1, Or.inl y2⟩))
        · exact absurd y (by decide)
        · exact absurd y (by decide)
        · rcases y with y | y
          · exact absurd y (by decide)
          · exact absurd y (by decide)
  · rw [st] at J t28
    rw [st, if_pos (show (2 : Int32) - 2 / 2 * 2 = 0 by decide), if_neg (show ¬ (2 : Int32) < 2 by decide), if_pos (show (2 : Int32) - 2 / 2 * 2 = 0 by decide), if_neg (show ¬ (2 : Int32) = 0 by decide)]
    unfold cx_setup md_setup
    rw [sr_mo R hn n4.2, e8, st, e4]
    cases hm : md_mo g (g 37 0 p) with
    | none => exact bad
    | some q =>
      obtain ⟨rfl, ho, hk⟩ := who1 q hm
      dsimp only
      by_cases z : md_lost g = 1
      · rw [if_pos z, if_pos (l1.mpr z)]; exact bad
      · rw [if_neg z, if_neg (fun y => z (l1.mp y)), e2, if_neg (show ¬ (2 : Int32) = 0 by decide), if_neg (show ¬ (2 : Int32) = 4 by decide)]
        unfold md_su2
        rw [if_neg (show ¬ (2 : Int32) / 2 = 0 by decide), if_neg (show ¬ (2 : Int32) / 2 = 2 by decide)]
        have J0 : g 22 0 q = g 37 0 q := by
          rcases J ho hk with ⟨y, -⟩ | ⟨y, -⟩ | ⟨-, y1, -⟩ | ⟨y, -⟩ | ⟨y, -⟩
          · exact absurd y (by decide)
          · exact absurd y (by decide)
          · exact y1
          · exact absurd y (by decide)
          · rcases y with y | y
            · exact absurd y (by decide)
            · exact absurd y (by decide)
        have R1 := sr_setat (v := g 37 0 q) RT ocT hp h2T (by
          rw [t28, t 22 q (by omega) (by omega), t 37 q (by omega) (by omega)]
          exact fun _ _ => Or.inr (Or.inr (Or.inl ⟨rfl, J0, Or.inr rfl⟩)))
        have s : ∀ k j, ¬ k = 23 → ¬ k = 16 → ¬ k = 60 → en_up (md_t1 g) 23 0 q (g 37 0 q) k 0 j = g k 0 j := fun k j z1 z2 z3 => by rw [up_n (by omega), t _ _ z2 z3]
        have s28 : en_up (md_t1 g) 23 0 q (g 37 0 q) 16 0 28 = 2 := by rw [up_n (by omega)]; exact t28
        refine sr_fin R1 ?_ hp ?_ ?_ ?_
        · unfold md_oc; rw [up_n (by omega)]; exact ocT
        · rw [s _ _ (by omega) (by omega) (by omega)]; exact h2
        · rw [s28]; decide
        · rw [s28, up_s, s 37 q (by omega) (by omega) (by omega), s 22 q (by omega) (by omega) (by omega)]
          exact fun _ _ _ => Or.inr (Or.inr (Or.inr (Or.inl ⟨rfl, J0, rfl⟩)))
  · rw [st] at J t28
    rw [st, if_neg (show ¬ (3 : Int32) - 3 / 2 * 2 = 0 by decide), if_neg (show ¬ (3 : Int32) < 2 by decide), if_neg (show ¬ (3 : Int32) - 3 / 2 * 2 = 0 by decide), if_neg (show ¬ (3 : Int32) = 1 by decide)]
    unfold cx_answer
    rw [sr_mo R hn n4.2, e8, st]
    cases hm : md_mo g (g 37 0 p) with
    | none => exact bad
    | some q =>
      obtain ⟨rfl, ho, hk⟩ := who1 q hm
      dsimp only
      by_cases z : md_lost g = 1
      · rw [if_pos z, if_pos (l1.mpr z)]; exact bad
      · rw [if_neg z, if_neg (fun y => z (l1.mp y)), if_pos rfl, if_pos rfl]
        exact sr_described RT ocT hp h2T t28 (by rw [t _ _ (by omega) (by omega)]; exact ho) (by rw [t _ _ (by omega) (by omega)]; exact hk)
  · rw [st] at J t28
    rw [st, if_pos (show (4 : Int32) - 4 / 2 * 2 = 0 by decide), if_neg (show ¬ (4 : Int32) < 2 by decide), if_pos (show (4 : Int32) - 4 / 2 * 2 = 0 by decide), if_neg (show ¬ (4 : Int32) = 0 by decide)]
    unfold cx_setup md_setup
    rw [sr_mo R hn n4.2, e8, st, e4]
    cases hm : md_mo g (g 37 0 p) with
    | none => exact bad
    | some q =>
      obtain ⟨rfl, ho, hk⟩ := who1 q hm
      dsimp only
      by_cases z : md_lost g = 1
      · rw [if_pos z, if_pos (l1.mpr z)]; exact bad
      · rw [if_neg z, if_neg (fun y => z (l1.mp y)), e2, if_neg (show ¬ (4 : Int32) = 0 by decide), if_pos rfl]
        unfold md_su2
        rw [if_neg (show ¬ (4 : Int32) / 2 = 0 by decide), if_pos (show (4 : Int32) / 2 = 2 by decide)]
        have J0 : g 22 0 q = g 37 0 q ∧ g 38 0 q = g 17 0 q := by
          rcases J ho hk with ⟨y, -⟩ | ⟨y, -⟩ | ⟨y, -⟩ | ⟨y, -⟩ | ⟨-, y1, -, y2⟩
          · exact absurd y (by decide)
          · exact absurd y (by decide)
          · exact absurd y (by decide)
          · exact absurd y (by decide)
          · exact ⟨y1, y2⟩
        have R1 := sr_setat (v := g 37 0 q) RT ocT hp h2T (by
          rw [t28, t 22 q (by omega) (by omega), t 37 q (by omega) (by omega), t 38 q (by omega) (by omega), t 17 q (by omega) (by omega)]
          exact fun _ _ => Or.inr (Or.inr (Or.inr (Or.inr ⟨Or.inl rfl, J0.1, rfl, J0.2⟩))))
        have s : ∀ k j, ¬ k = 23 → ¬ k = 16 → ¬ k = 60 → en_up (md_t1 g) 23 0 q (g 37 0 q) k 0 j = g k 0 j := fun k j z1 z2 z3 => by rw [up_n (by omega), t _ _ z2 z3]
        have s28 : en_up (md_t1 g) 23 0 q (g 37 0 q) 16 0 28 = 4 := by rw [up_n (by omega)]; exact t28
        have oc1 : md_oc (en_up (md_t1 g) 23 0 q (g 37 0 q)) ≤ 16 := by unfold md_oc; rw [up_n (by omega)]; exact ocT
        have R2 := sr_conf (q := q) R1 oc1 hp
        have r : ∀ k j, ¬ k = 21 → ¬ k = 24 → md_conf (en_up (md_t1 g) 23 0 q (g 37 0 q)) q k 0 j = en_up (md_t1 g) 23 0 q (g 37 0 q) k 0 j := fun k j z1 z2 => md_conf_k hp z1 z2
        have r28 : md_conf (en_up (md_t1 g) 23 0 q (g 37 0 q)) q 16 0 28 = 4 := by rw [r _ _ (by omega) (by omega)]; exact s28
        refine sr_fin R2 ?_ hp ?_ ?_ ?_
        · unfold md_oc; rw [r _ _ (by omega) (by omega)]; exact oc1
        · rw [r _ _ (by omega) (by omega), s _ _ (by omega) (by omega) (by omega)]; exact h2
        · rw [r28]; decide
        · rw [r28, r 22 q (by omega) (by omega), r 23 q (by omega) (by omega), r 37 q (by omega) (by omega), r 38 q (by omega) (by omega), r 17 q (by omega) (by omega), up_s, s 37 q (by omega) (by omega) (by omega), s 22 q (by omega) (by omega) (by omega), s 38 q (by omega) (by omega) (by omega), s 17 q (by omega) (by omega) (by omega)]
          exact fun _ _ _ => Or.inr (Or.inr (Or.inr (Or.inr ⟨Or.inr rfl, J0.1, rfl, J0.2⟩)))
  · rw [st] at J t28
    rw [st, if_neg (show ¬ (5 : Int32) - 5 / 2 * 2 = 0 by decide), if_neg (show ¬ (5 : Int32) < 2 by decide), if_neg (show ¬ (5 : Int32) - 5 / 2 * 2 = 0 by decide), if_neg (show ¬ (5 : Int32) = 1 by decide)]
    unfold cx_answer
    rw [sr_mo R hn n4.2, e8, st]
    cases hm : md_mo g (g 37 0 p) with
    | none => exact bad
    | some q =>
      obtain ⟨rfl, ho, hk⟩ := who1 q hm
      dsimp only
      by_cases z : md_lost g = 1
      · rw [if_pos z, if_pos (l1.mpr z)]; exact bad
      · rw [if_neg z, if_neg (fun y => z (l1.mp y)), if_neg (by decide), if_neg (by decide)]
        dsimp only
        exact sr_good RT ocT hp h2T (by rw [t28]; decide) (by decide) (fun y => absurd t28 y)
end Sr8
