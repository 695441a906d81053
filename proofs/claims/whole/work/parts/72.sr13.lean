/-! THE TWO STATES SIDE BY SIDE, 13: an order's next step -/
section Sr13
variable {p k n m q i j s c : Nat} {f g f' g' F G : en_F} {v w a b x l l' cf : Int32}
/-- the order in hand and where it stands -/
def sr_At (f g : en_F) (p k s c : Nat) : Prop := (sr_SR f g ∧ md_OK g ∧ cx_ln f < 40) ∧ (p < 6 ∧ k < md_oc g ∧ g 36 0 p = 3 ∧ g 38 0 p = 1) ∧ (sr_hand g p = some k ∧ g 49 0 k = nI p ∧ g 54 0 k = 0) ∧ (g 55 0 k = nI s ∧ g 52 0 k = nI c ∧ s ≤ c + 1 ∧ 1 ≤ c ∧ c ≤ 4) ∧ f 3 p 8 = nI s ∧ (¬ g 20 0 p = 0 → ¬ g 17 0 p = 0 → (¬ sr_I g p → sr_H g p) ∧ sr_IVs g p (g 50 0 k) s c)
theorem sr_IVs_s (h : sr_IVs g p w s c) : s ≤ c + 1 := by
  rcases h with h | h | h | h <;> omega
theorem sr_At_of (R : sr_SR f g) (ok : md_OK g) (hn : cx_ln f < 40) (hp : p < 6) (h3 : g 36 0 p = 3) (h1 : g 38 0 p = 1) (hh : sr_hand g p = some k) : ∃ s c, sr_At f g p k s c := by
  have hk := cx_fo_lt hh
  have hk1 : g 49 0 k = nI p ∧ g 54 0 k = 0 := by
    have := hk.2.2
    unfold md_ohp at this
    exact of_decide_eq_true this
  have hko : k < md_oc g := by omega
  have oc : md_oc g ≤ 16 := ok.1.1
  obtain ⟨s, c, e1, e2, e3, e4, e5⟩ := sr_OR_sc (sr_SR_ors R k (by omega)) hko hk1.2
  obtain ⟨d1, d2⟩ := sr_SR_dps R p hp h3 h1
  have hst : sr_hst g p = g 55 0 k := by unfold sr_hst; rw [hh]
  refine ⟨s, c, ⟨R, ok, hn⟩, ⟨hp, hko, h3, h1⟩, ⟨hh, hk1⟩, ⟨e1, e2, e3, e4, e5⟩, by rw [d1, hst, e1], fun o0 k0 => ?_⟩
  have hv := d2 o0 k0
  unfold sr_IV at hv
  rw [hh] at hv
  obtain ⟨y1, s', c', y2, y3, y4, y5, y6⟩ := hv
  refine ⟨y1, ?_⟩
  have := sr_IVs_s y6
  rw [y2] at e1
  rw [y3] at e2
  rw [← (nI_eq (by omega) (by omega)).mp e1, ← (nI_eq (by omega) (by omega)).mp e2]
  exact y6
theorem pk_word {b c : Nat} (hb : b ≤ 7) (hc : 1 ≤ c) (hc4 : c ≤ 4) : ((if (nI c ||| nI b <<< ((3 : Int32) &&& 31) ||| (if w = 0 then (0 : Int32) else 64)) &&& 64 = 0 then (1 : Int32) else 2) = if w = 0 then 1 else 2) ∧ (nI c ||| nI b <<< ((3 : Int32) &&& 31) ||| (if w = 0 then (0 : Int32) else 64)) >>> (3 &&& 31) &&& 7 = nI b ∧ (nI c ||| nI b <<< ((3 : Int32) &&& 31) ||| (if w = 0 then (0 : Int32) else 64)) &&& 7 = nI c := by
  have h1 : c = 1 ∨ c = 2 ∨ c = 3 ∨ c = 4 := by omega
  have h2 : b = 0 ∨ b = 1 ∨ b = 2 ∨ b = 3 ∨ b = 4 ∨ b = 5 ∨ b = 6 ∨ b = 7 := by omega
  by_cases hw : w = 0
  · rw [if_pos hw, if_pos hw]
    rcases h1 with rfl | rfl | rfl | rfl <;> rcases h2 with rfl | rfl | rfl | rfl | rfl | rfl | rfl | rfl <;> decide
  · rw [if_neg hw, if_neg hw]
    rcases h1 with rfl | rfl | rfl | rfl <;> rcases h2 with rfl | rfl | rfl | rfl | rfl | rfl | rfl | rfl <;> decide
theorem sr_IVs_t1 (h : sr_IVs g p w s c) : sr_IVs (md_t1 g) p w s c := sr_IVs_o (fun k hk => md_t1_z (by unfold sr_dk at hk; omega) (by unfold sr_dk at hk; omega)) h
/-- what an answer leaves of the disk -/
def sr_Aft (G1 : en_F) (p : Nat) (w : Int32) (s c : Nat) (r : Int32) : Prop := (¬ sr_I G1 p → sr_H G1 p) ∧ (¬ r = 1 → sr_IVs G1 p w s c) ∧ (r = 1 → s ≤ c → sr_IVs G1 p w (s + 1) c) ∧ (r = 1 → s = c + 1 → sr_E G1 p ∧ G1 30 0 p = 0 ∧ (sr_H G1 p → ¬ sr_I G1 p))
theorem cx_take_3 : cx_take F p v 3 i j = F 3 i j := by
  unfold cx_take
  split
  · unfold cx_takeC
    rw [up_n (by omega), up_n (by omega), up_n (by omega), up_n (by omega)]
  · split
    · rw [up_n (by omega), up_n (by omega), up_n (by omega)]
    · rfl
theorem cx_agr_3 : (cx_agrees F p a v).2 3 i j = F 3 i j := by
  unfold cx_agrees
  split
  · split
    · dsimp only; rw [up_n (by omega)]
    · dsimp only; rw [up_n (by omega)]; exact cx_take_3
  · rfl
theorem cx_out_3 : (cx_out f p v).2 3 i 8 = f 3 i 8 := by
  unfold cx_out
  split
  · dsimp only; rw [cx_nxt_3]
  · split
    · dsimp only; rw [cx_nxt_3]
    · split
      · dsimp only; rw [cx_agr_3, cx_nxt_3]
      · split
        · dsimp only; rw [cx_agr_3, cx_nxt_3]
        · dsimp only; rw [up_n (by omega), cx_agr_3, cx_nxt_3]
theorem sr_give (A : sr_At f g p k s c) (hs : s = 0 ∨ (¬ g 50 0 k = 0 ∧ s ≤ c)) (hcf : cf = if g 55 0 k = 0 then 1 else 0) : sr_SX (cx_out f p (cx_packetAt f k (f 3 p 8))).2 (md_give g p k cf (g 53 0 k + g 55 0 k - 1)).2 p ∧ sr_rc (cx_out f p (cx_packetAt f k (f 3 p 8))).1 (md_give g p k cf (g 53 0 k + g 55 0 k - 1)).1 ∧ (¬ g 20 0 p = 0 → ¬ g 17 0 p = 0 → sr_Aft (md_give g p k cf (g 53 0 k + g 55 0 k - 1)).2 p (g 50 0 k) s c (md_give g p k cf (g 53 0 k + g 55 0 k - 1)).1) := by
  obtain ⟨⟨R, ok, hn⟩, ⟨hp, hko, h3, h1⟩, ⟨hh, h49, h54⟩, ⟨e55, e52, hs1, hc1, hc4⟩, e8, hV⟩ := A
  have P := sr_SR_prs R p hp
  have oc : md_oc g ≤ 16 := ok.1.1
  have hha : sr_has g p := Or.inr h3
  have hv := sr_n4_ne (sr_PR_nu P hha)
  have hcf0 : s = 0 → ¬ cf = 0 := by
    intro z
    rw [hcf, e55, z, if_pos (show nI 0 = 0 from rfl)]
    decide
  have T1 := sr_tok R hn
  have V1 : ∀ G1 : en_F, (∀ k, sr_dk k → G1 k 0 p = g k 0 p) → ¬ g 20 0 p = 0 → ¬ g 17 0 p = 0 → ∀ r : Int32, ¬ r = 1 → sr_Aft G1 p (g 50 0 k) s c r := by
    intro G1 hg o0 k0 r hr
    obtain ⟨y1, y2⟩ := hV o0 k0
    refine ⟨?_, fun _ => sr_IVs_o hg y2, fun z => absurd z hr, fun z => absurd z hr⟩
    unfold sr_I sr_H
    rw [hg 42 (by omega), hg 25 (by omega), hg 28 (by omega)]
    exact y1
  have tk : ∀ k, sr_dk k → md_t1 g k 0 p = g k 0 p := fun k hk => md_t1_z (by unfold sr_dk at hk; omega) (by unfold sr_dk at hk; omega)
  generalize hvv : cx_packetAt f k (f 3 p 8) = u
  unfold cx_out md_give
  rw [sr_PR_ah P hha, sr_mo R hn hv.2]
  cases hm : md_mo g (g 37 0 p) with
  | none =>
    dsimp only
    exact ⟨sr_SX_of T1, Or.inl ⟨rfl, rfl⟩, fun o0 k0 => V1 _ tk o0 k0 _ (by decide)⟩
  | some q =>
    obtain ⟨hq, hl0, hli⟩ := md_mo_lt hm
    rw [md_lis_t1] at hli
    have e := sr_who1 R hp hq hha hli
    subst e
    obtain ⟨k0, o0, -⟩ := md_lis_e hli
    dsimp only
    by_cases l1 : md_lost g = 1
    · rw [if_pos l1, if_pos ((sr_lost R hn (Or.inr (Or.inl rfl))).mpr l1)]
      exact ⟨sr_SX_of T1, Or.inl ⟨rfl, rfl⟩, fun o0 k0 => V1 _ tk o0 k0 _ (show ¬ (-2 : Int32) = 1 by decide)⟩
    · rw [if_neg l1, if_neg (fun z => l1 ((sr_lost R hn (Or.inr (Or.inl rfl))).mp z))]
      obtain ⟨y1, y2⟩ := hV o0 k0
      have y3 := sr_IVs_t1 y2
      have D := sr_PR_od P o0
      have o1 : ¬ md_t1 g 20 0 q = 0 := by rw [md_t1_z (by omega) (by omega)]; exact o0
      have t36 : md_t1 g 36 0 q = 3 := by rw [md_t1_z (by omega) (by omega)]; exact h3
      have t17 : md_t1 g 17 0 q = 1 := by rw [md_t1_z (by omega) (by omega), ← (sr_PR_rd P o0 h3 k0).2.2]; exact h1
      have t50 : md_t1 g 50 0 k = g 50 0 k := md_t1_z (by omega) (by omega)
      have t51 : md_t1 g 51 0 k = g 51 0 k := md_t1_z (by omega) (by omega)
      have t52 : md_t1 g 52 0 k = g 52 0 k := md_t1_z (by omega) (by omega)
      have toc : md_oc (md_t1 g) ≤ 16 := by rw [md_t1_oc]; exact oc
      obtain ⟨ob, oc', ot, q1, q2, q3, q4, q5, -⟩ := ok.2.2.2.1 k hko h54
      have ecc : oc' = c := by
        rw [q2] at e52
        exact (nI_eq (by omega) (by omega)).mp e52
      obtain ⟨ol2, ol3, ol4, ol5, ol6, ol7⟩ := sr_OR_ol (sr_SR_ors R k (by omega)) hko
      have Agr := sr_agr (w := g 53 0 k + g 55 0 k - 1) (v := u) (cf := cf) (k := k) (sr_SX_of T1) toc hp o1 t36 t17 (md_t1_dl (MO_dl ok q hp)) (by
        intro hE hd
        have s0 : s = 0 := by
          rcases hs with z | z
          · exact z
          · rcases Nat.eq_zero_or_pos s with y | y
            · exact y
            · have := (V_dat y3 y z.2 z.1 hE).1
              rw [hd] at this
              exact absurd this (by decide)
        refine ⟨hcf0 s0, ?_⟩
        rw [t50, t51, t52, q1, q2, ecc, ← hvv, e8, s0]
        unfold cx_packetAt
        rw [if_neg (show ¬ 0 < nI 0 by decide), ol4, ol3, ol5, q1, q2, ecc]
        exact pk_word (by omega) hc1 hc4) (by
        intro hE hd
        have s1 : 1 ≤ s := by
          rcases Nat.eq_zero_or_pos s with y | y
          · subst y
            exact absurd (V_e0 y3 hE) hd
          · exact y
        have z : ¬ g 50 0 k = 0 ∧ s ≤ c := by rcases hs with z | z; omega; exact z
        obtain ⟨d2, l2⟩ := V_dat y3 s1 z.2 z.1 hE
        refine ⟨⟨d2, ?_⟩, ?_⟩
        · rw [l2, show (0 : Int32) = nI 0 from rfl, cb_lt (by omega) (by omega)]
          omega
        · rw [← hvv, e8]
          unfold cx_packetAt
          rw [if_pos (by rw [show (0 : Int32) = nI 0 from rfl, cb_lt (by omega) (by omega)]; omega), ol6, e55])
      have gV := md_gv_V (G := md_t1 g) (p := q) (k := k) (w := g 50 0 k) (s := s) (c := c) (cf := cf) (v := g 53 0 k + g 55 0 k - 1) (by rw [md_t1_z (by omega) (by omega)]; exact sr_PR_bo P) (by rw [md_t1_z (by omega) (by omega)]; exact sr_OD_b2 D) t50 (t52.trans e52) y3 hs hcf0 hc4
      obtain ⟨X2, hA⟩ := Agr
      have e6 : f 3 q 6 = cx_nxt f 3 q 6 := cx_nxt_3.symm
      rw [e6]
      have yI : ∀ G1 : en_F, G1 42 0 q = g 42 0 q → G1 25 0 q = g 25 0 q → G1 28 0 q = g 28 0 q → (¬ sr_I G1 q → sr_H G1 q) := by
        intro G1 z1 z2 z3
        unfold sr_I sr_H
        rw [z1, z2, z3]
        exact y1
      have i42 : (md_gv (md_t1 g) q q k cf (g 53 0 k + g 55 0 k - 1)).2 42 0 q = g 42 0 q := by rw [md_gv_i (by omega) (by omega) (by omega) (by omega) (by omega) (by omega), md_t1_z (by omega) (by omega)]
      have i25 : (md_gv (md_t1 g) q q k cf (g 53 0 k + g 55 0 k - 1)).2 25 0 q = g 25 0 q := by rw [md_gv_i (by omega) (by omega) (by omega) (by omega) (by omega) (by omega), md_t1_z (by omega) (by omega)]
      have i28 : (md_gv (md_t1 g) q q k cf (g 53 0 k + g 55 0 k - 1)).2 28 0 q = g 28 0 q := by rw [md_gv_i (by omega) (by omega) (by omega) (by omega) (by omega) (by omega), md_t1_z (by omega) (by omega)]
      have i36 : (md_gv (md_t1 g) q q k cf (g 53 0 k + g 55 0 k - 1)).2 36 0 q = 3 := by rw [md_gv_i (by omega) (by omega) (by omega) (by omega) (by omega) (by omega)]; exact t36
      have i43 : (md_gv (md_t1 g) q q k cf (g 53 0 k + g 55 0 k - 1)).2 43 0 q = g 43 0 q := by rw [md_gv_i (by omega) (by omega) (by omega) (by omega) (by omega) (by omega), md_t1_z (by omega) (by omega)]
      have ioc : md_oc (md_gv (md_t1 g) q q k cf (g 53 0 k + g 55 0 k - 1)).2 ≤ 16 := by
        have : md_oc (md_gv (md_t1 g) q q k cf (g 53 0 k + g 55 0 k - 1)).2 = md_oc (md_t1 g) := by
          unfold md_oc
          rw [md_gv_i (by omega) (by omega) (by omega) (by omega) (by omega) (by omega)]
        omega
      have b26 := md_gv_26 (G := md_t1 g) (p := q) (n := k) (cf := cf) (v := g 53 0 k + g 55 0 k - 1) (by rw [md_t1_z (by omega) (by omega)]; exact sr_OD_b2 D)
      by_cases l2 : md_lost g = 2
      · rw [if_pos l2, if_pos ((sr_lost R hn (Or.inr (Or.inr rfl))).mpr l2)]
        exact ⟨X2, Or.inl ⟨rfl, rfl⟩, fun _ _ => ⟨yI _ i42 i25 i28, fun _ => gV.1, fun z => absurd z (show ¬ (-2 : Int32) = 1 by decide), fun z => absurd z (show ¬ (-2 : Int32) = 1 by decide)⟩⟩
      · rw [if_neg l2, if_neg (fun z => l2 ((sr_lost R hn (Or.inr (Or.inr rfl))).mp z))]
        rcases hA with ⟨z1, z2⟩ | ⟨z1, z2⟩
        · rw [if_pos z1, if_neg (show ¬ (md_gv (md_t1 g) q q k cf (g 53 0 k + g 55 0 k - 1)).1 = 1 by rw [z2]; decide)]
          exact ⟨X2, Or.inr (Or.inl ⟨rfl, rfl⟩), fun _ _ => ⟨yI _ i42 i25 i28, fun _ => gV.1, fun z => absurd z (show ¬ (-1 : Int32) = 1 by decide), fun z => absurd z (show ¬ (-1 : Int32) = 1 by decide)⟩⟩
        · rw [if_neg (show ¬ (cx_agrees (cx_nxt f) q (cx_nxt f 3 q 6) u).1 = 0 by rw [z1]; decide), if_pos z2]
          refine ⟨sr_hout X2 ioc hp (by rw [i36]; decide), Or.inr (Or.inr (Or.inr ⟨rfl, rfl⟩)), fun _ _ => ⟨?_, fun z => absurd rfl z, fun _ _ => ?_, fun _ z => ?_⟩⟩
          · refine yI _ ?_ ?_ ?_
            · dsimp only; rw [up_n (by omega)]; exact i42
            · dsimp only; rw [up_n (by omega)]; exact i25
            · dsimp only; rw [up_n (by omega)]; exact i28
          · have nE : ¬ sr_E (md_gv (md_t1 g) q q k cf (g 53 0 k + g 55 0 k - 1)).2 q := by
              rcases gV.2 with y | y
              · exact y.2
              · rw [z2] at y; exact absurd y (by decide)
            have hfl := sr_bt_fl (a := (md_gv (md_t1 g) q q k cf (g 53 0 k + g 55 0 k - 1)).2 43 0 q) (by rw [i43]; exact sr_PR_bo P) b26
            have V2 := V_ack (E' := 1 - (md_gv (md_t1 g) q q k cf (g 53 0 k + g 55 0 k - 1)).2 43 0 q = (md_gv (md_t1 g) q q k cf (g 53 0 k + g 55 0 k - 1)).2 26 0 q) gV.1 hc1 hs nE (hfl.1.mpr nE)
            rw [sr_IVs_V]
            unfold sr_I sr_H sr_E
            simp only [en_ua, Nat.reduceEqDiff, eq_self, true_and, and_true, false_and, and_false, and_self, ↓reduceIte, sr_has]
            exact V2
          · rcases hs with y | y <;> omega
/-- the disk is asked for a packet -/
theorem cx_tell_38 : (cx_tell F q).2 3 i 8 = F 3 i 8 := by
  unfold cx_tell
  split
  · rfl
  · exact up_n (by omega)
theorem cx_hold_3 : cx_hold F q v 3 i j = F 3 i j := by
  unfold cx_hold
  rw [up_n (by omega), up_n (by omega)]
theorem cx_hold1_38 {n : Nat} : cx_hold1 F q n 3 i 8 = F 3 i 8 := by
  rcases n with _ | _ | _ | _ | n
  · rfl
  · show en_up (cx_hold F q (F 7 q 0)) 4 q 2 0 3 i 8 = _
    rw [up_n (by omega), cx_hold_3]
  · show en_up (en_up (cx_hold F q (F 7 q 0)) 4 q 2 1) 7 q 0 (F 7 q 1) 3 i 8 = _
    rw [up_n (by omega), up_n (by omega), cx_hold_3]
  · show en_up (en_up (en_up (cx_hold F q (F 7 q 0)) 4 q 2 2) 7 q 0 (F 7 q 1)) 7 q 1 (F 7 q 2) 3 i 8 = _
    rw [up_n (by omega), up_n (by omega), up_n (by omega), cx_hold_3]
  · show en_up (en_up (en_up (en_up (cx_hold F q (F 7 q 0)) 4 q 2 3) 7 q 0 (F 7 q 1)) 7 q 1 (F 7 q 2)) 7 q 2 (F 7 q 3) 3 i 8 = _
    rw [up_n (by omega), up_n (by omega), up_n (by omega), up_n (by omega), cx_hold_3]
theorem cx_in2_38 : cx_in2 F q 3 i 8 = F 3 i 8 := by
  unfold cx_in2
  split
  · unfold cx_mk
    split
    · exact cx_hold1_38
    · split
      · unfold cx_holdK
        split
        · split
          · rw [cx_hold_3]
            unfold cx_kmake
            split
            · dsimp only; rw [up_n (by omega)]
            · dsimp only; rw [up_n (by omega), up_n (by omega)]
          · rw [up_n (by omega)]
        · rfl
      · split
        · split
          · rw [cx_tell_38, cx_tell_38]
          · rw [cx_hold_3, cx_tell_38, cx_tell_38]
        · rfl
  · rfl
theorem cx_in_3 : (cx_in f p).2 3 i 8 = f 3 i 8 := by
  unfold cx_in
  split
  · dsimp only; rw [cx_nxt_3]
  · split
    · dsimp only; rw [cx_in2_38, cx_nxt_3]
    · split
      · dsimp only; rw [cx_in2_38, cx_nxt_3]
      · dsimp only
        split
        · split
          · rw [up_n (by omega), up_n (by omega), cx_in2_38, cx_nxt_3]
          · rw [up_n (by omega), cx_letGo_3, up_n (by omega), cx_in2_38, cx_nxt_3]
        · split
          · rw [up_n (by omega), cx_in2_38, cx_nxt_3]
          · rw [cx_letGo_3, up_n (by omega), cx_in2_38, cx_nxt_3]
theorem sr_ask (A : sr_At f g p k s c) (hs : 1 ≤ s) (hw : s ≤ c → g 50 0 k = 0) : sr_SX (cx_in f p).2 (md_in g p).2 p ∧ sr_rc (cx_in f p).1 (md_in g p).1 ∧ (¬ g 20 0 p = 0 → ¬ g 17 0 p = 0 → sr_Aft (md_in g p).2 p (g 50 0 k) s c (md_in g p).1) := by
  obtain ⟨⟨R, ok, hn⟩, ⟨hp, hko, h3, h1⟩, ⟨hh, h49, h54⟩, ⟨e55, e52, hs1, hc1, hc4⟩, e8, hV⟩ := A
  have P := sr_SR_prs R p hp
  have oc : md_oc g ≤ 16 := ok.1.1
  have T1 := sr_tok R hn
  have toc : md_oc (md_t1 g) ≤ 16 := by rw [md_t1_oc]; exact oc
  have t36 : md_t1 g 36 0 p = 3 := by rw [md_t1_z (by omega) (by omega)]; exact h3
  have t17 : ¬ g 20 0 p = 0 → ¬ g 17 0 p = 0 → md_t1 g 17 0 p = 1 := fun o0 k0 => by rw [md_t1_z (by omega) (by omega), ← (sr_PR_rd P o0 h3 k0).2.2]; exact h1
  obtain ⟨X, hc, -, hsh⟩ := sr_in R oc hn hp h3 (fun o0 k0 => sr_mkD (sr_SX_of T1) toc hp (by rw [md_t1_z (by omega) (by omega)]; exact o0) t36 (t17 o0 k0) (md_t1_dl (MO_dl ok p hp)))
  refine ⟨X, hc, fun o0 k0 => ?_⟩
  obtain ⟨y1, y2⟩ := hV o0 k0
  have D := sr_PR_od P o0
  have tk : ∀ k, sr_dk k → md_t1 g k 0 p = g k 0 p := fun k hk => md_t1_z (by unfold sr_dk at hk; omega) (by unfold sr_dk at hk; omega)
  have y3 := sr_IVs_t1 y2
  have y1' : ¬ sr_I (md_t1 g) p → sr_H (md_t1 g) p := by
    unfold sr_I sr_H
    rw [tk 42 (by omega), tk 25 (by omega), tk 28 (by omega)]
    exact y1
  rcases hsh with ⟨z1, z2, -⟩ | ⟨-, -, hsh⟩
  · rw [z1, z2]
    exact ⟨y1', fun _ => y3, fun z => absurd z (by decide), fun z => absurd z (by decide)⟩
  · have r0 := (V_Rd hs hw).mp y3
    have hmk : sr_Rd (sr_I (md_in2 (md_t1 g) p) p) (sr_H (md_in2 (md_t1 g) p) p) (sr_E (md_in2 (md_t1 g) p) p) (md_in2 (md_t1 g) p 30 0 p) (md_in2 (md_t1 g) p 32 0 p) (g 50 0 k) s c ∧ (¬ sr_I (md_in2 (md_t1 g) p) p → sr_H (md_in2 (md_t1 g) p) p) := by
      unfold md_in2
      by_cases hz : md_t1 g 28 0 p = 0
      · rw [if_pos hz]
        have hI : md_t1 g 42 0 p = md_t1 g 25 0 p := Decidable.byContradiction (fun z => y1' z hz)
        have em : md_mk (md_t1 g) p = md_mkK (md_t1 g) p := by
          unfold md_mk
          rw [if_pos (t17 o0 k0)]
        rw [em]
        refine ⟨md_mkK_V hz hI r0 hc4, fun z => ?_⟩
        exfalso
        apply z
        have m42 : md_mkK (md_t1 g) p 42 0 p = md_t1 g 42 0 p := by rw [← em]; exact md_mk_k (by omega)
        have m25 : md_mkK (md_t1 g) p 25 0 p = md_t1 g 25 0 p := by
          unfold md_mkK
          split
          · split
            · exact up_n (by omega)
            · split
              · rw [up_n (by omega), up_n (by omega), up_n (by omega)]
              · rw [up_n (by omega), up_n (by omega), up_n (by omega), up_n (by omega)]
          · rfl
        unfold sr_I
        rw [m42, m25]
        exact hI
      · rw [if_neg hz]
        exact ⟨r0, y1'⟩
    rcases hsh with ⟨z2, z1⟩ | ⟨z2, zh, z1⟩ | ⟨zh, z2, z1⟩
    · rw [z1, z2]
      exact ⟨hmk.2, fun _ => (V_Rd hs hw).mpr hmk.1, fun z => absurd z (by decide), fun z => absurd z (by decide)⟩
    · rw [z1, z2]
      exact ⟨hmk.2, fun _ => (V_Rd hs hw).mpr hmk.1, fun z => absurd z (by decide), fun z => absurd z (by decide)⟩
    · have X2 := sr_mkD (sr_SX_of T1) toc hp (by rw [md_t1_z (by omega) (by omega)]; exact o0) t36 (t17 o0 k0) (md_t1_dl (MO_dl ok p hp))
      have P2 := sr_SX_prs X2 p hp
      have D2 := sr_PR_od P2 (by rw [md_in2_k (by omega), md_t1_z (by omega) (by omega)]; exact o0)
      have M := md_i3_V (l := md_lost g) (sr_PR_bi P2) (sr_OD_b1 D2) zh hmk.1
      rw [z1, z2]
      by_cases hi : md_in2 (md_t1 g) p 25 0 p = md_in2 (md_t1 g) p 42 0 p
      · rw [if_pos hi]
        refine ⟨M.2.2, fun z => absurd rfl z, fun _ hsc => (V_Rd (by omega) (fun _ => hw hsc)).mpr ((M.1 hi).1 hsc), fun _ hsc => (M.1 hi).2 hsc⟩
      · rw [if_neg hi]
        refine ⟨M.2.2, fun _ => (V_Rd hs hw).mpr (M.2.1 hi), fun z => absurd z (by decide), fun z => absurd z (by decide)⟩
end Sr13
