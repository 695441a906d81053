/-! THE TWO STATES SIDE BY SIDE, 10: a packet is made by keys and hubs -/
section Sr10
variable {p k n m q i j : Nat} {f g f' g' : en_F} {v w a b x : Int32}
theorem oc_up (h : ¬ (k = 16 ∧ j = 31)) : md_oc (en_up g k i j x) = md_oc g := by unfold md_oc; rw [up_o (by omega)]
theorem sr_mkC (R : sr_SX f g p) (oc : md_oc g ≤ 16) (hp : p < 6) (h3 : ¬ g 36 0 p = 2) (hk : g 17 0 p = 2) (hn : n ≤ 4) : sr_SX (cx_hold1 f p n) (md_hold1 g p n) p := by
  have cd := sr_GR_cd (sr_SX_gr R) p hp
  have c0 : f 7 p 0 = g 35 0 (4 * p) := cd 0 (by omega)
  have c1 := cd 1 (by omega)
  have c2 := cd 2 (by omega)
  have c3 := cd 3 (by omega)
  have R1 := sr_hold (v := g 35 0 (4 * p)) R oc hp h3 (fun z => by rw [hk] at z; exact absurd z (by decide))
  have oc1 : md_oc (en_up (en_up g 28 0 p 1) 29 0 p (g 35 0 (4 * p))) ≤ 16 := by rw [oc_up (by omega), oc_up (by omega)]; exact oc
  have hc : n = 0 ∨ n = 1 ∨ n = 2 ∨ n = 3 ∨ n = 4 := by omega
  unfold cx_hold1 md_hold1
  rw [c0, c1, c2, c3]
  rcases hc with rfl | rfl | rfl | rfl | rfl
  · exact R
  · exact sr_codes R1 oc1 hp
  · exact sr_code (j := 0) (sr_codes R1 oc1 hp) hp (by omega)
  · exact sr_code (j := 1) (sr_code (j := 0) (sr_codes R1 oc1 hp) hp (by omega)) hp (by omega)
  · exact sr_code (j := 2) (sr_code (j := 1) (sr_code (j := 0) (sr_codes R1 oc1 hp) hp (by omega)) hp (by omega)) hp (by omega)
/-- what a hub tells of a port -/
def sr_tv (c k : Int32) : Int32 := if c = 0 then 0 else if k = 0 then 1 else 3
def sr_tg (g : en_F) (p : Nat) : en_F := if g 21 0 p = 0 then g else en_up g 21 0 p 0
theorem md_tl_e (hp : p < 2) : md_tl p 4 2 0 g = (sr_tv (g 21 0 (2 * p + 2)) (g 17 0 (2 * p + 2)) ||| sr_tv (g 21 0 (2 * p + 3)) (g 17 0 (2 * p + 3)) <<< ((2 : Int32) &&& 31), sr_tg (sr_tg g (2 * p + 2)) (2 * p + 3)) := by
  have hc : p = 0 ∨ p = 1 := by omega
  have s2 : (2 * (nI 2 &&& 1)) &&& 31 = (0 : Int32) := by decide
  have s3 : (2 * (nI 3 &&& 1)) &&& 31 = (2 : Int32) := by decide
  have s4 : (2 * (nI 4 &&& 1)) &&& 31 = (0 : Int32) := by decide
  have s5 : (2 * (nI 5 &&& 1)) &&& 31 = (2 : Int32) := by decide
  have s31 : (2 : Int32) &&& 31 = 2 := by decide
  unfold sr_tv sr_tg
  rw [s31]
  rcases hc with rfl | rfl
  · by_cases h1 : g 21 0 2 = 0
    · by_cases h2 : g 21 0 3 = 0
      · simp [md_tl, h1, h2]
      · by_cases h3 : g 17 0 3 = 0 <;> simp [md_tl, h1, h2, h3, s3]
    · by_cases h4 : g 17 0 2 = 0
      · by_cases h2 : g 21 0 3 = 0
        · simp [md_tl, h1, h2, h4, s2, en_up]
        · by_cases h3 : g 17 0 3 = 0 <;> simp [md_tl, h1, h2, h3, h4, s2, s3, en_up]
      · by_cases h2 : g 21 0 3 = 0
        · simp [md_tl, h1, h2, h4, s2, en_up]
        · by_cases h3 : g 17 0 3 = 0 <;> simp [md_tl, h1, h2, h3, h4, s2, s3, en_up]
  · by_cases h1 : g 21 0 4 = 0
    · by_cases h2 : g 21 0 5 = 0
      · simp [md_tl, h1, h2]
      · by_cases h3 : g 17 0 5 = 0 <;> simp [md_tl, h1, h2, h3, s5]
    · by_cases h4 : g 17 0 4 = 0
      · by_cases h2 : g 21 0 5 = 0
        · simp [md_tl, h1, h2, h4, s4, en_up]
        · by_cases h3 : g 17 0 5 = 0 <;> simp [md_tl, h1, h2, h3, h4, s4, s5, en_up]
      · by_cases h2 : g 21 0 5 = 0
        · simp [md_tl, h1, h2, h4, s4, en_up]
        · by_cases h3 : g 17 0 5 = 0 <;> simp [md_tl, h1, h2, h3, h4, s4, s5, en_up]
theorem sr_tell (R : sr_SR f g) (oc : md_oc g ≤ 16) (hq : q < 6) : (cx_tell f q).1 = sr_tv (g 21 0 q) (g 17 0 q) ∧ sr_SR (cx_tell f q).2 (sr_tg g q) ∧ md_oc (sr_tg g q) = md_oc g := by
  have h := sr_SR_prs R q hq
  unfold cx_tell sr_tv sr_tg
  rw [sr_PR_ch h, sr_PR_kd h]
  by_cases h1 : g 21 0 q = 0
  · rw [if_pos h1, if_pos h1, if_pos h1]; exact ⟨rfl, R, rfl⟩
  · rw [if_neg h1, if_neg h1, if_neg h1]; exact ⟨rfl, sr_chg R oc hq (Or.inl rfl), oc_up (by omega)⟩
theorem sr_tg_k (h : ¬ k = 21) : sr_tg g q k i j = g k i j := by
  unfold sr_tg
  split
  · rfl
  · rw [up_n (by omega)]
theorem sr_tg_o (h : ¬ p = q) : sr_tg g q 21 0 p = g 21 0 p := by
  unfold sr_tg
  split
  · rfl
  · rw [up_n (by omega)]
theorem sr_tv_hb (c k c' k' : Int32) : sr_tv c k ||| sr_tv c' k' <<< ((2 : Int32) &&& 31) = 0 ∨ sr_hb (sr_tv c k ||| sr_tv c' k' <<< ((2 : Int32) &&& 31)) := by
  unfold sr_tv sr_hb
  by_cases h1 : c = 0
  · by_cases h2 : c' = 0
    · rw [if_pos h1, if_pos h2]; decide
    · by_cases h3 : k' = 0
      · rw [if_pos h1, if_neg h2, if_pos h3]; decide
      · rw [if_pos h1, if_neg h2, if_neg h3]; decide
  · by_cases h4 : k = 0
    · by_cases h2 : c' = 0
      · rw [if_neg h1, if_pos h2, if_pos h4]; decide
      · by_cases h3 : k' = 0
        · rw [if_neg h1, if_neg h2, if_pos h3, if_pos h4]; decide
        · rw [if_neg h1, if_neg h2, if_neg h3, if_pos h4]; decide
    · by_cases h2 : c' = 0
      · rw [if_neg h1, if_pos h2, if_neg h4]; decide
      · by_cases h3 : k' = 0
        · rw [if_neg h1, if_neg h2, if_pos h3, if_neg h4]; decide
        · rw [if_neg h1, if_neg h2, if_neg h3, if_neg h4]; decide
theorem sr_mkH (R : sr_SR f g) (oc : md_oc g ≤ 16) (hp : p < 6) (h3 : ¬ g 36 0 p = 2) (hk : g 17 0 p = 3) (hn : ¬ g 38 0 p = 1) : sr_SR (cx_mk f p) (md_mk g p) := by
  have h := sr_SR_prs R p hp
  unfold cx_mk md_mk
  rw [sr_PR_kd h, hk, if_neg (show ¬ (3 : Int32) = 2 by decide), if_neg (show ¬ (3 : Int32) = 1 by decide), if_neg (show ¬ (3 : Int32) = 1 by decide), if_neg (show ¬ (3 : Int32) = 2 by decide)]
  by_cases h2 : p < 2
  · rw [if_pos h2, if_pos (show (3 : Int32) = 3 ∧ p < 2 from ⟨rfl, h2⟩)]
    unfold md_tells
    rw [md_tl_e h2]
    obtain ⟨e1, R1, o1⟩ := sr_tell (q := 2 * p + 2) R oc (by omega)
    obtain ⟨e2, R2, o2⟩ := sr_tell (q := 2 * p + 3) R1 (by omega) (by omega)
    rw [e1, e2, sr_tg_o (show ¬ 2 * p + 3 = 2 * p + 2 by omega), sr_tg_k (show ¬ (17 : Nat) = 21 by omega)]
    dsimp only
    rcases sr_tv_hb (g 21 0 (2 * p + 2)) (g 17 0 (2 * p + 2)) (g 21 0 (2 * p + 3)) (g 17 0 (2 * p + 3)) with z | z
    · rw [if_pos z, if_pos z]
      exact R2
    · by_cases z0 : sr_tv (g 21 0 (2 * p + 2)) (g 17 0 (2 * p + 2)) ||| sr_tv (g 21 0 (2 * p + 3)) (g 17 0 (2 * p + 3)) <<< ((2 : Int32) &&& 31) = 0
      · rw [if_pos z0, if_pos z0]
        exact R2
      · rw [if_neg z0, if_neg z0]
        have t36 : sr_tg (sr_tg g (2 * p + 2)) (2 * p + 3) 36 0 p = g 36 0 p := by rw [sr_tg_k (by omega), sr_tg_k (by omega)]
        have t38 : sr_tg (sr_tg g (2 * p + 2)) (2 * p + 3) 38 0 p = g 38 0 p := by rw [sr_tg_k (by omega), sr_tg_k (by omega)]
        refine sr_SR_of1 (p := p) (sr_hold (sr_SX_of R2) (by omega) hp (by rw [t36]; exact h3) (fun _ => z)) ?_
        rw [up_n (by omega), up_n (by omega), t38]
        exact hn
  · rw [if_neg h2, if_neg (fun z => h2 z.2)]
    exact R
/-- a packet is made, by keys or a hub -/
theorem sr_mkP (R : sr_SR f g) (oc : md_oc g ≤ 16) (hp : p < 6) (ho : ¬ g 20 0 p = 0) (h3 : ¬ g 36 0 p = 2) (hk : g 17 0 p = 2 ∨ g 17 0 p = 3) (hn : ¬ g 38 0 p = 1) (hc : md_cok g p) : sr_SR (cx_in2 f p) (md_in2 g p) := by
  have h := sr_SR_prs R p hp
  have D := sr_PR_od h ho
  unfold cx_in2 md_in2
  rw [sr_OD_hd D]
  by_cases z : g 28 0 p = 0
  · rw [if_pos z, if_pos z]
    rcases hk with e | e
    · unfold cx_mk md_mk
      rw [sr_PR_kd h, e, if_pos rfl, if_neg (by decide), if_pos rfl]
      have ecn : cx_cn f p = md_cc g p := by unfold cx_cn md_cc; rw [sr_PR_cc h]
      rw [ecn]
      refine sr_SR_of1 (p := p) (sr_mkC (sr_SX_of R) oc hp h3 e hc.1) ?_
      rw [md_hold1_k (by omega) (by omega) (by omega) (by omega)]
      exact hn
    · exact sr_mkH R oc hp h3 e hn
  · rw [if_neg z, if_neg z]
    exact R
end Sr10
