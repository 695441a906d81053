/-! THE TWO STATES SIDE BY SIDE, 15: orders are served; a frame; a run -/
section Sr15
variable {p k n m q i j s c : Nat} {f g f' g' F G : en_F} {v w a b x r e : Int32}
/-- what the step that was just made leaves to be said -/
def sr_Got (F G : en_F) (p k s c : Nat) (v r : Int32) : Prop := (sr_SX F G p ∧ sr_rc v r) ∧ (p < 6 ∧ md_oc G ≤ 16 ∧ k < md_oc G ∧ G 36 0 p = 3 ∧ G 38 0 p = 1) ∧ (sr_hand G p = some k ∧ G 49 0 k = nI p ∧ G 54 0 k = 0) ∧ (G 55 0 k = nI s ∧ G 52 0 k = nI c ∧ s ≤ c + 1 ∧ 1 ≤ c ∧ c ≤ 4) ∧ F 3 p 8 = nI s ∧ md_oe G k ∧ (¬ G 20 0 p = 0 → ¬ G 17 0 p = 0 → sr_Aft G p (G 50 0 k) s c r)
theorem sr_Aft_o (hg : ∀ k, sr_dk k → g' k 0 p = g k 0 p) (h : sr_Aft g p w s c r) : sr_Aft g' p w s c r := by
  obtain ⟨y1, y2, y3, y4⟩ := h
  have uI : sr_I g' p = sr_I g p := by unfold sr_I; rw [hg 42 (by omega), hg 25 (by omega)]
  have uH : sr_H g' p = sr_H g p := by unfold sr_H; rw [hg 28 (by omega)]
  have uE : sr_E g' p = sr_E g p := by unfold sr_E; rw [hg 43 (by omega), hg 26 (by omega)]
  unfold sr_Aft
  rw [uI, uH, uE, hg 30 (by omega)]
  exact ⟨y1, fun z => sr_IVs_o hg (y2 z), fun z1 z2 => sr_IVs_o hg (y3 z1 z2), y4⟩
theorem sr_others (X : sr_SX F G p) (oc : md_oc G ≤ 16) (hp : p < 6) (hh : sr_hand G p = some k) : ∀ j, j < md_oc G → ¬ j = k → G 49 0 j = nI p → G 54 0 j = 0 → G 55 0 j = 0 := by
  intro j hj hne h49 h54
  obtain ⟨r, hr, y1, -, -, y4⟩ := sr_OR_lv (sr_SX_ors X j (by omega)) hj h54
  rcases y4 with y | y
  · exact y
  · rw [h49] at y1
    have := (nI_eq (by omega) (by omega)).mp y1
    subst this
    rw [hh] at y
    exact absurd (Option.some.inj y).symm hne
theorem sr_go_iff {u w : Int32} (hs : s < 100) (hc : c < 100) (h4 : f 8 k 4 = nI c) (h5 : f 8 k 5 = w) : cx_go f k (nI s) ↔ s = 0 ∨ (¬ w = 0 ∧ s ≤ c) := by
  unfold cx_go
  rw [h4, h5, show (0 : Int32) = nI 0 from rfl, nI_eq (by omega) (by omega), nI_ltI (by omega) (by omega)]
  constructor
  · rintro (z | z)
    · exact Or.inl z
    · exact Or.inr ⟨z.1, by omega⟩
  · rintro (z | z)
    · exact Or.inl z
    · exact Or.inr ⟨z.1, by omega⟩
theorem sr_dat_iff (hs : s < 100) (hc : c < 100) (h5 : g 55 0 k = nI s) (h2 : g 52 0 k = nI c) : md_dat g k ↔ 1 ≤ s ∧ s ≤ c := by
  unfold md_dat
  rw [h5, h2, show (0 : Int32) = nI 0 from rfl, nI_ltI (by omega) (by omega), nI_ltI (by omega) (by omega)]
  omega
theorem md_give_k {cf : Int32} {a : Nat} (h : (17 ≤ a ∧ a < 21) ∨ (36 ≤ a ∧ a < 42)) : (md_give g p n cf v).2 a i j = g a i j := by
  unfold md_give
  split
  · dsimp only; rw [md_t1_z (by omega) (by omega)]
  · split
    · dsimp only; rw [md_t1_z (by omega) (by omega)]
    · split
      · dsimp only; rw [md_gv_i (by omega) (by omega) (by omega) (by omega) (by omega) (by omega), md_t1_z (by omega) (by omega)]
      · split
        · dsimp only; rw [up_n (by omega), md_gv_i (by omega) (by omega) (by omega) (by omega) (by omega) (by omega), md_t1_z (by omega) (by omega)]
        · dsimp only; rw [md_gv_i (by omega) (by omega) (by omega) (by omega) (by omega) (by omega), md_t1_z (by omega) (by omega)]
def cx_svp (f : en_F) (p k : Nat) : Int32 × en_F := if cx_go f k (f 3 p 8) then cx_out f p (cx_packetAt f k (f 3 p 8)) else cx_in f p
theorem sr_svp (A : sr_At f g p k s c) : sr_Got (cx_svp f p k).2 (md_sv1 g p k).2 p k s c (cx_svp f p k).1 (md_sv1 g p k).1 := by
  have A' := A
  obtain ⟨⟨R, ok, hn⟩, ⟨hp, hko, h3, h1⟩, ⟨hh, h49, h54⟩, ⟨e55, e52, hs1, hc1, hc4⟩, e8, hV⟩ := A'
  have oc : md_oc g ≤ 16 := ok.1.1
  have ol := sr_OR_ol (sr_SR_ors R k (by omega)) hko
  have hgo := sr_go_iff (f := f) (k := k) (u := 0) (s := s) (c := c) (w := g 50 0 k) (by omega) (by omega) (by rw [ol.2.2.1]; exact e52) ol.2.2.2.1
  have hd := sr_dat_iff (g := g) (k := k) (s := s) (c := c) (by omega) (by omega) e55 e52
  have hhi : ∀ a i j, 44 ≤ a → a ≠ 60 → (md_sv1 g p k).2 a i j = g a i j := fun a i j z1 z2 => md_sv1_hi z1 z2
  have hoc : md_oc (md_sv1 g p k).2 = md_oc g := by unfold md_oc; rw [md_sv1_16 (by omega)]
  have key : (sr_SX (cx_svp f p k).2 (md_sv1 g p k).2 p ∧ sr_rc (cx_svp f p k).1 (md_sv1 g p k).1 ∧ (¬ g 20 0 p = 0 → ¬ g 17 0 p = 0 → sr_Aft (md_sv1 g p k).2 p (g 50 0 k) s c (md_sv1 g p k).1)) ∧ (cx_svp f p k).2 3 p 8 = nI s ∧ ∀ a, (17 ≤ a ∧ a < 21) ∨ (36 ≤ a ∧ a < 42) → (md_sv1 g p k).2 a 0 p = g a 0 p := by
    unfold cx_svp md_sv1
    rw [e8]
    by_cases hs : s = 0 ∨ (¬ g 50 0 k = 0 ∧ s ≤ c)
    · rw [if_pos (hgo.mpr hs)]
      have hc2 : g 55 0 k = 0 ∨ (md_dat g k ∧ ¬ g 50 0 k = 0) := by
        rcases Nat.eq_zero_or_pos s with z | z
        · left; rw [e55, z]; rfl
        · right
          rcases hs with y | y
          · omega
          · exact ⟨hd.mpr ⟨z, y.2⟩, y.1⟩
      rw [if_pos hc2]
      have S := sr_give A hs rfl
      rw [e8] at S
      refine ⟨S, ?_, fun a ha => ?_⟩
      · rw [cx_out_3]; exact e8
      · exact md_give_k ha
    · rw [if_neg (fun z => hs (hgo.mp z))]
      have hs0 : 1 ≤ s := by
        rcases Nat.eq_zero_or_pos s with z | z
        · exact absurd (Or.inl z) hs
        · exact z
      have hw : s ≤ c → g 50 0 k = 0 := fun z => Decidable.byContradiction (fun y => hs (Or.inr ⟨y, z⟩))
      have hc2 : ¬ (g 55 0 k = 0 ∨ (md_dat g k ∧ ¬ g 50 0 k = 0)) := by
        rintro (z | z)
        · rw [e55, show (0 : Int32) = nI 0 from rfl, nI_eq (by omega) (by omega)] at z
          omega
        · exact z.2 (hw (hd.mp z.1).2)
      rw [if_neg hc2]
      refine ⟨sr_ask A hs0 hw, ?_, fun a ha => md_in_k (by omega)⟩
      rw [cx_in_3]; exact e8
  obtain ⟨⟨k1, k2, k3⟩, k4, k5⟩ := key
  refine ⟨⟨k1, k2⟩, ⟨hp, by rw [hoc]; exact oc, by rw [hoc]; exact hko, by rw [k5 36 (by omega)]; exact h3, by rw [k5 38 (by omega)]; exact h1⟩, ⟨?_, ?_, ?_⟩, ⟨?_, ?_, hs1, hc1, hc4⟩, k4, ?_, ?_⟩
  · rw [← hh]
    exact sr_hand_o (fun j => hhi _ _ _ (by omega) (by omega)) (fun j => hhi _ _ _ (by omega) (by omega)) (md_sv1_16 (by omega))
  · rw [hhi _ _ _ (by omega) (by omega)]; exact h49
  · rw [hhi _ _ _ (by omega) (by omega)]; exact h54
  · rw [hhi _ _ _ (by omega) (by omega)]; exact e55
  · rw [hhi _ _ _ (by omega) (by omega)]; exact e52
  · exact md_oe_o (fun a i j z1 z2 => hhi a i j z1 z2) (ok.2.2.2.1 k hko h54)
  · rw [k5 20 (by omega), k5 17 (by omega), hhi 50 _ _ (by omega) (by omega)]
    exact k3
/-- no answer that carries the order on -/
theorem sr_Got_SR (A : sr_Got F G p k s c v r) (hr : ¬ r = 1) : sr_SR F G := by
  obtain ⟨⟨X, hc⟩, ⟨hp, oc, hko, h3, h1⟩, ⟨hh, h49, h54⟩, ⟨e55, e52, hs1, hc1, hc4⟩, e8, hoe, hV⟩ := A
  refine sr_SR_of X (fun _ _ => ⟨?_, fun o0 k0 => ?_⟩)
  · rw [e8]
    unfold sr_hst
    rw [hh]
    exact e55.symm
  · obtain ⟨y1, y2, -, -⟩ := hV o0 k0
    unfold sr_IV
    rw [hh]
    exact ⟨y1, s, c, e55, e52, hc1, hc4, y2 hr⟩
theorem nI_s1 : nI s + 1 = nI (s + 1) := by
  rw [show (1 : Int32) = nI 1 from rfl, nI_add]
/-- the order goes on, or is done -/
theorem sr_on (X : sr_SX F G p) (hp : p < 6) (oc : md_oc G ≤ 16) (hko : k < md_oc G) (h3 : G 36 0 p = 3) (h1 : G 38 0 p = 1) (hh : sr_hand G p = some k) (h49 : G 49 0 k = nI p) (h54 : G 54 0 k = 0) (e55 : G 55 0 k = nI s) (e52 : G 52 0 k = nI c) (hs1 : s ≤ c + 1) (hc1 : 1 ≤ c) (hc4 : c ≤ 4) (e8 : F 3 p 8 = nI s) (hoe : md_oe G k) (hV : ¬ G 20 0 p = 0 → ¬ G 17 0 p = 0 → sr_Aft G p (G 50 0 k) s c 1) : sr_SR (cx_goO F p k) (md_sv3 G k (nI s) (if md_dat G k then 1 else 0)) := by
  have hot := sr_others X oc hp hh
  have O := sr_SX_ors X k (by omega)
  have ol := sr_OR_ol O hko
  have hgo := sr_go_iff (f := F) (k := k) (u := 0) (s := s) (c := c) (w := G 50 0 k) (by omega) (by omega) (by rw [ol.2.2.1]; exact e52) ol.2.2.2.1
  have hd := sr_dat_iff (g := G) (k := k) (s := s) (c := c) (by omega) (by omega) e55 e52
  have n2 : ¬ G 36 0 p = 2 := by rw [h3]; decide
  have h7 : F 8 k 7 = 0 := by rw [ol.2.2.2.2.2]; exact h54
  have hO : ∀ F' G' : en_F, (∀ j, 2 ≤ j → j ≤ 7 → F' 8 k j = F 8 k j) → F' 8 k 1 = G' 56 0 k → (∀ i, i < 4 → F' 9 k i = G' 57 0 (4 * k + i)) → (∀ a, 49 ≤ a → a ≤ 54 → G' a 0 k = G a 0 k) → G' 16 0 31 = G 16 0 31 → G' 36 0 p = 3 → G' 38 0 p = 1 → s ≤ c → G' 55 0 k = nI (s + 1) → sr_hand G' p = some k → sr_OR F' G' k := by
    intro F' G' a1 a2 a3 a4 a5 a6 a7 a8 a9 a10
    have hoc : md_oc G' = md_oc G := by unfold md_oc; rw [a5]
    refine sr_OR_mk (fun _ => ?_) a2 a3 (fun z => ?_) (fun _ _ => ⟨p, hp, by rw [a4 49 (by omega) (by omega)]; exact h49, a6, a7, Or.inr a10⟩) (fun _ _ => ⟨s + 1, c, a9, by rw [a4 52 (by omega) (by omega)]; exact e52, by omega, hc1, hc4⟩)
    · rw [a1 2 (by omega) (by omega), a1 3 (by omega) (by omega), a1 4 (by omega) (by omega), a1 5 (by omega) (by omega), a1 6 (by omega) (by omega), a1 7 (by omega) (by omega), a4 49 (by omega) (by omega), a4 50 (by omega) (by omega), a4 51 (by omega) (by omega), a4 52 (by omega) (by omega), a4 53 (by omega) (by omega), a4 54 (by omega) (by omega)]
      exact ol
    · rw [hoc] at z; omega
  have hDP : ∀ F' G' : en_F, (∀ a, sr_dk a → G' a 0 p = G a 0 p) → F' 3 p 8 = nI (s + 1) → G' 55 0 k = nI (s + 1) → G' 52 0 k = nI c → G' 50 0 k = G 50 0 k → sr_hand G' p = some k → s ≤ c → sr_DP F' G' p := by
    intro F' G' a1 a2 a3 a4 a5 a6 a7 _ _
    refine ⟨?_, fun o0 k0 => ?_⟩
    · unfold sr_hst; rw [a6, a2]; exact a3.symm
    · rw [a1 20 (by omega)] at o0
      rw [a1 17 (by omega)] at k0
      obtain ⟨y1, -, y3, -⟩ := hV o0 k0
      unfold sr_IV
      rw [a6]
      refine ⟨?_, s + 1, c, a3, a4, hc1, hc4, ?_⟩
      · unfold sr_I sr_H
        rw [a1 42 (by omega), a1 25 (by omega), a1 28 (by omega)]
        exact y1
      · rw [a5]
        exact sr_IVs_o a1 (y3 rfl a7)
  unfold cx_goO md_sv3
  rw [e8]
  by_cases hsc : s = c + 1
  · have hlt : nI c < nI s := (nI_ltI (by omega) (by omega)).mpr (by omega)
    rw [if_pos (show F 8 k 4 < nI s by rw [ol.2.2.1, e52]; exact hlt), if_pos (show G 52 0 k < nI s by rw [e52]; exact hlt)]
    have nd : ¬ md_dat G k := fun z => by have := (hd.mp z).2; omega
    rw [if_neg nd, if_neg (fun z => z.1 rfl)]
    have eE : cx_end F k 1 = en_up F 8 k 7 1 := by
      unfold cx_end
      rw [if_pos h7]
    rw [eE]
    have e54' : en_up (en_up G 55 0 k (G 55 0 k + 1)) 54 0 k 1 54 0 k = 1 := up_s
    have hg' : ∀ a j, ¬ ((a = 54 ∨ a = 55 ∨ a = 56) ∧ j = k) → ¬ (a = 57 ∧ 4 * k ≤ j ∧ j < 4 * k + 4) → en_up (en_up G 55 0 k (G 55 0 k + 1)) 54 0 k 1 a 0 j = G a 0 j := fun a j z1 _ => by rw [up_n (by omega), up_n (by omega)]
    refine sr_ord (p := p) (k := k) X oc hp hko h49 hot (fun a i j z1 z2 => by rw [up_n (by omega), up_n (by omega)]) hg' n2 ?_ ?_
    · refine sr_OR_mk (fun _ => ?_) ?_ (fun i hi => ?_) (fun z => ?_) (fun _ z => ?_) (fun _ z => ?_)
      · refine ⟨?_, ?_, ?_, ?_, ?_, ?_⟩
        · rw [up_n (by omega), up_n (by omega), hg' 49 k (by omega) (by omega)]; exact ol.1
        · rw [up_n (by omega), up_n (by omega), hg' 51 k (by omega) (by omega)]; exact ol.2.1
        · rw [up_n (by omega), up_n (by omega), hg' 52 k (by omega) (by omega)]; exact ol.2.2.1
        · rw [up_n (by omega), up_n (by omega), hg' 50 k (by omega) (by omega)]; exact ol.2.2.2.1
        · rw [up_n (by omega), up_n (by omega), hg' 53 k (by omega) (by omega)]; exact ol.2.2.2.2.1
        · rw [e54', up_n (by omega), up_s]
      · rw [up_n (by omega), up_n (by omega), up_n (by omega), up_n (by omega)]; exact sr_OR_tk O
      · rw [up_n (by omega), up_n (by omega), up_n (by omega), up_n (by omega)]; exact sr_OR_nn O i hi
      · rw [oc_up (by omega), oc_up (by omega)] at z; omega
      · rw [e54'] at z; exact absurd z (by decide)
      · rw [e54'] at z; exact absurd z (by decide)
    · intro _ _
      have hnew : ∀ k', sr_hand (en_up (en_up G 55 0 k (G 55 0 k + 1)) 54 0 k 1) p = some k' → ¬ k' = k ∧ k' < md_oc G ∧ G 54 0 k' = 0 ∧ G 55 0 k' = 0 := by
        intro k' hk'
        have z := cx_fo_lt hk'
        have z3 := z.2.2
        unfold md_ohp at z3
        have z4 := of_decide_eq_true z3
        have zo : k' < md_oc G := by
          have := z.2.1
          rw [oc_up (by omega), oc_up (by omega)] at this
          omega
        have zk : ¬ k' = k := fun y => by
          rw [y, e54'] at z4
          exact absurd z4.2 (by decide)
        rw [hg' 49 k' (by omega) (by omega), hg' 54 k' (by omega) (by omega)] at z4
        exact ⟨zk, zo, z4.2, hot k' zo zk z4.1 z4.2⟩
      refine ⟨?_, fun o0 k0 => ?_⟩
      · rw [up_s]
        unfold sr_hst
        cases hk' : sr_hand (en_up (en_up G 55 0 k (G 55 0 k + 1)) 54 0 k 1) p with
        | none => rfl
        | some k' =>
          obtain ⟨y1, y2, y3, y4⟩ := hnew k' hk'
          dsimp only
          rw [hg' 55 k' (by omega) (by omega)]
          exact y4.symm
      · rw [hg' 20 p (by omega) (by omega)] at o0
        rw [hg' 17 p (by omega) (by omega)] at k0
        obtain ⟨y1, -, -, y4⟩ := hV o0 k0
        obtain ⟨y5, y6, y7⟩ := y4 rfl hsc
        have uI : sr_I (en_up (en_up G 55 0 k (G 55 0 k + 1)) 54 0 k 1) p = sr_I G p := by unfold sr_I; rw [hg' 42 p (by omega) (by omega), hg' 25 p (by omega) (by omega)]
        have uH : sr_H (en_up (en_up G 55 0 k (G 55 0 k + 1)) 54 0 k 1) p = sr_H G p := by unfold sr_H; rw [hg' 28 p (by omega) (by omega)]
        have uE : sr_E (en_up (en_up G 55 0 k (G 55 0 k + 1)) 54 0 k 1) p = sr_E G p := by unfold sr_E; rw [hg' 43 p (by omega) (by omega), hg' 26 p (by omega) (by omega)]
        have u30 := hg' 30 p (by omega) (by omega)
        unfold sr_IV
        rw [uI, uH]
        refine ⟨y1, ?_⟩
        cases hk' : sr_hand (en_up (en_up G 55 0 k (G 55 0 k + 1)) 54 0 k 1) p with
        | none =>
          dsimp only
          rw [uE, u30]
          exact ⟨y5, y6, y7⟩
        | some k' =>
          obtain ⟨x1, x2, x3, x4⟩ := hnew k' hk'
          obtain ⟨s', c', t1, t2, t3, t4, t5⟩ := sr_OR_sc (sr_SX_ors X k' (by omega)) x2 x3
          dsimp only
          refine ⟨0, c', by rw [hg' 55 k' (by omega) (by omega)]; exact x4, by rw [hg' 52 k' (by omega) (by omega)]; exact t2, t4, t5, Or.inl ⟨rfl, ?_, Or.inl ⟨?_, ?_⟩⟩⟩
          · rw [uI, uH]; exact y7
          · rw [uE]; exact y5
          · rw [u30]; exact y6
  · have hsc' : s ≤ c := by omega
    have hnl : ¬ nI c < nI s := fun z => by have := (nI_ltI (by omega) (by omega)).mp z; omega
    rw [if_neg (show ¬ F 8 k 4 < nI s by rw [ol.2.2.1, e52]; exact hnl), if_neg (show ¬ G 52 0 k < nI s by rw [e52]; exact hnl)]
    by_cases hs : s = 0 ∨ (¬ G 50 0 k = 0 ∧ s ≤ c)
    · rw [if_pos (hgo.mpr hs)]
      have ne : ¬ (¬ (if md_dat G k then (1 : Int32) else 0) = 0 ∧ G 50 0 k = 0) := by
        rintro ⟨z1, z2⟩
        rcases hs with y | y
        · rw [if_neg (fun z => by have := (hd.mp z).1; omega)] at z1
          exact z1 rfl
        · exact y.1 z2
      rw [if_neg ne, e55, nI_s1]
      have hhd : sr_hand (en_up G 55 0 k (nI (s + 1))) p = some k := by
        rw [← hh]
        exact sr_hand_o (fun j => up_n (by omega)) (fun j => up_n (by omega)) (up_n (by omega))
      refine sr_ord (p := p) (k := k) X oc hp hko h49 hot (fun a i j z1 z2 => up_n (by omega)) (fun a j z1 _ => up_n (by omega)) n2 ?_ ?_
      · refine hO _ _ (fun j _ _ => up_n (by omega)) ?_ (fun i hi => ?_) (fun a _ _ => up_n (by omega)) (up_n (by omega)) (by rw [up_n (by omega)]; exact h3) (by rw [up_n (by omega)]; exact h1) hsc' up_s hhd
        · rw [up_n (by omega), up_n (by omega)]; exact sr_OR_tk O
        · rw [up_n (by omega), up_n (by omega)]; exact sr_OR_nn O i hi
      · exact hDP _ _ (fun a ha => by unfold sr_dk at ha; exact up_n (by omega)) up_s up_s (by rw [up_n (by omega)]; exact e52) (up_n (by omega)) hhd hsc'
    · rw [if_neg (fun z => hs (hgo.mp z))]
      have hs0 : 1 ≤ s := by
        rcases Nat.eq_zero_or_pos s with z | z
        · exact absurd (Or.inl z) hs
        · exact z
      have hw : G 50 0 k = 0 := Decidable.byContradiction (fun y => hs (Or.inr ⟨y, hsc'⟩))
      have hdd : md_dat G k := hd.mpr ⟨hs0, hsc'⟩
      rw [if_pos hdd, if_pos ⟨(by decide : ¬ (1 : Int32) = 0), hw⟩]
      obtain ⟨t, ht4, t56, t55⟩ := md_oe_t hoe hdd hw
      have hst : s = t + 1 := by
        rw [e55] at t55
        exact (nI_eq (by omega) (by omega)).mp t55
      have hcl : (nI t).toNatClampNeg = t := nI_clamp (by omega)
      have f1 : F 8 k 1 = nI t := by rw [sr_OR_tk O]; exact t56
      have eK : cx_keep F k (F 0 0 7) = en_up (en_up F 9 k t (F 0 0 7)) 8 k 1 (nI (t + 1)) := by
        unfold cx_keep
        rw [f1, if_pos (show nI t < 4 from (nI_ltI (a := t) (b := 4) (by omega) (by omega)).mpr ht4), hcl, nI_s1]
      rw [eK, e55, nI_s1, t56, hcl, nI_s1, sr_GR_hp (sr_SX_gr X)]
      have hhd : sr_hand (en_up (en_up (en_up G 57 0 (4 * k + t) (G 16 0 46)) 56 0 k (nI (t + 1))) 55 0 k (nI (s + 1))) p = some k := by
        rw [← hh]
        exact sr_hand_o (fun j => by rw [up_n (by omega), up_n (by omega), up_n (by omega)]) (fun j => by rw [up_n (by omega), up_n (by omega), up_n (by omega)]) (by rw [up_n (by omega), up_n (by omega), up_n (by omega)])
      refine sr_ord (p := p) (k := k) X oc hp hko h49 hot (fun a i j z1 z2 => by rw [up_n (by omega), up_n (by omega), up_n (by omega)]) (fun a j z1 _ => by rw [up_n (by omega), up_n (by omega), up_n (by omega)]) n2 ?_ ?_
      · refine hO _ _ (fun j _ _ => by rw [up_n (by omega), up_n (by omega), up_n (by omega)]) ?_ (fun i hi => ?_) (fun a _ _ => by rw [up_n (by omega), up_n (by omega), up_n (by omega)]) (by rw [up_n (by omega), up_n (by omega), up_n (by omega)]) (by rw [up_n (by omega), up_n (by omega), up_n (by omega)]; exact h3) (by rw [up_n (by omega), up_n (by omega), up_n (by omega)]; exact h1) hsc' up_s hhd
        · rw [up_n (by omega), up_s, up_n (by omega), up_s]
        · rw [up_n (by omega), up_n (by omega), up_n (show ¬ (57 = 55 ∧ 0 = 0 ∧ 4 * k + i = k) by omega), up_n (show ¬ (57 = 56 ∧ 0 = 0 ∧ 4 * k + i = k) by omega)]
          by_cases ei : i = t
          · subst ei; rw [up_s, up_s]
          · rw [up_n (by omega), up_n (by omega)]; exact sr_OR_nn O i hi
      · exact hDP _ _ (fun a ha => by unfold sr_dk at ha; rw [up_n (by omega), up_n (by omega), up_n (by omega)]) up_s up_s (by rw [up_n (by omega), up_n (by omega), up_n (by omega)]; exact e52) (by rw [up_n (by omega), up_n (by omega), up_n (by omega)]) hhd hsc'
theorem sr_sv2 (A : sr_Got F G p k s c v r) : sr_SR (cx_sv2 (cx_cfo F p v) p k v) (md_sv2 G p k (nI s) (if md_dat G k then 1 else 0) r) := by
  have A' := A
  obtain ⟨⟨X, hc⟩, ⟨hp, oc, hko, h3, h1⟩, ⟨hh, h49, h54⟩, ⟨e55, e52, hs1, hc1, hc4⟩, e8, hoe, hV⟩ := A'
  have P := sr_SX_prs X p hp
  have hf := sr_PR_fl P (Or.inr h3)
  unfold cx_sv2 md_sv2
  by_cases h0 : v = 0
  · have hw : r = -2 := by
      rcases hc with z | z | z | z
      · exact z.2
      · exact absurd (h0.symm.trans z.1) (by decide)
      · exact absurd (h0.symm.trans z.1) (by decide)
      · exact absurd (h0.symm.trans z.1) (by decide)
    subst h0 hw
    have R := sr_Got_SR A (by decide)
    rw [cx_cfo_0, up_s, sr_PR_fa P, if_pos rfl]
    rcases sr_f3s hf with ⟨-, z1, z2⟩ | ⟨z1, z2, z3⟩
    · rw [if_neg z2, if_neg z2]
      exact sr_detF2 R oc hp hko h1 h49 h54
    · rw [if_pos z2, if_pos z2, if_neg (by decide)]
      exact sr_flt R oc hp (fun _ => z3)
  · have hw : ¬ r = -2 := by
      rcases hc with z | z | z | z
      · exact absurd z.1 h0
      · rw [z.2]; decide
      · rw [z.2]; decide
      · rw [z.2]; decide
    rw [cx_cfo_1 h0, up_s, if_neg hw, if_pos (show (0 : Int32) < 3 by decide)]
    by_cases hr : r = 1
    · have hv : v = 3 := by
        rcases hc with z | z | z | z
        · exact absurd z.1 h0
        · exact absurd (hr.symm.trans z.2) (by decide)
        · exact absurd (hr.symm.trans z.2) (by decide)
        · exact z.1
      rw [if_pos hv, if_pos hr]
      have Y := sr_fltX (x := 0) X oc hp (fun _ => Or.inl rfl)
      have hhd : sr_hand (en_up G 44 0 p 0) p = some k := by
        rw [← hh]
        exact sr_hand_o (fun j => up_n (by omega)) (fun j => up_n (by omega)) (up_n (by omega))
      have ed : md_dat (en_up G 44 0 p 0) k ↔ md_dat G k := by
        unfold md_dat
        rw [up_n (by omega), up_n (by omega)]
      have S := sr_on (s := s) (c := c) Y hp (by rw [oc_up (by omega)]; exact oc) (by rw [oc_up (by omega)]; exact hko) (by rw [up_n (by omega)]; exact h3) (by rw [up_n (by omega)]; exact h1) hhd (by rw [up_n (by omega)]; exact h49) (by rw [up_n (by omega)]; exact h54) (by rw [up_n (by omega)]; exact e55) (by rw [up_n (by omega)]; exact e52) hs1 hc1 hc4 (by rw [up_n (by omega)]; exact e8) (by
        obtain ⟨b', c', t', q1, q2, q3, q4, q5, q6, q7, q8⟩ := hoe
        refine ⟨b', c', t', ?_, ?_, q3, q4, q5, ?_, q7, ?_⟩
        · rw [up_n (by omega)]; exact q1
        · rw [up_n (by omega)]; exact q2
        · rw [up_n (by omega)]; exact q6
        · rw [up_n (by omega), up_n (by omega)]; exact q8) (by
        rw [up_n (by omega), up_n (by omega), up_n (by omega)]
        intro o0 k0
        have := hV o0 k0
        rw [hr] at this
        exact sr_Aft_o (fun a ha => by unfold sr_dk at ha; exact up_n (by omega)) this)
      have hif : (if md_dat (en_up G 44 0 p 0) k then (1 : Int32) else 0) = if md_dat G k then 1 else 0 := by
        by_cases z : md_dat G k
        · rw [if_pos z, if_pos (ed.mpr z)]
        · rw [if_neg z, if_neg (fun y => z (ed.mp y))]
      rw [hif] at S
      exact S
    · have hv : ¬ v = 3 := by
        rcases hc with z | z | z | z
        · exact absurd z.1 h0
        · rw [z.1]; decide
        · rw [z.1]; decide
        · exact absurd z.2 hr
      rw [if_neg hv, if_neg hr]
      exact sr_flt (sr_Got_SR A hr) oc hp (fun _ => Or.inl rfl)
/-- whose turn it is -/
theorem sr_srv (R : sr_SR f g) : sr_SR (en_up f 0 0 6 x) (en_up g 16 0 29 x) := by
  have Gr := sr_SR_gr R
  refine sr_glob R (fun k i j z => up_n (by omega)) (fun k j z => up_n (by omega)) (sr_GR_mk ?_ ?_ ?_ ?_ ?_ ?_ ?_ ?_ ?_ ?_ ?_)
  · rw [up_n (by omega), up_n (by omega)]; exact sr_GR_oc Gr
  · rw [up_n (by omega), up_n (by omega)]; exact sr_GR_fr Gr
  · rw [up_s, up_s]
  · rw [up_n (by omega), up_n (by omega)]; exact sr_GR_hp Gr
  · rw [up_n (by omega), up_n (by omega)]; exact sr_GR_tr Gr
  · rw [up_n (by omega), up_n (by omega)]; exact sr_GR_ky Gr
  · rw [up_n (by omega), up_n (by omega)]; exact sr_GR_kx Gr
  · intro i hi; rw [up_n (by omega), up_n (by omega)]; exact sr_GR_la Gr i hi
  · exact sr_LS_o (fun j => up_n (by omega)) (up_n (by omega)) (fun j => up_n (by omega)) (up_n (by omega)) (sr_GR_ls Gr)
  · intro p h6 i hi; rw [up_n (by omega), up_n (by omega)]; exact sr_GR_ct Gr p h6 i hi
  · intro p h6 i hi; rw [up_n (by omega), up_n (by omega)]; exact sr_GR_cd Gr p h6 i hi
theorem sr_tick (R : sr_SR f g) : sr_SR (en_up f 0 0 5 (f 0 0 5 + 1)) (en_up g 16 0 30 (g 16 0 30 + 1)) := by
  have Gr := sr_SR_gr R
  refine sr_glob R (fun k i j z => up_n (by omega)) (fun k j z => up_n (by omega)) (sr_GR_mk ?_ ?_ ?_ ?_ ?_ ?_ ?_ ?_ ?_ ?_ ?_)
  · rw [up_n (by omega), up_n (by omega)]; exact sr_GR_oc Gr
  · rw [up_s, up_s, sr_GR_fr Gr]
  · rw [up_n (by omega), up_n (by omega)]; exact sr_GR_sl Gr
  · rw [up_n (by omega), up_n (by omega)]; exact sr_GR_hp Gr
  · rw [up_n (by omega), up_n (by omega)]; exact sr_GR_tr Gr
  · rw [up_n (by omega), up_n (by omega)]; exact sr_GR_ky Gr
  · rw [up_n (by omega), up_n (by omega)]; exact sr_GR_kx Gr
  · intro i hi; rw [up_n (by omega), up_n (by omega)]; exact sr_GR_la Gr i hi
  · exact sr_LS_o (fun j => up_n (by omega)) (up_n (by omega)) (fun j => up_n (by omega)) (up_n (by omega)) (sr_GR_ls Gr)
  · intro p h6 i hi; rw [up_n (by omega), up_n (by omega)]; exact sr_GR_ct Gr p h6 i hi
  · intro p h6 i hi; rw [up_n (by omega), up_n (by omega)]; exact sr_GR_cd Gr p h6 i hi
theorem sr_ohpE (R : sr_SR f g) (oc : md_oc g ≤ 16) (hk : k < md_oc g) : cx_ohp f v k = md_ohp g v k := by
  have ol := sr_OR_ol (sr_SR_ors R k (by omega)) hk
  unfold cx_ohp md_ohp
  rw [ol.1, ol.2.2.2.2.2]
theorem sr_no (R : sr_SR f g) (oc : md_oc g ≤ 16) (z : Nat) : ∀ m i, cx_no f z (md_oc g) m i = (md_trn g z (md_oc g) m i).map Prod.snd := by
  intro m
  induction m with
  | zero => intro i; rfl
  | succ m ih =>
    intro i
    have hr : (z + i) % 6 < 6 := Nat.mod_lt _ (by omega)
    have P := sr_SR_prs R _ hr
    have hfo : cx_fo (cx_ohp f (nI ((z + i) % 6))) (md_oc g) 0 = cx_fo (md_ohp g (nI ((z + i) % 6))) (md_oc g) 0 := cx_fo_c _ _ (fun j _ hj => sr_ohpE R oc (by omega))
    unfold cx_no md_trn
    rw [sr_PR_vw P, sr_PR_kn P, hfo, ih (i + 1)]
    by_cases h : g 36 0 ((z + i) % 6) = 3 ∧ g 38 0 ((z + i) % 6) = 1
    · rw [if_pos h, if_pos h]
      cases cx_fo (md_ohp g (nI ((z + i) % 6))) (md_oc g) 0 <;> rfl
    · rw [if_neg h, if_neg h]
theorem md_trn_3 {g : en_F} {s n : Nat} : ∀ {m i p k : Nat}, md_trn g s n m i = some (p, k) → g 36 0 p = 3 ∧ g 38 0 p = 1 := by
  intro m
  induction m with
  | zero => intro i p k h; cases h
  | succ m ih =>
    intro i p k h
    unfold md_trn at h
    by_cases z : g 36 0 ((s + i) % 6) = 3 ∧ g 38 0 ((s + i) % 6) = 1
    · rw [if_pos z] at h
      cases hc : cx_fo (md_ohp g (nI ((s + i) % 6))) n 0 with
      | none =>
        rw [hc] at h
        exact ih h
      | some k' =>
        rw [hc] at h
        have e := congrArg Prod.fst (Option.some.inj h)
        dsimp only at e
        rw [← e]
        exact z
    · rw [if_neg z] at h
      exact ih h
theorem sr_sd : ∀ (m : Nat) (u : Int32) (f g : en_F), sr_SR f g → md_OK g → cx_OK f → sr_SR (cx_sd m u f) (md_sd m u g) := by
  intro m
  induction m with
  | zero => intro u f g R _ _; exact R
  | succ m ih =>
    intro u f g R okg okf
    have oc : md_oc g ≤ 16 := okg.1.1
    have e1 : cx_nxo f = (md_turn g).map Prod.snd := by
      unfold cx_nxo md_turn
      have : cx_sl f = md_sl g := by unfold cx_sl md_sl; rw [sr_GR_sl (sr_SR_gr R)]
      rw [this, sr_oc R]
      exact sr_no R oc _ 6 1
    unfold cx_sd md_sd
    by_cases hu : u < 8
    · rw [if_pos hu, if_pos hu]; exact R
    · rw [if_neg hu, if_neg hu, e1]
      cases ht : md_turn g with
      | none => exact R
      | some pk =>
        obtain ⟨p, k⟩ := pk
        obtain ⟨hp, hk, hfo⟩ := md_trn_lt ht
        obtain ⟨h3, h1⟩ := md_trn_3 ht
        dsimp only [Option.map_some]
        have hko : k < cx_oc f := by rw [sr_oc R]; exact hk
        refine ih _ _ _ ?_ (MO_srvd okg ht) (OK_sv okf hko)
        have ol := sr_OR_ol (sr_SR_ors R k (by omega)) hk
        have h49 : g 49 0 k = nI p := by
          have := (cx_fo_lt hfo).2.2
          unfold md_ohp at this
          exact (of_decide_eq_true this).1
        have hop : cx_op f k = p := by unfold cx_op; rw [ol.1, h49]; exact nI_clamp (by omega)
        have R1 := sr_srv (x := nI p) R
        obtain ⟨s, c, A⟩ := sr_At_of (k := k) R1 (MO_srv okg hp) (show cx_ln (en_up f 0 0 6 (nI p)) < 40 by unfold cx_ln; rw [up_n (by omega)]; exact okf.1.1.1) hp (by rw [up_n (by omega)]; exact h3) (by rw [up_n (by omega)]; exact h1) (by
          unfold sr_hand
          rw [md_srv_fo]
          exact hfo)
        have S := sr_sv2 (sr_svp A)
        have e55 := A.2.2.2.1.1
        have hs1 : cx_sv1 f p k = cx_svp (en_up f 0 0 6 (nI p)) p k := by
          unfold cx_sv1 cx_svp cx_go
          rw [cx_pa6, up_n (show ¬ (3 = 0 ∧ p = 0 ∧ 8 = 6) by omega), up_n (show ¬ (8 = 0 ∧ k = 0 ∧ 5 = 6) by omega), up_n (show ¬ (8 = 0 ∧ k = 0 ∧ 4 = 6) by omega)]
        have ed : md_dat (md_sv1 (en_up g 16 0 29 (nI p)) p k).2 k ↔ md_dat (en_up g 16 0 29 (nI p)) k := by
          unfold md_dat
          rw [md_sv1_hi (by omega) (by omega), md_sv1_hi (by omega) (by omega)]
        have hif : (if md_dat (md_sv1 (en_up g 16 0 29 (nI p)) p k).2 k then (1 : Int32) else 0) = if md_dat (en_up g 16 0 29 (nI p)) k then 1 else 0 := by
          by_cases z : md_dat (en_up g 16 0 29 (nI p)) k
          · rw [if_pos z, if_pos (ed.mpr z)]
          · rw [if_neg z, if_neg (fun y => z (ed.mp y))]
        rw [hif, ← e55] at S
        unfold cx_sv md_sv
        rw [hop, hs1]
        exact S
/-- enumeration within a frame -/
theorem sr_en : ∀ (m : Nat) (u u' s : Int32) (f g : en_F), sr_SR f g → md_OK g → cx_OK f → u' = u - s → sr_SR (cx_en m u s f).2 (md_en m u' g).2 ∧ (md_en m u' g).1 = u - (cx_en m u s f).1 := by
  intro m
  induction m with
  | zero => intro u u' s f g R _ _ e; exact ⟨R, e⟩
  | succ m ih =>
    intro u u' s f g R okg okf e
    have oc : md_oc g ≤ 16 := okg.1.1
    obtain ⟨e1, R1, h2⟩ := sr_gb R oc
    unfold cx_en md_en
    rw [← e]
    by_cases hu : u' < 10
    · rw [if_pos hu, if_pos hu]; exact ⟨R, e⟩
    · rw [if_neg hu, if_neg hu, e1]
      cases hg : (md_gb g).1 with
      | none => exact ⟨R1, e⟩
      | some p =>
        have hp := md_gb_lt hg
        dsimp only
        have okf1 := OK_gp okf
        have okg1 := MO_gb okg
        refine ih _ _ _ _ _ (sr_eo R1 okg1.1.1 okf1.1.1.1 hp (h2 p hg)) (MO_eo okg1) (OK_eo okf1) ?_
        rw [e]
        exact Int32.sub_sub ..
theorem sr_frm (R : sr_SR f g) (okg : md_OK g) (okf : cx_OK f) : sr_SR (cx_fr f) (md_fr g) := by
  have oc : md_oc g ≤ 16 := okg.1.1
  have R0 := sr_own R oc
  obtain ⟨R1, e1⟩ := sr_pd 6 0 0 100 _ _ R0 (MO_ow1 (MO_ow1 okg)) (OK_own okf) rfl (by decide)
  have E1 : (md_fr1 g).1 = 100 - (cx_fr1 f).1 := e1
  have R1' : sr_SR (cx_fr1 f).2 (md_fr1 g).2 := R1
  have hen := sr_en ((md_fr1 g).1.toNatClampNeg + 1) (md_fr1 g).1 (md_fr1 g).1 0 _ _ R1' (MO_fr1 okg) (OK_fr1 okf) (by simp)
  have R2 : sr_SR (cx_fr2 f).2 (md_fr2 g).2 := by
    unfold cx_fr2 cx_enp md_fr2
    rw [← E1]
    exact hen.1
  have E2 : (md_fr2 g).1 = 100 - (cx_fr1 f).1 - (cx_fr2 f).1 := by
    unfold cx_fr2 cx_enp md_fr2
    rw [← E1]
    exact hen.2
  have R3 : sr_SR (cx_fr3 f) (md_fr3 g) := by
    unfold cx_fr3 cx_sdp md_fr3
    rw [← E2]
    exact sr_sd _ _ _ _ R2 (MO_fr2 okg) (OK_fr2 okf)
  exact sr_tick R3
theorem sr_rn : ∀ (m : Nat) (f g : en_F), sr_SR f g → md_OK g → cx_OK f → sr_SR (cx_rn m f) (md_rn m g) := by
  intro m
  induction m with
  | zero => intro f g R _ _; exact R
  | succ m ih => intro f g R okg okf; exact ih _ _ (sr_frm R okg okf) (MO_fr okg) (OK_fr okf)
theorem sr_run (R : sr_SR f g) (okg : md_OK g) (okf : cx_OK f) : sr_SR (cx_run f v).2 (md_run g v).2 ∧ (cx_run f v).1 = (md_run g v).1 := by
  unfold cx_run md_run
  by_cases h : v < 1 ∨ 40 < v
  · rw [if_pos h, if_pos h]; exact ⟨R, rfl⟩
  · rw [if_neg h, if_neg h]
    have R1 := sr_rn v.toNatClampNeg f g R okg okf
    refine ⟨R1, ?_⟩
    dsimp only
    rw [sr_GR_tr (sr_SR_gr R1), sr_GR_tr (sr_SR_gr R)]
end Sr15
