/-! THE TWO STATES SIDE BY SIDE, 12: what a disk's steps leave -/
section Sr12
variable {I H E I' H' E' : Prop} {d l w : Int32} {s c : Nat}
def sr_Vs (I H E : Prop) (d l w : Int32) (s c : Nat) : Prop :=
  (s = 0 ∧ (H → ¬ I) ∧ ((E ∧ d = 0) ∨ (¬ E ∧ d = sr_dw w ∧ l = nI c))) ∨
  (1 ≤ s ∧ s ≤ c ∧ ¬ w = 0 ∧ (H → ¬ I) ∧ d = 2 ∧ ((E ∧ l = nI (c + 1 - s)) ∨ (¬ E ∧ l = nI (c - s)))) ∨
  (1 ≤ s ∧ s ≤ c ∧ w = 0 ∧ E ∧ d = 1 ∧ ((I ∧ H ∧ l = nI (c - s)) ∨ (¬ (I ∧ H) ∧ l = nI (c + 1 - s)))) ∨
  (s = c + 1 ∧ E ∧ ((I ∧ H ∧ d = 0) ∨ (¬ (I ∧ H) ∧ d = sr_dw w ∧ l = 0)))
theorem V_cmd (h : sr_Vs I H E d l w 0 c) (he : ¬ E') : sr_Vs I H E' (sr_dw w) (nI c) w 0 c := by
  unfold sr_Vs at h ⊢
  rcases h with ⟨-, h1, -⟩ | h | h | h
  · exact Or.inl ⟨rfl, h1, Or.inr ⟨he, rfl, rfl⟩⟩
  · omega
  · omega
  · omega
theorem V_e0 (h : sr_Vs I H E d l w 0 c) (he : E) : d = 0 := by
  rcases h with ⟨-, h1, ⟨-, h2⟩ | ⟨h2, -⟩⟩ | h | h | h
  · exact h2
  · exact absurd he h2
  · omega
  · omega
  · omega
theorem V_dat (h : sr_Vs I H E d l w s c) (h1 : 1 ≤ s) (h2 : s ≤ c) (hw : ¬ w = 0) (he : E) : d = 2 ∧ l = nI (c + 1 - s) := by
  rcases h with h | h | h | h
  · omega
  · rcases h.2.2.2.2.2 with z | z
    · exact ⟨h.2.2.2.2.1, z.2⟩
    · exact absurd he z.1
  · exact absurd h.2.2.1 hw
  · omega
theorem V_put (h : sr_Vs I H E d l w s c) (h1 : 1 ≤ s) (h2 : s ≤ c) (hw : ¬ w = 0) (he : E) (he' : ¬ E') : sr_Vs I H E' d (l - 1) w s c := by
  obtain ⟨d2, l2⟩ := V_dat h h1 h2 hw he
  have hi : H → ¬ I := by
    rcases h with h | h | h | h
    · exact h.2.1
    · exact h.2.2.2.1
    · exact absurd h.2.2.1 hw
    · omega
  refine Or.inr (Or.inl ⟨h1, h2, hw, hi, d2, Or.inr ⟨he', ?_⟩⟩)
  rw [l2, (show (1 : Int32) = nI 1 from rfl), pk_sub (by omega)]
  congr 1
  omega
theorem V_ack (h : sr_Vs I H E d l w s c) (hc : 1 ≤ c) (hs : s = 0 ∨ (¬ w = 0 ∧ s ≤ c)) (he : ¬ E) (he' : E') : sr_Vs I H E' d l w (s + 1) c := by
  rcases h with ⟨s0, hi, z⟩ | ⟨s1, s2, hw, hi, d2, z⟩ | z | z
  · subst s0
    rcases z with z | ⟨-, d1, l1⟩
    · exact absurd z.1 he
    · by_cases hw : w = 0
      · refine Or.inr (Or.inr (Or.inl ⟨by omega, by omega, hw, he', ?_, Or.inr ⟨fun y => hi y.2 y.1, ?_⟩⟩))
        · rw [d1, sr_dw, if_pos hw]
        · rw [l1]; rfl
      · refine Or.inr (Or.inl ⟨by omega, by omega, hw, hi, ?_, Or.inl ⟨he', ?_⟩⟩)
        · rw [d1, sr_dw, if_neg hw]
        · rw [l1]; rfl
  · rcases z with z | ⟨-, l1⟩
    · exact absurd z.1 he
    · by_cases e : s = c
      · subst e
        refine Or.inr (Or.inr (Or.inr ⟨rfl, he', Or.inr ⟨fun y => hi y.2 y.1, ?_, ?_⟩⟩))
        · rw [d2, sr_dw, if_neg hw]
        · rw [l1, Nat.sub_self]; exact rfl
      · refine Or.inr (Or.inl ⟨by omega, by omega, hw, hi, d2, Or.inl ⟨he', ?_⟩⟩)
        rw [l1]
        congr 1
        omega
  · exact absurd z.2.2.2.1 he
  · exact absurd z.2.1 he
/-- reading, or waiting for the end -/
def sr_Rd (I H E : Prop) (d l w : Int32) (s c : Nat) : Prop := E ∧ ((s ≤ c ∧ w = 0 ∧ d = 1 ∧ ((I ∧ H ∧ l = nI (c - s)) ∨ (¬ (I ∧ H) ∧ l = nI (c + 1 - s)))) ∨ (s = c + 1 ∧ ((I ∧ H ∧ d = 0) ∨ (¬ (I ∧ H) ∧ d = sr_dw w ∧ l = 0))))
theorem V_Rd (hs : 1 ≤ s) (hw : s ≤ c → w = 0) : sr_Vs I H E d l w s c ↔ sr_Rd I H E d l w s c := by
  constructor
  · rintro (z | z | z | z)
    · omega
    · exact absurd (hw z.2.1) z.2.2.1
    · exact ⟨z.2.2.2.1, Or.inl ⟨z.2.1, z.2.2.1, z.2.2.2.2⟩⟩
    · exact ⟨z.2.1, Or.inr ⟨z.1, z.2.2⟩⟩
  · rintro ⟨he, z | z⟩
    · exact Or.inr (Or.inr (Or.inl ⟨hs, z.1, z.2.1, he, z.2.2⟩))
    · exact Or.inr (Or.inr (Or.inr ⟨z.1, he, z.2⟩))
theorem R_mk1 (h : sr_Rd I H E d l w s c) (hh : ¬ H) (hi : I) (hh' : H') (hl : ¬ l = 0) : sr_Rd I H' E d (l - 1) w s c := by
  obtain ⟨he, ⟨s1, w0, d1, z⟩ | ⟨s1, z⟩⟩ := h
  · rcases z with z | z
    · exact absurd z.2.1 hh
    · refine ⟨he, Or.inl ⟨s1, w0, d1, Or.inl ⟨hi, hh', ?_⟩⟩⟩
      rw [z.2, (show (1 : Int32) = nI 1 from rfl), pk_sub (by omega)]
      congr 1
      omega
  · rcases z with z | z
    · exact absurd z.2.1 hh
    · exact absurd z.2.2 hl
theorem R_mk0 (h : sr_Rd I H E d l w s c) (hc : c ≤ 4) (hh : ¬ H) (hi : I) (hh' : H') (hl : l = 0) : sr_Rd I H' E 0 l w s c := by
  obtain ⟨he, ⟨s1, w0, d1, z⟩ | ⟨s1, z⟩⟩ := h
  · rcases z with z | z
    · exact absurd z.2.1 hh
    · have := z.2
      rw [hl, (show (0 : Int32) = nI 0 from rfl)] at this
      have := (nI_eq (by omega) (by omega)).mp this
      omega
  · exact ⟨he, Or.inr ⟨s1, Or.inl ⟨hi, hh', rfl⟩⟩⟩
theorem R_due (h : sr_Rd I H E d l w s c) (hh : ¬ H) : d = 1 ∨ (d = 2 ∧ l = 0) := by
  obtain ⟨he, ⟨s1, w0, d1, z⟩ | ⟨s1, z⟩⟩ := h
  · exact Or.inl d1
  · rcases z with z | z
    · exact absurd z.2.1 hh
    · rw [z.2.1, sr_dw]
      by_cases w0 : w = 0
      · rw [if_pos w0]; exact Or.inl rfl
      · rw [if_neg w0]; exact Or.inr ⟨rfl, z.2.2⟩
theorem R_ack (h : sr_Rd I H E d l w s c) (hh : H) (hi : I) (hn : ¬ (I' ∧ H')) (hs : s ≤ c) : sr_Rd I' H' E d l w (s + 1) c := by
  obtain ⟨he, ⟨s1, w0, d1, z⟩ | ⟨s1, z⟩⟩ := h
  · rcases z with z | z
    · by_cases e : s = c
      · subst e
        refine ⟨he, Or.inr ⟨rfl, Or.inr ⟨hn, ?_, ?_⟩⟩⟩
        · rw [d1, sr_dw, if_pos w0]
        · rw [z.2.2, Nat.sub_self]; exact rfl
      · refine ⟨he, Or.inl ⟨by omega, w0, d1, Or.inr ⟨hn, ?_⟩⟩⟩
        rw [z.2.2]
        congr 1
        omega
    · exact absurd ⟨hi, hh⟩ z.1
  · omega
theorem R_end (h : sr_Rd I H E d l w s c) (hh : H) (hi : I) (hs : s = c + 1) : E ∧ d = 0 := by
  obtain ⟨he, ⟨s1, w0, d1, z⟩ | ⟨s1, z⟩⟩ := h
  · omega
  · rcases z with z | z
    · exact ⟨he, z.2.2⟩
    · exact absurd ⟨hi, hh⟩ z.1
theorem R_nak (h : sr_Rd I H E d l w s c) (hn : ¬ (I ∧ H)) (hn' : ¬ (I' ∧ H')) : sr_Rd I' H' E d l w s c := by
  obtain ⟨he, ⟨s1, w0, d1, z⟩ | ⟨s1, z⟩⟩ := h
  · rcases z with z | z
    · exact absurd ⟨z.1, z.2.1⟩ hn
    · exact ⟨he, Or.inl ⟨s1, w0, d1, Or.inr ⟨hn', z.2⟩⟩⟩
  · rcases z with z | z
    · exact absurd ⟨z.1, z.2.1⟩ hn
    · exact ⟨he, Or.inr ⟨s1, Or.inr ⟨hn', z.2⟩⟩⟩
end Sr12
section Sr12b
variable {p k n m q i j s c : Nat} {f g f' g' F G : en_F} {v w a b x l l' cf : Int32}
theorem sr_bt_fl (h : sr_bt a) (h2 : sr_bt b) : (1 - a = b ↔ ¬ a = b) ∧ (a = 1 - b ↔ ¬ a = b) := by
  rcases h with rfl | rfl <;> rcases h2 with rfl | rfl <;> decide
theorem sr_IVs_V : sr_IVs g p w s c ↔ sr_Vs (sr_I g p) (sr_H g p) (sr_E g p) (g 30 0 p) (g 32 0 p) w s c := Iff.rfl
/-- what a disk does with a packet, in the reference -/
theorem md_gv_V (b1 : sr_bt (G 43 0 p)) (b2 : sr_bt (G 26 0 p)) (h50 : G 50 0 k = w) (h52 : G 52 0 k = nI c) (hV : sr_IVs G p w s c) (hs : s = 0 ∨ (¬ w = 0 ∧ s ≤ c)) (hcf : s = 0 → ¬ cf = 0) (hc : c ≤ 4) : sr_IVs (md_gv G p p k cf v).2 p w s c ∧ ((md_gv G p p k cf v).1 = 1 ∧ ¬ sr_E (md_gv G p p k cf v).2 p ∨ (md_gv G p p k cf v).1 = -1) := by
  have hfl := sr_bt_fl b1 b2
  unfold md_gv
  by_cases he : G 43 0 p = G 26 0 p
  · rw [if_pos he]
    have hE : sr_E G p := he
    rcases Nat.eq_zero_or_pos s with h0 | h0
    · subst h0
      have d0 := V_e0 hV hE
      rw [if_neg (show ¬ md_data G p from fun z => absurd (d0.symm.trans z.1) (by decide)), if_pos ⟨hcf rfl, d0⟩]
      have hn : ¬ G 43 0 p = 1 - G 26 0 p := fun z => (hfl.2.mp z) he
      refine ⟨?_, Or.inl ⟨rfl, ?_⟩⟩
      · have V1 := V_cmd (E' := G 43 0 p = 1 - G 26 0 p) hV hn
        rw [sr_IVs_V]
        unfold sr_I sr_H sr_E
        simp only [en_ua, Nat.reduceEqDiff, eq_self, true_and, and_true, false_and, and_false, and_self, ↓reduceIte, sr_has, h50, h52]
        exact V1
      · unfold sr_E
        simp only [en_ua, Nat.reduceEqDiff, eq_self, true_and, and_true, false_and, and_false, and_self, ↓reduceIte, sr_has]
        exact hn
    · have hw : ¬ w = 0 ∧ s ≤ c := by rcases hs with z | z; omega; exact z
      obtain ⟨d2, l2⟩ := V_dat hV h0 hw.2 hw.1 hE
      have hdat : md_data G p := by
        refine ⟨d2, ?_⟩
        rw [l2, show (0 : Int32) = nI 0 from rfl, cb_lt (by omega) (by omega)]
        omega
      rw [if_pos hdat]
      by_cases hb : 0 < G 27 0 p
      · rw [if_pos hb]
        refine ⟨?_, Or.inr rfl⟩
        rw [sr_IVs_V]
        unfold sr_I sr_H sr_E
        simp only [en_ua, Nat.reduceEqDiff, eq_self, true_and, and_true, false_and, and_false, and_self, ↓reduceIte, sr_has]
        exact hV
      · rw [if_neg hb]
        have hn : ¬ G 43 0 p = 1 - G 26 0 p := fun z => (hfl.2.mp z) he
        refine ⟨?_, Or.inl ⟨rfl, ?_⟩⟩
        · have V1 := V_put (E' := G 43 0 p = 1 - G 26 0 p) hV h0 hw.2 hw.1 hE hn
          rw [sr_IVs_V]
          unfold sr_I sr_H sr_E
          simp only [en_ua, Nat.reduceEqDiff, eq_self, true_and, and_true, false_and, and_false, and_self, ↓reduceIte, sr_has]
          exact V1
        · unfold sr_E
          simp only [en_ua, Nat.reduceEqDiff, eq_self, true_and, and_true, false_and, and_false, and_self, ↓reduceIte, sr_has]
          exact hn
  · rw [if_neg he]
    exact ⟨hV, Or.inl ⟨rfl, he⟩⟩
theorem md_gv_i (h : ¬ k = 26) (h1 : ¬ k = 27) (h2 : ¬ k = 30) (h3 : ¬ k = 31) (h4 : ¬ k = 32) (h5 : ¬ k = 33) : (md_gv G p q n cf v).2 k i j = G k i j := by
  unfold md_gv
  split
  · split
    · split
      · exact up_n (by omega)
      · dsimp only; rw [up_n (by omega), up_n (by omega), up_n (by omega), up_n (by omega)]
    · split
      · dsimp only; rw [up_n (by omega), up_n (by omega), up_n (by omega), up_n (by omega), up_n (by omega)]
      · exact up_n (by omega)
  · rfl
theorem md_gv_26 (b2 : sr_bt (G 26 0 p)) : sr_bt ((md_gv G p p n cf v).2 26 0 p) := by
  have := (sr_bt1 b2).2
  unfold md_gv
  split
  · split
    · split
      · dsimp only; rw [up_n (by omega)]; exact b2
      · simp only [en_ua, Nat.reduceEqDiff, eq_self, true_and, and_true, false_and, and_false, and_self, ↓reduceIte, sr_has]; exact this
    · split
      · simp only [en_ua, Nat.reduceEqDiff, eq_self, true_and, and_true, false_and, and_false, and_self, ↓reduceIte, sr_has]; exact this
      · simp only [en_ua, Nat.reduceEqDiff, eq_self, true_and, and_true, false_and, and_false, and_self, ↓reduceIte, sr_has]; exact this
  · exact b2
/-- a disk takes a packet -/
theorem sr_agr (X : sr_SX F G p) (oc : md_oc G ≤ 16) (hp : p < 6) (ho : ¬ G 20 0 p = 0) (h3 : G 36 0 p = 3) (hk1 : G 17 0 p = 1) (hdl : md_dl G p) (hcmd : sr_E G p → G 30 0 p = 0 → ¬ cf = 0 ∧ ((if v &&& 64 = 0 then (1 : Int32) else 2) = if G 50 0 k = 0 then 1 else 2) ∧ v >>> (3 &&& 31) &&& 7 = G 51 0 k ∧ v &&& 7 = G 52 0 k) (hdat : sr_E G p → ¬ G 30 0 p = 0 → md_data G p ∧ w = v) : sr_SX (cx_agrees F p (F 3 p 6) v).2 (md_gv G p p k cf w).2 p ∧ (((cx_agrees F p (F 3 p 6) v).1 = 0 ∧ (md_gv G p p k cf w).1 = -1) ∨ ((cx_agrees F p (F 3 p 6) v).1 = 1 ∧ (md_gv G p p k cf w).1 = 1)) := by
  have P := sr_SX_prs X p hp
  have D := sr_PR_od P ho
  have h2 : ¬ G 36 0 p = 2 := by rw [h3]; decide
  unfold cx_agrees md_gv
  rw [sr_PR_ho P, sr_OD_ot D]
  by_cases he : G 43 0 p = G 26 0 p
  · rw [if_pos he, if_pos he]
    by_cases hd : G 30 0 p = 0
    · obtain ⟨c1, c2, c3, c4⟩ := hcmd he hd
      have nd : ¬ md_data G p := fun z => absurd (hd.symm.trans z.1) (by decide)
      have nd2 : ¬ ((F 5 p 4 = 2 ∧ 0 < F 5 p 6) ∧ ¬ F 5 p 3 = 0) := fun z => absurd ((sr_OD_wk D).symm.trans z.1.1) (by rw [hd]; decide)
      rw [if_neg nd, if_neg nd2, if_pos ⟨c1, hd⟩]
      refine ⟨?_, Or.inr ⟨rfl, rfl⟩⟩
      have hb3 : sr_b3 (G 19 0 p) ∧ F 5 p 2 = G 19 0 p := by
        have := sr_PR_dv P
        unfold sr_dev at this
        rw [hk1] at this
        rcases this with z | z | z | z
        · exact absurd z (by decide)
        · exact ⟨z.2.2.2.2, z.2.2.1⟩
        · exact absurd z.1 (by decide)
        · exact absurd z.1 (by decide)
      have X1 := sr_busy (x := G 19 0 p) X oc hp hb3.1
      have X2 := sr_cmd (w := if G 50 0 k = 0 then 1 else 2) (a := G 51 0 k) (b := G 52 0 k) X1 (by rw [oc_up (by omega)]; exact oc) hp (by rw [up_n (by omega)]; exact h2) (by split; exact Or.inr (Or.inl rfl); exact Or.inr (Or.inr rfl))
      have X3 := sr_dout X2 (by rw [oc_up (by omega), oc_up (by omega), oc_up (by omega), oc_up (by omega)]; exact oc) hp (by rw [up_n (by omega), up_n (by omega), up_n (by omega), up_n (by omega)]; exact h2) (by rw [up_n (by omega), up_n (by omega), up_n (by omega), up_n (by omega)]; exact ho)
      have eF : cx_take F p v = en_up (en_up (en_up (en_up F 5 p 3 (G 19 0 p)) 5 p 4 (if G 50 0 k = 0 then 1 else 2)) 5 p 5 (G 51 0 k)) 5 p 6 (G 52 0 k) := by
        unfold cx_take
        rw [if_pos ((sr_OD_wk D).trans hd)]
        unfold cx_takeC
        rw [c2, c3, c4, hb3.2]
      have eG : en_up (en_up (en_up (en_up (en_up G 26 0 p (1 - G 26 0 p)) 30 0 p (if G 50 0 k = 0 then 1 else 2)) 31 0 p (G 51 0 k)) 32 0 p (G 52 0 k)) 27 0 p (G 19 0 p) = en_up (en_up (en_up (en_up (en_up G 27 0 p (G 19 0 p)) 30 0 p (if G 50 0 k = 0 then 1 else 2)) 31 0 p (G 51 0 k)) 32 0 p (G 52 0 k)) 26 0 p (1 - G 26 0 p) := by
        rw [up_c (k := 26) (k' := 30) (by omega), up_c (k := 26) (k' := 31) (by omega), up_c (k := 26) (k' := 32) (by omega), up_c (k := 26) (k' := 27) (by omega), up_c (k := 27) (k' := 30) (by omega), up_c (k := 27) (k' := 31) (by omega), up_c (k := 27) (k' := 32) (by omega)]
      dsimp only
      rw [eF, eG]
      rw [up_n (show ¬ (26 = 32 ∧ 0 = 0 ∧ p = p) by omega), up_n (show ¬ (26 = 31 ∧ 0 = 0 ∧ p = p) by omega), up_n (show ¬ (26 = 30 ∧ 0 = 0 ∧ p = p) by omega), up_n (show ¬ (26 = 27 ∧ 0 = 0 ∧ p = p) by omega)] at X3
      exact X3
    · obtain ⟨hda, rfl⟩ := hdat he hd
      obtain ⟨a, l, ea, el, hal⟩ := hdl hd
      have eal := sr_OD_al D hd
      have hl1 : 1 ≤ l := by
        have := hda.2
        rw [el, show (0 : Int32) = nI 0 from rfl, cb_lt (by omega) (by omega)] at this
        omega
      rw [if_pos hda]
      have hmt : F 5 p 4 = 2 ∧ 0 < F 5 p 6 := ⟨(sr_OD_wk D).trans hda.1, by rw [eal.2]; exact hda.2⟩
      have hbz : (0 < G 27 0 p ∧ ¬ G 27 0 p = 0 ∧ sr_b3 (G 27 0 p - 1)) ∨ (¬ 0 < G 27 0 p ∧ G 27 0 p = 0) := by
        rcases sr_OD_b3 D with z | z | z | z
        · rw [z]; right; decide
        · rw [z]; left; refine ⟨by decide, by decide, Or.inl (by decide)⟩
        · rw [z]; left; refine ⟨by decide, by decide, Or.inr (Or.inl (by decide))⟩
        · rw [z]; left; refine ⟨by decide, by decide, Or.inr (Or.inr (Or.inl (by decide)))⟩
      rcases hbz with ⟨y1, y2, y3⟩ | ⟨y1, y2⟩
      · rw [if_pos y1, if_pos ⟨hmt, by rw [sr_OD_bu D]; exact y2⟩, sr_OD_bu D]
        exact ⟨sr_busy X oc hp y3, Or.inl ⟨rfl, rfl⟩⟩
      · rw [if_neg y1, if_neg (fun z => z.2 ((sr_OD_bu D).trans y2))]
        refine ⟨?_, Or.inr ⟨rfl, rfl⟩⟩
        have ha0 : ¬ F 5 p 5 < 0 := by
          rw [eal.1, ea, show (0 : Int32) = nI 0 from rfl, cb_lt (by omega) (by omega)]; omega
        have ha8 : F 5 p 5 < 8 := by
          rw [eal.1, ea, show (8 : Int32) = nI 8 from rfl, cb_lt (by omega) (by omega)]; omega
        have hcl : (G 31 0 p).toNatClampNeg = a := by rw [ea]; exact nI_clamp (by omega)
        have eF : cx_take F p w = en_up (en_up (en_up F 6 p a w) 5 p 5 (G 31 0 p + 1)) 5 p 6 (G 32 0 p - 1) := by
          unfold cx_take
          rw [if_neg (fun z => hd ((sr_OD_wk D).symm.trans z)), if_pos ⟨hmt, ha0, ha8⟩, eal.1, eal.2, hcl]
        have X1 := sr_cont (q := p) (j := a) (x := w) X hp (by omega)
        have X2 := sr_atleft (a := G 31 0 p + 1) (b := G 32 0 p - 1) X1 (by rw [oc_up (by omega)]; exact oc) hp
        have X3 := sr_dout X2 (by rw [oc_up (by omega), oc_up (by omega), oc_up (by omega)]; exact oc) hp (by rw [up_n (by omega), up_n (by omega), up_n (by omega)]; exact h2) (by rw [up_n (by omega), up_n (by omega), up_n (by omega)]; exact ho)
        rw [up_n (show ¬ (26 = 32 ∧ 0 = 0 ∧ p = p) by omega), up_n (show ¬ (26 = 31 ∧ 0 = 0 ∧ p = p) by omega), up_n (show ¬ (26 = 33 ∧ 0 = 0 ∧ p = 8 * p + a) by omega)] at X3
        dsimp only
        rw [eF, hcl, up_c (k := 26) (k' := 33) (by omega), up_c (k := 26) (k' := 31) (by omega), up_c (k := 26) (k' := 32) (by omega)]
        exact X3
  · rw [if_neg he, if_neg he]
    exact ⟨X, Or.inr ⟨rfl, rfl⟩⟩
/-- the disk makes a packet -/
theorem md_mkK_V (hH : G 28 0 p = 0) (hI : G 42 0 p = G 25 0 p) (hV : sr_Rd (sr_I G p) (sr_H G p) (sr_E G p) (G 30 0 p) (G 32 0 p) w s c) (hc : c ≤ 4) : sr_Rd (sr_I (md_mkK G p) p) (sr_H (md_mkK G p) p) (sr_E (md_mkK G p) p) (md_mkK G p 30 0 p) (md_mkK G p 32 0 p) w s c := by
  have nH : ¬ sr_H G p := fun z => z hH
  unfold md_mkK
  rw [if_pos (R_due hV nH)]
  by_cases hb : 0 < G 27 0 p
  · rw [if_pos hb]
    unfold sr_I sr_H sr_E
    simp only [en_ua, Nat.reduceEqDiff, eq_self, true_and, and_true, false_and, and_false, and_self, ↓reduceIte, sr_has]
    exact hV
  · rw [if_neg hb]
    by_cases hl : G 32 0 p = 0
    · rw [if_pos hl]
      have V1 := R_mk0 (H' := ¬ (1 : Int32) = 0) hV hc nH hI (by decide) hl
      unfold sr_I sr_H sr_E
      simp only [en_ua, Nat.reduceEqDiff, eq_self, true_and, and_true, false_and, and_false, and_self, ↓reduceIte, sr_has]
      exact V1
    · rw [if_neg hl]
      have V1 := R_mk1 (H' := ¬ (1 : Int32) = 0) hV nH hI (by decide) hl
      unfold sr_I sr_H sr_E
      simp only [en_ua, Nat.reduceEqDiff, eq_self, true_and, and_true, false_and, and_false, and_self, ↓reduceIte, sr_has]
      exact V1
theorem sr_mkD (X : sr_SX F G p) (oc : md_oc G ≤ 16) (hp : p < 6) (ho : ¬ G 20 0 p = 0) (h3 : G 36 0 p = 3) (hk1 : G 17 0 p = 1) (hdl : md_dl G p) : sr_SX (cx_in2 F p) (md_in2 G p) p := by
  have P := sr_SX_prs X p hp
  have D := sr_PR_od P ho
  have h2 : ¬ G 36 0 p = 2 := by rw [h3]; decide
  unfold cx_in2 md_in2
  rw [sr_OD_hd D]
  by_cases hz : G 28 0 p = 0
  · rw [if_pos hz, if_pos hz]
    unfold cx_mk md_mk
    rw [sr_PR_kd P, hk1, if_neg (show ¬ (1 : Int32) = 2 by decide), if_pos rfl, if_pos rfl]
    unfold cx_holdK md_mkK
    by_cases hd : md_due G p
    · have hd0 : ¬ G 30 0 p = 0 := by
        rcases hd with z | z
        · rw [z]; decide
        · rw [z.1]; decide
      have eal := sr_OD_al D hd0
      obtain ⟨a, l, ea, el, hal⟩ := hdl hd0
      have hdF : F 5 p 4 = 1 ∨ (F 5 p 4 = 2 ∧ F 5 p 6 = 0) := by rw [sr_OD_wk D, eal.2]; exact hd
      rw [if_pos hd, if_pos hdF]
      have hbz : (0 < G 27 0 p ∧ ¬ G 27 0 p = 0 ∧ sr_b3 (G 27 0 p - 1)) ∨ (¬ 0 < G 27 0 p ∧ G 27 0 p = 0) := by
        rcases sr_OD_b3 D with z | z | z | z
        · rw [z]; right; decide
        · rw [z]; left; refine ⟨by decide, by decide, Or.inl (by decide)⟩
        · rw [z]; left; refine ⟨by decide, by decide, Or.inr (Or.inl (by decide))⟩
        · rw [z]; left; refine ⟨by decide, by decide, Or.inr (Or.inr (Or.inl (by decide)))⟩
      rcases hbz with ⟨y1, y2, y3⟩ | ⟨y1, y2⟩
      · rw [if_pos y1, if_neg (by rw [sr_OD_bu D]; exact y2), sr_OD_bu D]
        exact sr_busy X oc hp y3
      · rw [if_neg y1, if_pos ((sr_OD_bu D).trans y2)]
        unfold cx_kmake
        rw [eal.2, eal.1]
        have hb3 : ∀ v : Int32, G 17 0 p = 3 → sr_hb v := fun v z => absurd (hk1.symm.trans z) (by decide)
        by_cases hl : G 32 0 p = 0
        · rw [if_pos hl, if_pos hl]
          dsimp only
          have X1 := sr_idle X oc hp
          have X2 := sr_hold (v := 0) X1 (by rw [oc_up (by omega)]; exact oc) hp (by rw [up_n (by omega)]; exact h2) (by rw [up_n (by omega)]; exact hb3 0)
          rw [up_c (k := 29) (k' := 30) (by omega), up_c (k := 28) (k' := 30) (by omega)]
          exact X2
        · rw [if_neg hl, if_neg hl]
          dsimp only
          have hl1 : 1 ≤ l := by
            rcases Nat.eq_zero_or_pos l with z | z
            · exfalso; apply hl; rw [el, z]; rfl
            · exact z
          have ha0 : ¬ G 31 0 p < 0 := by
            rw [ea, show (0 : Int32) = nI 0 from rfl, cb_lt (by omega) (by omega)]; omega
          have ha8 : G 31 0 p < 8 := by
            rw [ea, show (8 : Int32) = nI 8 from rfl, cb_lt (by omega) (by omega)]; omega
          have hcl : (G 31 0 p).toNatClampNeg = a := by rw [ea]; exact nI_clamp (by omega)
          rw [if_pos ⟨ha0, ha8⟩, hcl, sr_GR_ct (sr_SX_gr X) p hp a (by omega)]
          have X1 := sr_atleft (a := G 31 0 p + 1) (b := G 32 0 p - 1) X oc hp
          have X2 := sr_hold (v := G 33 0 (8 * p + a)) X1 (by rw [oc_up (by omega), oc_up (by omega)]; exact oc) hp (by rw [up_n (by omega), up_n (by omega)]; exact h2) (by rw [up_n (by omega), up_n (by omega)]; exact hb3 _)
          rw [up_c (k := 29) (k' := 31) (by omega), up_c (k := 29) (k' := 32) (by omega), up_c (k := 28) (k' := 31) (by omega), up_c (k := 28) (k' := 32) (by omega)]
          exact X2
    · have hdF : ¬ (F 5 p 4 = 1 ∨ (F 5 p 4 = 2 ∧ F 5 p 6 = 0)) := by
        rw [sr_OD_wk D]
        intro z
        apply hd
        rcases z with z | z
        · exact Or.inl z
        · have hd0 : ¬ G 30 0 p = 0 := by rw [z.1]; decide
          rw [(sr_OD_al D hd0).2] at z
          exact Or.inr z
      rw [if_neg hd, if_neg hdF]
      exact X
  · rw [if_neg hz, if_neg hz]
    exact X
/-- the host hears a packet -/
theorem md_i3_V (c1 : sr_bt (G 42 0 p)) (c2 : sr_bt (G 25 0 p)) (hH : ¬ G 28 0 p = 0) (hV : sr_Rd (sr_I G p) (sr_H G p) (sr_E G p) (G 30 0 p) (G 32 0 p) w s c) : (G 25 0 p = G 42 0 p → (s ≤ c → sr_Rd (sr_I (md_i3 G p l) p) (sr_H (md_i3 G p l) p) (sr_E (md_i3 G p l) p) (md_i3 G p l 30 0 p) (md_i3 G p l 32 0 p) w (s + 1) c) ∧ (s = c + 1 → sr_E (md_i3 G p l) p ∧ md_i3 G p l 30 0 p = 0 ∧ (sr_H (md_i3 G p l) p → ¬ sr_I (md_i3 G p l) p))) ∧ (¬ G 25 0 p = G 42 0 p → sr_Rd (sr_I (md_i3 G p l) p) (sr_H (md_i3 G p l) p) (sr_E (md_i3 G p l) p) (md_i3 G p l 30 0 p) (md_i3 G p l 32 0 p) w s c) ∧ (¬ sr_I (md_i3 G p l) p → sr_H (md_i3 G p l) p) := by
  have hfl := sr_bt_fl c1 c2
  have hf2 := sr_bt_fl (sr_bt1 c1).2 c2
  unfold md_i3 md_in3
  by_cases hi : G 25 0 p = G 42 0 p
  · have hI : sr_I G p := hi.symm
    have n1 : ¬ 1 - G 42 0 p = G 25 0 p := fun z => hfl.1.mp z hi.symm
    have n2 : 1 - G 42 0 p = 1 - G 25 0 p := hf2.2.mpr n1
    rw [if_pos hi]
    by_cases hl : l = 2
    · rw [if_pos hl]
      unfold sr_I sr_H sr_E
      simp only [en_ua, Nat.reduceEqDiff, eq_self, true_and, and_true, false_and, and_false, and_self, ↓reduceIte, sr_has]
      refine ⟨fun _ => ⟨fun hs => ?_, fun hs => ?_⟩, fun z => absurd hi z, fun _ => hH⟩
      · exact R_ack (I' := 1 - G 42 0 p = G 25 0 p) (H' := ¬ G 28 0 p = 0) hV hH hI (fun z => n1 z.1) hs
      · have := R_end hV hH hI hs
        exact ⟨this.1, this.2, fun _ => n1⟩
    · rw [if_neg hl]
      unfold sr_I sr_H sr_E
      simp only [en_ua, Nat.reduceEqDiff, eq_self, true_and, and_true, false_and, and_false, and_self, ↓reduceIte, sr_has]
      refine ⟨fun _ => ⟨fun hs => ?_, fun hs => ?_⟩, fun z => absurd hi z, fun z => absurd n2 z⟩
      · exact R_ack (I' := 1 - G 42 0 p = 1 - G 25 0 p) (H' := ¬ True) hV hH hI (fun z => z.2 trivial) hs
      · have := R_end hV hH hI hs
        exact ⟨this.1, this.2, fun z => absurd trivial z⟩
  · have hI : ¬ sr_I G p := fun z => hi z.symm
    rw [if_neg hi]
    by_cases hl : l = 2
    · rw [if_pos hl]
      unfold sr_I sr_H sr_E
      simp only [en_ua, Nat.reduceEqDiff, eq_self, true_and, and_true, false_and, and_false, and_self, ↓reduceIte, sr_has]
      exact ⟨fun z => absurd z hi, fun _ => hV, fun _ => hH⟩
    · rw [if_neg hl]
      have n2 : G 42 0 p = 1 - G 25 0 p := hfl.2.mpr hI
      unfold sr_I sr_H sr_E
      simp only [en_ua, Nat.reduceEqDiff, eq_self, true_and, and_true, false_and, and_false, and_self, ↓reduceIte, sr_has]
      exact ⟨fun z => absurd z hi, fun _ => R_nak (I' := G 42 0 p = 1 - G 25 0 p) (H' := ¬ True) hV (fun z => hI z.1) (fun z => z.2 trivial), fun z => absurd n2 z⟩
end Sr12b
