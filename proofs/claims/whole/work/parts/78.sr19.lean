/-! THE START: nothing is plugged, nothing is known -/
section Sr19
variable {p k n m q i j : Nat}
def lw_f0 : en_F := fun k _ j => if k = 0 ∧ j = 6 then 5 else 0
def lw_g0 : en_F := fun k _ j => if k = 16 ∧ j = 29 then 5 else 0
theorem lw_fz (h : ¬ (k = 0 ∧ j = 6)) : lw_f0 k i j = 0 := if_neg h
theorem lw_gz (h : ¬ (k = 16 ∧ j = 29)) : lw_g0 k i j = 0 := if_neg h
theorem lw_oc0 : md_oc lw_g0 = 0 := by
  unfold md_oc
  rw [lw_gz (by omega)]
  rfl
theorem lw_nh : ¬ sr_has lw_g0 p := by
  unfold sr_has
  rw [lw_gz (by omega)]
  decide
theorem lw_PR0 : sr_PR lw_f0 lw_g0 p := sr_PR_mk (by rw [lw_fz (by omega), lw_gz (by omega)]) (by rw [lw_fz (by omega), lw_gz (by omega)]) (by rw [lw_fz (by omega), lw_gz (by omega)]) (by rw [lw_fz (by omega), lw_gz (by omega)]) (by rw [lw_gz (by omega)]; exact Or.inl rfl) (by rw [lw_fz (by omega), lw_gz (by omega)]) (by rw [lw_fz (by omega), lw_gz (by omega)]) (by rw [lw_fz (by omega), lw_gz (by omega)]) (by rw [lw_fz (by omega), lw_gz (by omega)]) (by rw [lw_fz (by omega), lw_gz (by omega)]) (by rw [lw_fz (by omega), lw_gz (by omega)]) (by rw [lw_fz (by omega), lw_gz (by omega)]) (by rw [lw_fz (by omega), lw_gz (by omega)]) (by rw [lw_gz (by omega)]; exact Or.inl rfl) (by rw [lw_gz (by omega)]; exact Or.inl rfl) (fun z => by rw [lw_gz (by omega)] at z; exact absurd z (by decide)) (fun z => absurd z lw_nh) (fun _ => lw_fz (by omega)) (fun z => absurd z lw_nh) (fun z => absurd z lw_nh) (by rw [lw_gz (by omega), lw_gz (by omega)]; exact Or.inl ⟨rfl, rfl⟩) (Or.inl (lw_gz (by omega))) (fun z => absurd (lw_gz (by omega)) z) (fun z => by rw [lw_gz (by omega)] at z; exact absurd z (by decide)) (fun z => absurd (lw_gz (by omega)) z) (fun z => absurd (lw_gz (by omega)) z) (fun z => absurd (lw_gz (by omega)) z)
theorem lw_start0 : sr_SR lw_f0 lw_g0 := by
  refine sr_SR_mk (sr_GR_mk ?_ ?_ ?_ ?_ ?_ ?_ ?_ ?_ ?_ ?_ ?_) (fun k hk => ?_) (fun p _ => lw_PR0) (fun p _ => ?_) ?_ ?_
  · rw [lw_fz (by omega), lw_gz (by omega)]
  · rw [lw_fz (by omega), lw_gz (by omega)]
  · rfl
  · rw [lw_fz (by omega), lw_gz (by omega)]
  · rw [lw_fz (by omega), lw_gz (by omega)]
  · rw [lw_fz (by omega), lw_gz (by omega)]
  · rw [lw_fz (by omega), lw_gz (by omega)]; rfl
  · intro i _; rw [lw_fz (by omega), lw_gz (by omega)]
  · refine ⟨fun j _ _ => ?_, fun j _ _ => lw_gz (by omega)⟩
    rw [lw_fz (by omega), lw_gz (by omega)]
  · intro p _ i _; rw [lw_fz (by omega), lw_gz (by omega)]
  · intro p _ i _; rw [lw_fz (by omega), lw_gz (by omega)]
  · refine sr_OR_mk (fun z => ?_) ?_ (fun i _ => ?_) (fun _ => lw_fz (by omega)) (fun z => ?_) (fun z => ?_)
    · rw [lw_oc0] at z; omega
    · rw [lw_fz (by omega), lw_gz (by omega)]
    · rw [lw_fz (by omega), lw_gz (by omega)]
    · rw [lw_oc0] at z; omega
    · rw [lw_oc0] at z; omega
  · intro z
    rw [lw_gz (by omega)] at z
    exact absurd z (by decide)
  · intro p q _ _ _ h1
    exact absurd h1 lw_nh
  · intro p q _ _ h1
    rw [lw_gz (by omega)] at h1
    exact absurd h1 (by decide)
theorem lw_MO0 : md_OK lw_g0 := by
  refine ⟨⟨by rw [lw_oc0]; omega, ?_⟩, ⟨?_, ?_⟩, fun p hp => ⟨?_, ⟨?_, ?_⟩, ⟨0, by omega, ?_⟩, ?_, ?_, ?_⟩, ?_, ?_, ?_⟩
  · rw [lw_oc0, lw_gz (by omega)]; rfl
  · exact (by decide : (5 : Int32).toNatClampNeg < 6)
  · rfl
  · intro z
    exact absurd (lw_gz (by omega)) z
  · unfold md_cc; rw [lw_gz (by omega)]; exact (by decide : (0 : Int32).toNatClampNeg ≤ 4)
  · unfold md_cc; rw [lw_gz (by omega)]; rfl
  · rw [lw_gz (by omega)]; rfl
  · intro z; rw [lw_gz (by omega)] at z; exact absurd z (by decide)
  · intro z; rw [lw_gz (by omega)] at z; exact absurd z (by decide)
  · intro z; rw [lw_gz (by omega)] at z; exact absurd z (by decide)
  · intro k hk; rw [lw_oc0] at hk; omega
  · intro k hk; rw [lw_oc0] at hk; omega
  · intro k _ _; exact ⟨lw_gz (by omega), lw_gz (by omega)⟩
theorem lw_CO0 : cx_OK lw_f0 := by
  have h0 : (0 : Int32).toNatClampNeg = 0 := rfl
  have o0 : cx_oc lw_f0 = 0 := by unfold cx_oc; rw [lw_fz (by omega)]; rfl
  refine ⟨⟨⟨?_, ?_⟩, ⟨?_, ?_⟩, ⟨?_, ?_⟩, fun p hp => ⟨?_, ?_⟩⟩, ⟨?_, ?_⟩, fun k hk => ⟨?_, ?_⟩, fun k hk => ?_⟩
  · unfold cx_ln; rw [lw_fz (by omega)]; exact (by decide : (0 : Int32).toNatClampNeg < 40)
  · unfold cx_ln; rw [lw_fz (by omega)]; rfl
  · rw [o0]; omega
  · rw [o0, lw_fz (by omega)]; rfl
  · unfold cx_kn; rw [lw_fz (by omega)]; exact (by decide : (0 : Int32).toNatClampNeg < 8)
  · unfold cx_kn; rw [lw_fz (by omega)]; rfl
  · unfold cx_cn; rw [lw_fz (by omega)]; exact (by decide : (0 : Int32).toNatClampNeg ≤ 4)
  · unfold cx_cn; rw [lw_fz (by omega)]; rfl
  · exact (by decide : (5 : Int32).toNatClampNeg < 6)
  · rfl
  · unfold cx_tn; rw [lw_fz (by omega)]; exact (by decide : (0 : Int32).toNatClampNeg ≤ 4)
  · unfold cx_tn; rw [lw_fz (by omega)]; rfl
  · rw [o0] at hk; omega
end Sr19
