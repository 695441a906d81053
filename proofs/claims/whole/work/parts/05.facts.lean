/-! FACTS OF THE TABLES -/
theorem en_getD_m {α : Type} {l : List α} {n : Nat} {x : α} (h : n < l.length) : l.getD n x ∈ l := by
  rw [List.getD_eq_getElem?_getD, List.getElem?_eq_getElem h]
  exact List.getElem_mem h
theorem en_getD_d {α : Type} {l : List α} {n : Nat} {x : α} (h : l.length ≤ n) : l.getD n x = x := by
  rw [List.getD_eq_getElem?_getD, List.getElem?_eq_none h]
  rfl
theorem en_kk0 : ∀ m ∈ [en_m0, en_m1, en_m2, en_m3, en_m4, en_m5, en_m6, en_m7, en_m8, en_m9, en_m10, en_m11, en_m12, en_m13, en_m14, en_m15], en_okm m := List.forall_mem_cons.mpr ⟨en_k0, List.forall_mem_cons.mpr ⟨en_k1, List.forall_mem_cons.mpr ⟨en_k2, List.forall_mem_cons.mpr ⟨en_k3, List.forall_mem_cons.mpr ⟨en_k4, List.forall_mem_cons.mpr ⟨en_k5, List.forall_mem_cons.mpr ⟨en_k6, List.forall_mem_cons.mpr ⟨en_k7, List.forall_mem_cons.mpr ⟨en_k8, List.forall_mem_cons.mpr ⟨en_k9, List.forall_mem_cons.mpr ⟨en_k10, List.forall_mem_cons.mpr ⟨en_k11, List.forall_mem_cons.mpr ⟨en_k12, List.forall_mem_cons.mpr ⟨en_k13, List.forall_mem_cons.mpr ⟨en_k14, List.forall_mem_cons.mpr ⟨en_k15, fun _ h => absurd h List.not_mem_nil⟩⟩⟩⟩⟩⟩⟩⟩⟩⟩⟩⟩⟩⟩⟩⟩
theorem en_kk1 : ∀ m ∈ [en_m16, en_m17, en_m18, en_m19, en_m20, en_m21, en_m22, en_m23, en_m24, en_m25, en_m26, en_m27, en_m28, en_m29, en_m30, en_m31], en_okm m := List.forall_mem_cons.mpr ⟨en_k16, List.forall_mem_cons.mpr ⟨en_k17, List.forall_mem_cons.mpr ⟨en_k18, List.forall_mem_cons.mpr ⟨en_k19, List.forall_mem_cons.mpr ⟨en_k20, List.forall_mem_cons.mpr ⟨en_k21, List.forall_mem_cons.mpr ⟨en_k22, List.forall_mem_cons.mpr ⟨en_k23, List.forall_mem_cons.mpr ⟨en_k24, List.forall_mem_cons.mpr ⟨en_k25, List.forall_mem_cons.mpr ⟨en_k26, List.forall_mem_cons.mpr ⟨en_k27, List.forall_mem_cons.mpr ⟨en_k28, List.forall_mem_cons.mpr ⟨en_k29, List.forall_mem_cons.mpr ⟨en_k30, List.forall_mem_cons.mpr ⟨en_k31, fun _ h => absurd h List.not_mem_nil⟩⟩⟩⟩⟩⟩⟩⟩⟩⟩⟩⟩⟩⟩⟩⟩
theorem en_kk2 : ∀ m ∈ [en_m32, en_m33, en_m34, en_m35, en_m36, en_m37, en_m38, en_m39, en_m40, en_m41, en_m42, en_m43, en_m44, en_m45, en_m46, en_m47], en_okm m := List.forall_mem_cons.mpr ⟨en_k32, List.forall_mem_cons.mpr ⟨en_k33, List.forall_mem_cons.mpr ⟨en_k34, List.forall_mem_cons.mpr ⟨en_k35, List.forall_mem_cons.mpr ⟨en_k36, List.forall_mem_cons.mpr ⟨en_k37, List.forall_mem_cons.mpr ⟨en_k38, List.forall_mem_cons.mpr ⟨en_k39, List.forall_mem_cons.mpr ⟨en_k40, List.forall_mem_cons.mpr ⟨en_k41, List.forall_mem_cons.mpr ⟨en_k42, List.forall_mem_cons.mpr ⟨en_k43, List.forall_mem_cons.mpr ⟨en_k44, List.forall_mem_cons.mpr ⟨en_k45, List.forall_mem_cons.mpr ⟨en_k46, List.forall_mem_cons.mpr ⟨en_k47, fun _ h => absurd h List.not_mem_nil⟩⟩⟩⟩⟩⟩⟩⟩⟩⟩⟩⟩⟩⟩⟩⟩
theorem en_kk3 : ∀ m ∈ [en_m48, en_m49, en_m50, en_m51, en_m52, en_m53, en_m54, en_m55, en_m56, en_m57, en_m58, en_m59, en_m60, en_m61, en_m62, en_m63], en_okm m := List.forall_mem_cons.mpr ⟨en_k48, List.forall_mem_cons.mpr ⟨en_k49, List.forall_mem_cons.mpr ⟨en_k50, List.forall_mem_cons.mpr ⟨en_k51, List.forall_mem_cons.mpr ⟨en_k52, List.forall_mem_cons.mpr ⟨en_k53, List.forall_mem_cons.mpr ⟨en_k54, List.forall_mem_cons.mpr ⟨en_k55, List.forall_mem_cons.mpr ⟨en_k56, List.forall_mem_cons.mpr ⟨en_k57, List.forall_mem_cons.mpr ⟨en_k58, List.forall_mem_cons.mpr ⟨en_k59, List.forall_mem_cons.mpr ⟨en_k60, List.forall_mem_cons.mpr ⟨en_k61, List.forall_mem_cons.mpr ⟨en_k62, List.forall_mem_cons.mpr ⟨en_k63, fun _ h => absurd h List.not_mem_nil⟩⟩⟩⟩⟩⟩⟩⟩⟩⟩⟩⟩⟩⟩⟩⟩
theorem en_kk4 : ∀ m ∈ [en_m64, en_m65, en_m66, en_m67, en_m68, en_m69, en_m70, en_m71, en_m72, en_m73, en_m74, en_m75, en_m76, en_m77, en_m78, en_m79], en_okm m := List.forall_mem_cons.mpr ⟨en_k64, List.forall_mem_cons.mpr ⟨en_k65, List.forall_mem_cons.mpr ⟨en_k66, List.forall_mem_cons.mpr ⟨en_k67, List.forall_mem_cons.mpr ⟨en_k68, List.forall_mem_cons.mpr ⟨en_k69, List.forall_mem_cons.mpr ⟨en_k70, List.forall_mem_cons.mpr ⟨en_k71, List.forall_mem_cons.mpr ⟨en_k72, List.forall_mem_cons.mpr ⟨en_k73, List.forall_mem_cons.mpr ⟨en_k74, List.forall_mem_cons.mpr ⟨en_k75, List.forall_mem_cons.mpr ⟨en_k76, List.forall_mem_cons.mpr ⟨en_k77, List.forall_mem_cons.mpr ⟨en_k78, List.forall_mem_cons.mpr ⟨en_k79, fun _ h => absurd h List.not_mem_nil⟩⟩⟩⟩⟩⟩⟩⟩⟩⟩⟩⟩⟩⟩⟩⟩
theorem en_kk5 : ∀ m ∈ [en_m80, en_m81, en_m82, en_m83, en_m84, en_m85, en_m86, en_m87, en_m88, en_m89, en_m90, en_m91, en_m92, en_m93, en_m94, en_m95], en_okm m := List.forall_mem_cons.mpr ⟨en_k80, List.forall_mem_cons.mpr ⟨en_k81, List.forall_mem_cons.mpr ⟨en_k82, List.forall_mem_cons.mpr ⟨en_k83, List.forall_mem_cons.mpr ⟨en_k84, List.forall_mem_cons.mpr ⟨en_k85, List.forall_mem_cons.mpr ⟨en_k86, List.forall_mem_cons.mpr ⟨en_k87, List.forall_mem_cons.mpr ⟨en_k88, List.forall_mem_cons.mpr ⟨en_k89, List.forall_mem_cons.mpr ⟨en_k90, List.forall_mem_cons.mpr ⟨en_k91, List.forall_mem_cons.mpr ⟨en_k92, List.forall_mem_cons.mpr ⟨en_k93, List.forall_mem_cons.mpr ⟨en_k94, List.forall_mem_cons.mpr ⟨en_k95, fun _ h => absurd h List.not_mem_nil⟩⟩⟩⟩⟩⟩⟩⟩⟩⟩⟩⟩⟩⟩⟩⟩
theorem en_kk6 : ∀ m ∈ [en_m96, en_m97, en_m98, en_m99, en_m100, en_m101, en_m102, en_m103, en_m104, en_m105, en_m106, en_m107, en_m108, en_m109, en_m110, en_m111], en_okm m := List.forall_mem_cons.mpr ⟨en_k96, List.forall_mem_cons.mpr ⟨en_k97, List.forall_mem_cons.mpr ⟨en_k98, List.forall_mem_cons.mpr ⟨en_k99, List.forall_mem_cons.mpr ⟨en_k100, List.forall_mem_cons.mpr ⟨en_k101, List.forall_mem_cons.mpr ⟨en_k102, List.forall_mem_cons.mpr ⟨en_k103, List.forall_mem_cons.mpr ⟨en_k104, List.forall_mem_cons.mpr ⟨en_k105, List.forall_mem_cons.mpr ⟨en_k106, List.forall_mem_cons.mpr ⟨en_k107, List.forall_mem_cons.mpr ⟨en_k108, List.forall_mem_cons.mpr ⟨en_k109, List.forall_mem_cons.mpr ⟨en_k110, List.forall_mem_cons.mpr ⟨en_k111, fun _ h => absurd h List.not_mem_nil⟩⟩⟩⟩⟩⟩⟩⟩⟩⟩⟩⟩⟩⟩⟩⟩
theorem en_kk7 : ∀ m ∈ [en_m112, en_m113, en_m114, en_m115, en_m116, en_m117, en_m118, en_m119, en_m120, en_m121, en_m122, en_m123, en_m124, en_m125, en_m126, en_m127], en_okm m := List.forall_mem_cons.mpr ⟨en_k112, List.forall_mem_cons.mpr ⟨en_k113, List.forall_mem_cons.mpr ⟨en_k114, List.forall_mem_cons.mpr ⟨en_k115, List.forall_mem_cons.mpr ⟨en_k116, List.forall_mem_cons.mpr ⟨en_k117, List.forall_mem_cons.mpr ⟨en_k118, List.forall_mem_cons.mpr ⟨en_k119, List.forall_mem_cons.mpr ⟨en_k120, List.forall_mem_cons.mpr ⟨en_k121, List.forall_mem_cons.mpr ⟨en_k122, List.forall_mem_cons.mpr ⟨en_k123, List.forall_mem_cons.mpr ⟨en_k124, List.forall_mem_cons.mpr ⟨en_k125, List.forall_mem_cons.mpr ⟨en_k126, List.forall_mem_cons.mpr ⟨en_k127, fun _ h => absurd h List.not_mem_nil⟩⟩⟩⟩⟩⟩⟩⟩⟩⟩⟩⟩⟩⟩⟩⟩
theorem en_kk8 : ∀ m ∈ [en_m128], en_okm m := List.forall_mem_cons.mpr ⟨en_k128, fun _ h => absurd h List.not_mem_nil⟩
set_option maxRecDepth 100000 in
theorem en_M_ok : ∀ m ∈ en_M, en_okm m := by
  show ∀ m ∈ [en_m0, en_m1, en_m2, en_m3, en_m4, en_m5, en_m6, en_m7, en_m8, en_m9, en_m10, en_m11, en_m12, en_m13, en_m14, en_m15] ++ ([en_m16, en_m17, en_m18, en_m19, en_m20, en_m21, en_m22, en_m23, en_m24, en_m25, en_m26, en_m27, en_m28, en_m29, en_m30, en_m31] ++ ([en_m32, en_m33, en_m34, en_m35, en_m36, en_m37, en_m38, en_m39, en_m40, en_m41, en_m42, en_m43, en_m44, en_m45, en_m46, en_m47] ++ ([en_m48, en_m49, en_m50, en_m51, en_m52, en_m53, en_m54, en_m55, en_m56, en_m57, en_m58, en_m59, en_m60, en_m61, en_m62, en_m63] ++ ([en_m64, en_m65, en_m66, en_m67, en_m68, en_m69, en_m70, en_m71, en_m72, en_m73, en_m74, en_m75, en_m76, en_m77, en_m78, en_m79] ++ ([en_m80, en_m81, en_m82, en_m83, en_m84, en_m85, en_m86, en_m87, en_m88, en_m89, en_m90, en_m91, en_m92, en_m93, en_m94, en_m95] ++ ([en_m96, en_m97, en_m98, en_m99, en_m100, en_m101, en_m102, en_m103, en_m104, en_m105, en_m106, en_m107, en_m108, en_m109, en_m110, en_m111] ++ ([en_m112, en_m113, en_m114, en_m115, en_m116, en_m117, en_m118, en_m119, en_m120, en_m121, en_m122, en_m123, en_m124, en_m125, en_m126, en_m127] ++ ([en_m128])))))))), en_okm m
  exact List.forall_mem_append.mpr ⟨en_kk0, List.forall_mem_append.mpr ⟨en_kk1, List.forall_mem_append.mpr ⟨en_kk2, List.forall_mem_append.mpr ⟨en_kk3, List.forall_mem_append.mpr ⟨en_kk4, List.forall_mem_append.mpr ⟨en_kk5, List.forall_mem_append.mpr ⟨en_kk6, List.forall_mem_append.mpr ⟨en_kk7, en_kk8⟩⟩⟩⟩⟩⟩⟩⟩
theorem en_cd_all {y pc : Nat} {q : en_I} (h : en_cd y pc = some q) : decode (en_mb y) pc = .ok (q.1, q.2.1) ∧ en_fit (en_mo y) q = true := by
  unfold en_cd at h
  cases hf : (en_me y).2.2.2.find? (fun e => e.1 == pc) with
  | none => rw [hf] at h; cases h
  | some e =>
    rw [hf] at h
    cases h
    have h1 := List.mem_of_find?_eq_some hf
    have h2 : e.1 = pc := by simpa using List.find?_some hf
    subst h2
    have hm : en_me y ∈ en_M := by
      unfold en_me at h1 ⊢
      by_cases hy : y < en_M.length
      · exact en_getD_m hy
      · rw [en_getD_d (Nat.le_of_not_lt hy)] at h1
        cases h1
    exact en_M_ok _ hm e h1
theorem en_cd_ok {y pc : Nat} {q : en_I} (h : en_cd y pc = some q) : decode (en_mb y) pc = .ok (q.1, q.2.1) := (en_cd_all h).1
def en_flw (e : Nat × Nat × Nat × Nat) : Cond := .fieldLink (en_cn e.1) e.2.1 (en_Ft (en_kc e.2.2.1) e.2.2.2).1 (en_Ft (en_kc e.2.2.1) e.2.2.2).2.1 (en_Ft (en_kc e.2.2.1) e.2.2.2).2.2.1
set_option maxRecDepth 100000 in
theorem en_flF_ok : ∀ q ∈ en_flF, lw_tbl[q.2]? = some (en_flw q.1) ∧ en_kt q.1.2.2.1 = 0 ∧ q.1.2.2.2 < en_N (en_kc q.1.2.2.1) := by decide +kernel
theorem en_fl_ok {o i k j : Nat} (h : (en_flF.map (·.1)).contains (o, i, k, j) = true) : en_kt k = 0 ∧ j < en_N (en_kc k) ∧ Cond.fieldLink (en_cn o) i (en_Ft (en_kc k) j).1 (en_Ft (en_kc k) j).2.1 (en_Ft (en_kc k) j).2.2.1 ∈ en_all := by
  have h1 : (o, i, k, j) ∈ en_flF.map (·.1) := by simpa using h
  obtain ⟨q, hq, e⟩ := List.mem_map.mp h1
  obtain ⟨a1, a2, a3⟩ := en_flF_ok q hq
  rw [e] at a1 a2 a3
  exact ⟨a2, a3, en_all_m q.2 a1 rfl⟩
def en_mlc (q : (Nat × Nat × Nat) × (Nat × Nat × Nat × Nat)) : Prop := q.1.2.2 < 128 ∧ lw_tbl[q.2.1]? = some (.methodLink (en_cn q.1.1) q.1.2.1 (en_my q.1.2.2)) ∧
  (en_ms q.1.2.2 = false → lw_tbl[q.2.2.1]? = some (.instanceMethod (en_my q.1.2.2)) ∧ lw_tbl[q.2.2.2.1]? = some (.selects (en_my q.1.2.2).cls (en_my q.1.2.2) (en_my q.1.2.2)) ∧ lw_tbl[q.2.2.2.2]? = some (.initialized (en_my q.1.2.2).cls) ∧ en_kt (en_mk q.1.2.2) = 0 ∧ en_cn (en_kc (en_mk q.1.2.2)) = (en_my q.1.2.2).cls) ∧
  (en_ms q.1.2.2 = true → lw_tbl[q.2.2.1]? = some (.static (en_my q.1.2.2)) ∧ lw_tbl[q.2.2.2.2]? = some (.initialized (en_my q.1.2.2).cls) ∧ (en_my q.1.2.2).cls = en_cn q.1.1)
set_option maxRecDepth 100000 in
theorem en_mlF_ok : ∀ q ∈ en_mlF, en_mlc q := by unfold en_mlc; decide +kernel
theorem en_ml_ok {o i y : Nat} (h : (en_mlF.map (·.1)).contains (o, i, y) = true) : en_va y = true ∧ Cond.methodLink (en_cn o) i (en_my y) ∈ en_all ∧
    (en_ms y = false → Cond.instanceMethod (en_my y) ∈ en_all ∧ Cond.selects (en_my y).cls (en_my y) (en_my y) ∈ en_all ∧ Cond.initialized (en_my y).cls ∈ en_all ∧ en_kt (en_mk y) = 0 ∧ en_cn (en_kc (en_mk y)) = (en_my y).cls) ∧
    (en_ms y = true → Cond.static (en_my y) ∈ en_all ∧ Cond.initialized (en_my y).cls ∈ en_all ∧ (en_my y).cls = en_cn o) := by
  have h1 : (o, i, y) ∈ en_mlF.map (·.1) := by simpa using h
  obtain ⟨q, hq, e⟩ := List.mem_map.mp h1
  obtain ⟨a1, a2, a3, a4⟩ := en_mlF_ok q hq
  rw [e] at a1 a2 a3 a4
  refine ⟨by unfold en_va; exact decide_eq_true a1, en_all_m _ a2 rfl, fun z => ?_, fun z => ?_⟩
  · obtain ⟨b1, b2, b3, b4, b5⟩ := a3 z
    exact ⟨en_all_m _ b1 rfl, en_all_m _ b2 rfl, en_all_m _ b3 rfl, b4, b5⟩
  · obtain ⟨b1, b2, b3⟩ := a4 z
    exact ⟨en_all_m _ b1 rfl, en_all_m _ b2 rfl, b3⟩
set_option maxRecDepth 100000 in
theorem en_lays_ok : ∀ c, c < 8 → ∀ w ∈ u_ws (en_cn c) (en_Ft c) (en_N c), w ∈ lw_tbl ∧ goodWord w = true := by decide +kernel
set_option maxRecDepth 100000 in
theorem en_kc_ok : ∀ k, k < 61 → en_kt k = 0 → en_kc k < 8 := by decide +kernel
theorem en_kt_lt {k : Nat} (h : en_kt k = 0) : k < 61 := by
  by_cases hk : k < 61
  · exact hk
  · unfold en_kt at h
    rw [en_getD_d (by simpa using Nat.le_of_not_lt hk)] at h
    cases h
theorem en_c8 {k : Nat} (h : en_kt k = 0) : en_kc k < 8 := en_kc_ok k (en_kt_lt h) h
theorem en_lay_ok {k : Nat} (h : en_kt k = 0) (w : Cond) (hw : w ∈ u_ws (en_cn (en_kc k)) (en_Ft (en_kc k)) (en_N (en_kc k))) : w ∈ en_all := by
  obtain ⟨a, b⟩ := en_lays_ok _ (en_c8 h) w hw
  exact List.mem_filter.mpr ⟨a, b⟩
theorem en_cl_all : ∀ c, c < 8 → en_cl[c]? = some (en_cn c, en_Ft c, en_N c) := by
  intro c hc
  match c, hc with
  | 0, _ => rfl
  | 1, _ => rfl
  | 2, _ => rfl
  | 3, _ => rfl
  | 4, _ => rfl
  | 5, _ => rfl
  | 6, _ => rfl
  | 7, _ => rfl
theorem en_cl_ok {k : Nat} (h : en_kt k = 0) : en_cl[en_kc k]? = some (en_cn (en_kc k), en_Ft (en_kc k), en_N (en_kc k)) := en_cl_all _ (en_c8 h)
set_option maxRecDepth 100000 in
theorem en_ty_all : ∀ c, c < 8 → ∀ k, k < en_N c → parseFieldDescriptor (en_Ft c k).2.2.1 = some (en_ty c k) := by decide +kernel
theorem en_ty_ok {k : Nat} (h : en_kt k = 0) : ∀ j, j < en_N (en_kc k) → parseFieldDescriptor (en_Ft (en_kc k) j).2.2.1 = some (en_ty (en_kc k) j) := en_ty_all _ (en_c8 h)
set_option maxRecDepth 100000 in
theorem en_nm_all : ∀ c, c < 8 → ∀ a, a < en_N c → ∀ b, b < en_N c → a ≠ b → (en_Ft c a).2.1 ≠ (en_Ft c b).2.1 := by decide +kernel
theorem en_nm_ok {k : Nat} (h : en_kt k = 0) : ∀ a, a < en_N (en_kc k) → ∀ b, b < en_N (en_kc k) → a ≠ b → (en_Ft (en_kc k) a).2.1 ≠ (en_Ft (en_kc k) b).2.1 := en_nm_all _ (en_c8 h)
set_option maxRecDepth 100000 in
theorem en_pw_all : ∀ k, k < 17 → ∀ j, j < 47 → (en_pw k j = 1 → en_fr k j = none ∧ (en_Ft (en_kc k) j).2.2.2 = false ∧ parseFieldDescriptor (en_Ft (en_kc k) j).2.2.1 = some .int) ∧ (en_pw k j = 2 → en_fr k j = none ∧ (en_Ft (en_kc k) j).2.2.2 = false ∧ parseFieldDescriptor (en_Ft (en_kc k) j).2.2.1 = some .boolean) := by decide +kernel
theorem en_pw_lt {k j : Nat} (h : en_pw k j ≠ 0) : k < 17 ∧ j < 47 := by
  unfold en_pw at h
  constructor
  · by_cases hk : k < 17
    · exact hk
    · rw [en_getD_d (l := en_pwL) (Nat.le_of_not_lt (show ¬ k < en_pwL.length from hk))] at h
      exact absurd rfl h
  · by_cases hj : j < 47
    · exact hj
    · exfalso
      apply h
      apply en_getD_d
      by_cases hk : k < en_pwL.length
      · have hh : ∀ l ∈ en_pwL, l.length ≤ 47 := by decide +kernel
        exact Nat.le_trans (hh _ (en_getD_m hk)) (Nat.le_of_not_lt hj)
      · rw [en_getD_d (Nat.le_of_not_lt hk)]
        exact Nat.zero_le _
theorem en_pw_1 {k j : Nat} (h : en_pw k j = 1) : en_fr k j = none ∧ (en_Ft (en_kc k) j).2.2.2 = false ∧ parseFieldDescriptor (en_Ft (en_kc k) j).2.2.1 = some .int := by
  obtain ⟨a, b⟩ := en_pw_lt (k := k) (j := j) (by rw [h]; decide)
  exact (en_pw_all k a j b).1 h
theorem en_pw_2 {k j : Nat} (h : en_pw k j = 2) : en_fr k j = none ∧ (en_Ft (en_kc k) j).2.2.2 = false ∧ parseFieldDescriptor (en_Ft (en_kc k) j).2.2.1 = some .boolean := by
  obtain ⟨a, b⟩ := en_pw_lt (k := k) (j := j) (by rw [h]; decide)
  exact (en_pw_all k a j b).2 h
theorem en_cnt_lt {k i : Nat} (h : i < en_cnt k) : k < 63 := by
  by_cases hk : k < 63
  · exact hk
  · unfold en_cnt at h
    have hl : en_cntL.length ≤ 63 := by decide +kernel
    rw [en_getD_d (Nat.le_trans hl (Nat.le_of_not_lt hk))] at h
    exact absurd h (Nat.not_lt_zero i)
set_option maxRecDepth 100000 in
theorem en_allc_nd : en_allc.Nodup := by decide +kernel
def en_ret (n : Nat) : Option FieldType := match n with
  | 0 => none
  | 1 => some .int
  | _ => some .boolean
def en_cwm (m : en_Me) : Prop := Cond.code m.1 m.2.1 m.2.2.1.1 (en_ret m.2.2.1.2.1) ∈ lw_tbl
set_option maxRecDepth 100000 in
theorem en_cw0 : en_cwm en_m0 := List.mem_of_getElem? (i := 345) rfl
set_option maxRecDepth 100000 in
theorem en_cw1 : en_cwm en_m1 := List.mem_of_getElem? (i := 353) rfl
set_option maxRecDepth 100000 in
theorem en_cw2 : en_cwm en_m2 := List.mem_of_getElem? (i := 639) rfl
set_option maxRecDepth 100000 in
theorem en_cw3 : en_cwm en_m3 := List.mem_of_getElem? (i := 590) rfl
set_option maxRecDepth 100000 in
theorem en_cw4 : en_cwm en_m4 := List.mem_of_getElem? (i := 484) rfl
set_option maxRecDepth 100000 in
theorem en_cw5 : en_cwm en_m5 := List.mem_of_getElem? (i := 594) rfl
set_option maxRecDepth 100000 in
theorem en_cw6 : en_cwm en_m6 := List.mem_of_getElem? (i := 598) rfl
set_option maxRecDepth 100000 in
theorem en_cw7 : en_cwm en_m7 := List.mem_of_getElem? (i := 488) rfl
set_option maxRecDepth 100000 in
theorem en_cw8 : en_cwm en_m8 := List.mem_of_getElem? (i := 574) rfl
set_option maxRecDepth 100000 in
theorem en_cw9 : en_cwm en_m9 := List.mem_of_getElem? (i := 578) rfl
set_option maxRecDepth 100000 in
theorem en_cw10 : en_cwm en_m10 := List.mem_of_getElem? (i := 607) rfl
set_option maxRecDepth 100000 in
theorem en_cw11 : en_cwm en_m11 := List.mem_of_getElem? (i := 631) rfl
set_option maxRecDepth 100000 in
theorem en_cw12 : en_cwm en_m12 := List.mem_of_getElem? (i := 400) rfl
set_option maxRecDepth 100000 in
theorem en_cw13 : en_cwm en_m13 := List.mem_of_getElem? (i := 384) rfl
set_option maxRecDepth 100000 in
theorem en_cw14 : en_cwm en_m14 := List.mem_of_getElem? (i := 452) rfl
set_option maxRecDepth 100000 in
theorem en_cw15 : en_cwm en_m15 := List.mem_of_getElem? (i := 505) rfl
set_option maxRecDepth 100000 in
theorem en_cw16 : en_cwm en_m16 := List.mem_of_getElem? (i := 651) rfl
set_option maxRecDepth 100000 in
theorem en_cw17 : en_cwm en_m17 := List.mem_of_getElem? (i := 341) rfl
set_option maxRecDepth 100000 in
theorem en_cw18 : en_cwm en_m18 := List.mem_of_getElem? (i := 349) rfl
set_option maxRecDepth 100000 in
theorem en_cw19 : en_cwm en_m19 := List.mem_of_getElem? (i := 464) rfl
set_option maxRecDepth 100000 in
theorem en_cw20 : en_cwm en_m20 := List.mem_of_getElem? (i := 376) rfl
set_option maxRecDepth 100000 in
theorem en_cw21 : en_cwm en_m21 := List.mem_of_getElem? (i := 586) rfl
set_option maxRecDepth 100000 in
theorem en_cw22 : en_cwm en_m22 := List.mem_of_getElem? (i := 476) rfl
set_option maxRecDepth 100000 in
theorem en_cw23 : en_cwm en_m23 := List.mem_of_getElem? (i := 493) rfl
set_option maxRecDepth 100000 in
theorem en_cw24 : en_cwm en_m24 := List.mem_of_getElem? (i := 472) rfl
set_option maxRecDepth 100000 in
theorem en_cw25 : en_cwm en_m25 := List.mem_of_getElem? (i := 480) rfl
set_option maxRecDepth 100000 in
theorem en_cw26 : en_cwm en_m26 := List.mem_of_getElem? (i := 334) rfl
set_option maxRecDepth 100000 in
theorem en_cw27 : en_cwm en_m27 := List.mem_of_getElem? (i := 396) rfl
set_option maxRecDepth 100000 in
theorem en_cw28 : en_cwm en_m28 := List.mem_of_getElem? (i := 365) rfl
set_option maxRecDepth 100000 in
theorem en_cw29 : en_cwm en_m29 := List.mem_of_getElem? (i := 432) rfl
set_option maxRecDepth 100000 in
theorem en_cw30 : en_cwm en_m30 := List.mem_of_getElem? (i := 525) rfl
set_option maxRecDepth 100000 in
theorem en_cw31 : en_cwm en_m31 := List.mem_of_getElem? (i := 546) rfl
set_option maxRecDepth 100000 in
theorem en_cw32 : en_cwm en_m32 := List.mem_of_getElem? (i := 497) rfl
set_option maxRecDepth 100000 in
theorem en_cw33 : en_cwm en_m33 := List.mem_of_getElem? (i := 320) rfl
set_option maxRecDepth 100000 in
theorem en_cw34 : en_cwm en_m34 := List.mem_of_getElem? (i := 361) rfl
set_option maxRecDepth 100000 in
theorem en_cw35 : en_cwm en_m35 := List.mem_of_getElem? (i := 372) rfl
set_option maxRecDepth 100000 in
theorem en_cw36 : en_cwm en_m36 := List.mem_of_getElem? (i := 380) rfl
set_option maxRecDepth 100000 in
theorem en_cw37 : en_cwm en_m37 := List.mem_of_getElem? (i := 388) rfl
set_option maxRecDepth 100000 in
theorem en_cw38 : en_cwm en_m38 := List.mem_of_getElem? (i := 404) rfl
set_option maxRecDepth 100000 in
theorem en_cw39 : en_cwm en_m39 := List.mem_of_getElem? (i := 408) rfl
set_option maxRecDepth 100000 in
theorem en_cw40 : en_cwm en_m40 := List.mem_of_getElem? (i := 611) rfl
set_option maxRecDepth 100000 in
theorem en_cw41 : en_cwm en_m41 := List.mem_of_getElem? (i := 615) rfl
set_option maxRecDepth 100000 in
theorem en_cw42 : en_cwm en_m42 := List.mem_of_getElem? (i := 619) rfl
set_option maxRecDepth 100000 in
theorem en_cw43 : en_cwm en_m43 := List.mem_of_getElem? (i := 627) rfl
set_option maxRecDepth 100000 in
theorem en_cw44 : en_cwm en_m44 := List.mem_of_getElem? (i := 635) rfl
set_option maxRecDepth 100000 in
theorem en_cw45 : en_cwm en_m45 := List.mem_of_getElem? (i := 643) rfl
set_option maxRecDepth 100000 in
theorem en_cw46 : en_cwm en_m46 := List.mem_of_getElem? (i := 647) rfl
set_option maxRecDepth 100000 in
theorem en_cw47 : en_cwm en_m47 := List.mem_of_getElem? (i := 655) rfl
set_option maxRecDepth 100000 in
theorem en_cw48 : en_cwm en_m48 := List.mem_of_getElem? (i := 659) rfl
set_option maxRecDepth 100000 in
theorem en_cw49 : en_cwm en_m49 := List.mem_of_getElem? (i := 327) rfl
set_option maxRecDepth 100000 in
theorem en_cw50 : en_cwm en_m50 := List.mem_of_getElem? (i := 330) rfl
set_option maxRecDepth 100000 in
theorem en_cw51 : en_cwm en_m51 := List.mem_of_getElem? (i := 368) rfl
set_option maxRecDepth 100000 in
theorem en_cw52 : en_cwm en_m52 := List.mem_of_getElem? (i := 324) rfl
set_option maxRecDepth 100000 in
theorem en_cw53 : en_cwm en_m53 := List.mem_of_getElem? (i := 337) rfl
set_option maxRecDepth 100000 in
theorem en_cw54 : en_cwm en_m54 := List.mem_of_getElem? (i := 357) rfl
set_option maxRecDepth 100000 in
theorem en_cw55 : en_cwm en_m55 := List.mem_of_getElem? (i := 412) rfl
set_option maxRecDepth 100000 in
theorem en_cw56 : en_cwm en_m56 := List.mem_of_getElem? (i := 416) rfl
set_option maxRecDepth 100000 in
theorem en_cw57 : en_cwm en_m57 := List.mem_of_getElem? (i := 420) rfl
set_option maxRecDepth 100000 in
theorem en_cw58 : en_cwm en_m58 := List.mem_of_getElem? (i := 424) rfl
set_option maxRecDepth 100000 in
theorem en_cw59 : en_cwm en_m59 := List.mem_of_getElem? (i := 428) rfl
set_option maxRecDepth 100000 in
theorem en_cw60 : en_cwm en_m60 := List.mem_of_getElem? (i := 501) rfl
set_option maxRecDepth 100000 in
theorem en_cw61 : en_cwm en_m61 := List.mem_of_getElem? (i := 554) rfl
set_option maxRecDepth 100000 in
theorem en_cw62 : en_cwm en_m62 := List.mem_of_getElem? (i := 456) rfl
set_option maxRecDepth 100000 in
theorem en_cw63 : en_cwm en_m63 := List.mem_of_getElem? (i := 460) rfl
set_option maxRecDepth 100000 in
theorem en_cw64 : en_cwm en_m64 := List.mem_of_getElem? (i := 534) rfl
set_option maxRecDepth 100000 in
theorem en_cw65 : en_cwm en_m65 := List.mem_of_getElem? (i := 538) rfl
set_option maxRecDepth 100000 in
theorem en_cw66 : en_cwm en_m66 := List.mem_of_getElem? (i := 542) rfl
set_option maxRecDepth 100000 in
theorem en_cw67 : en_cwm en_m67 := List.mem_of_getElem? (i := 582) rfl
set_option maxRecDepth 100000 in
theorem en_cw68 : en_cwm en_m68 := List.mem_of_getElem? (i := 448) rfl
set_option maxRecDepth 100000 in
theorem en_cw69 : en_cwm en_m69 := List.mem_of_getElem? (i := 468) rfl
set_option maxRecDepth 100000 in
theorem en_cw70 : en_cwm en_m70 := List.mem_of_getElem? (i := 436) rfl
set_option maxRecDepth 100000 in
theorem en_cw71 : en_cwm en_m71 := List.mem_of_getElem? (i := 440) rfl
set_option maxRecDepth 100000 in
theorem en_cw72 : en_cwm en_m72 := List.mem_of_getElem? (i := 444) rfl
set_option maxRecDepth 100000 in
theorem en_cw73 : en_cwm en_m73 := List.mem_of_getElem? (i := 509) rfl
set_option maxRecDepth 100000 in
theorem en_cw74 : en_cwm en_m74 := List.mem_of_getElem? (i := 513) rfl
set_option maxRecDepth 100000 in
theorem en_cw75 : en_cwm en_m75 := List.mem_of_getElem? (i := 517) rfl
set_option maxRecDepth 100000 in
theorem en_cw76 : en_cwm en_m76 := List.mem_of_getElem? (i := 521) rfl
set_option maxRecDepth 100000 in
theorem en_cw77 : en_cwm en_m77 := List.mem_of_getElem? (i := 530) rfl
set_option maxRecDepth 100000 in
theorem en_cw78 : en_cwm en_m78 := List.mem_of_getElem? (i := 550) rfl
set_option maxRecDepth 100000 in
theorem en_cw79 : en_cwm en_m79 := List.mem_of_getElem? (i := 558) rfl
set_option maxRecDepth 100000 in
theorem en_cw80 : en_cwm en_m80 := List.mem_of_getElem? (i := 562) rfl
set_option maxRecDepth 100000 in
theorem en_cw81 : en_cwm en_m81 := List.mem_of_getElem? (i := 570) rfl
set_option maxRecDepth 100000 in
theorem en_cw82 : en_cwm en_m82 := List.mem_of_getElem? (i := 603) rfl
set_option maxRecDepth 100000 in
theorem en_cw83 : en_cwm en_m83 := List.mem_of_getElem? (i := 623) rfl
set_option maxRecDepth 100000 in
theorem en_cw84 : en_cwm en_m84 := List.mem_of_getElem? (i := 392) rfl
set_option maxRecDepth 100000 in
theorem en_cw85 : en_cwm en_m85 := List.mem_of_getElem? (i := 566) rfl
set_option maxRecDepth 100000 in
theorem en_cw86 : en_cwm en_m86 := List.mem_of_getElem? (i := 815) rfl
set_option maxRecDepth 100000 in
theorem en_cw87 : en_cwm en_m87 := List.mem_of_getElem? (i := 818) rfl
set_option maxRecDepth 100000 in
theorem en_cw88 : en_cwm en_m88 := List.mem_of_getElem? (i := 821) rfl
set_option maxRecDepth 100000 in
theorem en_cw89 : en_cwm en_m89 := List.mem_of_getElem? (i := 825) rfl
set_option maxRecDepth 100000 in
theorem en_cw90 : en_cwm en_m90 := List.mem_of_getElem? (i := 812) rfl
set_option maxRecDepth 100000 in
theorem en_cw91 : en_cwm en_m91 := List.mem_of_getElem? (i := 833) rfl
set_option maxRecDepth 100000 in
theorem en_cw92 : en_cwm en_m92 := List.mem_of_getElem? (i := 829) rfl
set_option maxRecDepth 100000 in
theorem en_cw93 : en_cwm en_m93 := List.mem_of_getElem? (i := 837) rfl
set_option maxRecDepth 100000 in
theorem en_cw94 : en_cwm en_m94 := List.mem_of_getElem? (i := 841) rfl
set_option maxRecDepth 100000 in
theorem en_cw95 : en_cwm en_m95 := List.mem_of_getElem? (i := 889) rfl
set_option maxRecDepth 100000 in
theorem en_cw96 : en_cwm en_m96 := List.mem_of_getElem? (i := 921) rfl
set_option maxRecDepth 100000 in
theorem en_cw97 : en_cwm en_m97 := List.mem_of_getElem? (i := 893) rfl
set_option maxRecDepth 100000 in
theorem en_cw98 : en_cwm en_m98 := List.mem_of_getElem? (i := 897) rfl
set_option maxRecDepth 100000 in
theorem en_cw99 : en_cwm en_m99 := List.mem_of_getElem? (i := 885) rfl
set_option maxRecDepth 100000 in
theorem en_cw100 : en_cwm en_m100 := List.mem_of_getElem? (i := 942) rfl
set_option maxRecDepth 100000 in
theorem en_cw101 : en_cwm en_m101 := List.mem_of_getElem? (i := 873) rfl
set_option maxRecDepth 100000 in
theorem en_cw102 : en_cwm en_m102 := List.mem_of_getElem? (i := 877) rfl
set_option maxRecDepth 100000 in
theorem en_cw103 : en_cwm en_m103 := List.mem_of_getElem? (i := 869) rfl
set_option maxRecDepth 100000 in
theorem en_cw104 : en_cwm en_m104 := List.mem_of_getElem? (i := 901) rfl
set_option maxRecDepth 100000 in
theorem en_cw105 : en_cwm en_m105 := List.mem_of_getElem? (i := 905) rfl
set_option maxRecDepth 100000 in
theorem en_cw106 : en_cwm en_m106 := List.mem_of_getElem? (i := 909) rfl
set_option maxRecDepth 100000 in
theorem en_cw107 : en_cwm en_m107 := List.mem_of_getElem? (i := 913) rfl
set_option maxRecDepth 100000 in
theorem en_cw108 : en_cwm en_m108 := List.mem_of_getElem? (i := 917) rfl
set_option maxRecDepth 100000 in
theorem en_cw109 : en_cwm en_m109 := List.mem_of_getElem? (i := 925) rfl
set_option maxRecDepth 100000 in
theorem en_cw110 : en_cwm en_m110 := List.mem_of_getElem? (i := 845) rfl
set_option maxRecDepth 100000 in
theorem en_cw111 : en_cwm en_m111 := List.mem_of_getElem? (i := 881) rfl
set_option maxRecDepth 100000 in
theorem en_cw112 : en_cwm en_m112 := List.mem_of_getElem? (i := 934) rfl
set_option maxRecDepth 100000 in
theorem en_cw113 : en_cwm en_m113 := List.mem_of_getElem? (i := 853) rfl
set_option maxRecDepth 100000 in
theorem en_cw114 : en_cwm en_m114 := List.mem_of_getElem? (i := 849) rfl
set_option maxRecDepth 100000 in
theorem en_cw115 : en_cwm en_m115 := List.mem_of_getElem? (i := 857) rfl
set_option maxRecDepth 100000 in
theorem en_cw116 : en_cwm en_m116 := List.mem_of_getElem? (i := 938) rfl
set_option maxRecDepth 100000 in
theorem en_cw117 : en_cwm en_m117 := List.mem_of_getElem? (i := 930) rfl
set_option maxRecDepth 100000 in
theorem en_cw118 : en_cwm en_m118 := List.mem_of_getElem? (i := 865) rfl
set_option maxRecDepth 100000 in
theorem en_cw119 : en_cwm en_m119 := List.mem_of_getElem? (i := 861) rfl
set_option maxRecDepth 100000 in
theorem en_cw120 : en_cwm en_m120 := List.mem_of_getElem? (i := 946) rfl
set_option maxRecDepth 100000 in
theorem en_cw121 : en_cwm en_m121 := List.mem_of_getElem? (i := 950) rfl
set_option maxRecDepth 100000 in
theorem en_cw122 : en_cwm en_m122 := List.mem_of_getElem? (i := 954) rfl
set_option maxRecDepth 100000 in
theorem en_cw123 : en_cwm en_m123 := List.mem_of_getElem? (i := 958) rfl
set_option maxRecDepth 100000 in
theorem en_cw124 : en_cwm en_m124 := List.mem_of_getElem? (i := 962) rfl
set_option maxRecDepth 100000 in
theorem en_cw125 : en_cwm en_m125 := List.mem_of_getElem? (i := 966) rfl
set_option maxRecDepth 100000 in
theorem en_cw126 : en_cwm en_m126 := List.mem_of_getElem? (i := 970) rfl
set_option maxRecDepth 100000 in
theorem en_cw127 : en_cwm en_m127 := List.mem_of_getElem? (i := 974) rfl
theorem en_cww0 : ∀ m ∈ [en_m0, en_m1, en_m2, en_m3, en_m4, en_m5, en_m6, en_m7, en_m8, en_m9, en_m10, en_m11, en_m12, en_m13, en_m14, en_m15], en_cwm m := List.forall_mem_cons.mpr ⟨en_cw0, List.forall_mem_cons.mpr ⟨en_cw1, List.forall_mem_cons.mpr ⟨en_cw2, List.forall_mem_cons.mpr ⟨en_cw3, List.forall_mem_cons.mpr ⟨en_cw4, List.forall_mem_cons.mpr ⟨en_cw5, List.forall_mem_cons.mpr ⟨en_cw6, List.forall_mem_cons.mpr ⟨en_cw7, List.forall_mem_cons.mpr ⟨en_cw8, List.forall_mem_cons.mpr ⟨en_cw9, List.forall_mem_cons.mpr ⟨en_cw10, List.forall_mem_cons.mpr ⟨en_cw11, List.forall_mem_cons.mpr ⟨en_cw12, List.forall_mem_cons.mpr ⟨en_cw13, List.forall_mem_cons.mpr ⟨en_cw14, List.forall_mem_cons.mpr ⟨en_cw15, fun _ h => absurd h List.not_mem_nil⟩⟩⟩⟩⟩⟩⟩⟩⟩⟩⟩⟩⟩⟩⟩⟩
theorem en_cww1 : ∀ m ∈ [en_m16, en_m17, en_m18, en_m19, en_m20, en_m21, en_m22, en_m23, en_m24, en_m25, en_m26, en_m27, en_m28, en_m29, en_m30, en_m31], en_cwm m := List.forall_mem_cons.mpr ⟨en_cw16, List.forall_mem_cons.mpr ⟨en_cw17, List.forall_mem_cons.mpr ⟨en_cw18, List.forall_mem_cons.mpr ⟨en_cw19, List.forall_mem_cons.mpr ⟨en_cw20, List.forall_mem_cons.mpr ⟨en_cw21, List.forall_mem_cons.mpr ⟨en_cw22, List.forall_mem_cons.mpr ⟨en_cw23, List.forall_mem_cons.mpr ⟨en_cw24, List.forall_mem_cons.mpr ⟨en_cw25, List.forall_mem_cons.mpr ⟨en_cw26, List.forall_mem_cons.mpr ⟨en_cw27, List.forall_mem_cons.mpr ⟨en_cw28, List.forall_mem_cons.mpr ⟨en_cw29, List.forall_mem_cons.mpr ⟨en_cw30, List.forall_mem_cons.mpr ⟨en_cw31, fun _ h => absurd h List.not_mem_nil⟩⟩⟩⟩⟩⟩⟩⟩⟩⟩⟩⟩⟩⟩⟩⟩
theorem en_cww2 : ∀ m ∈ [en_m32, en_m33, en_m34, en_m35, en_m36, en_m37, en_m38, en_m39, en_m40, en_m41, en_m42, en_m43, en_m44, en_m45, en_m46, en_m47], en_cwm m := List.forall_mem_cons.mpr ⟨en_cw32, List.forall_mem_cons.mpr ⟨en_cw33, List.forall_mem_cons.mpr ⟨en_cw34, List.forall_mem_cons.mpr ⟨en_cw35, List.forall_mem_cons.mpr ⟨en_cw36, List.forall_mem_cons.mpr ⟨en_cw37, List.forall_mem_cons.mpr ⟨en_cw38, List.forall_mem_cons.mpr ⟨en_cw39, List.forall_mem_cons.mpr ⟨en_cw40, List.forall_mem_cons.mpr ⟨en_cw41, List.forall_mem_cons.mpr ⟨en_cw42, List.forall_mem_cons.mpr ⟨en_cw43, List.forall_mem_cons.mpr ⟨en_cw44, List.forall_mem_cons.mpr ⟨en_cw45, List.forall_mem_cons.mpr ⟨en_cw46, List.forall_mem_cons.mpr ⟨en_cw47, fun _ h => absurd h List.not_mem_nil⟩⟩⟩⟩⟩⟩⟩⟩⟩⟩⟩⟩⟩⟩⟩⟩
theorem en_cww3 : ∀ m ∈ [en_m48, en_m49, en_m50, en_m51, en_m52, en_m53, en_m54, en_m55, en_m56, en_m57, en_m58, en_m59, en_m60, en_m61, en_m62, en_m63], en_cwm m := List.forall_mem_cons.mpr ⟨en_cw48, List.forall_mem_cons.mpr ⟨en_cw49, List.forall_mem_cons.mpr ⟨en_cw50, List.forall_mem_cons.mpr ⟨en_cw51, List.forall_mem_cons.mpr ⟨en_cw52, List.forall_mem_cons.mpr ⟨en_cw53, List.forall_mem_cons.mpr ⟨en_cw54, List.forall_mem_cons.mpr ⟨en_cw55, List.forall_mem_cons.mpr ⟨en_cw56, List.forall_mem_cons.mpr ⟨en_cw57, List.forall_mem_cons.mpr ⟨en_cw58, List.forall_mem_cons.mpr ⟨en_cw59, List.forall_mem_cons.mpr ⟨en_cw60, List.forall_mem_cons.mpr ⟨en_cw61, List.forall_mem_cons.mpr ⟨en_cw62, List.forall_mem_cons.mpr ⟨en_cw63, fun _ h => absurd h List.not_mem_nil⟩⟩⟩⟩⟩⟩⟩⟩⟩⟩⟩⟩⟩⟩⟩⟩
theorem en_cww4 : ∀ m ∈ [en_m64, en_m65, en_m66, en_m67, en_m68, en_m69, en_m70, en_m71, en_m72, en_m73, en_m74, en_m75, en_m76, en_m77, en_m78, en_m79], en_cwm m := List.forall_mem_cons.mpr ⟨en_cw64, List.forall_mem_cons.mpr ⟨en_cw65, List.forall_mem_cons.mpr ⟨en_cw66, List.forall_mem_cons.mpr ⟨en_cw67, List.forall_mem_cons.mpr ⟨en_cw68, List.forall_mem_cons.mpr ⟨en_cw69, List.forall_mem_cons.mpr ⟨en_cw70, List.forall_mem_cons.mpr ⟨en_cw71, List.forall_mem_cons.mpr ⟨en_cw72, List.forall_mem_cons.mpr ⟨en_cw73, List.forall_mem_cons.mpr ⟨en_cw74, List.forall_mem_cons.mpr ⟨en_cw75, List.forall_mem_cons.mpr ⟨en_cw76, List.forall_mem_cons.mpr ⟨en_cw77, List.forall_mem_cons.mpr ⟨en_cw78, List.forall_mem_cons.mpr ⟨en_cw79, fun _ h => absurd h List.not_mem_nil⟩⟩⟩⟩⟩⟩⟩⟩⟩⟩⟩⟩⟩⟩⟩⟩
theorem en_cww5 : ∀ m ∈ [en_m80, en_m81, en_m82, en_m83, en_m84, en_m85, en_m86, en_m87, en_m88, en_m89, en_m90, en_m91, en_m92, en_m93, en_m94, en_m95], en_cwm m := List.forall_mem_cons.mpr ⟨en_cw80, List.forall_mem_cons.mpr ⟨en_cw81, List.forall_mem_cons.mpr ⟨en_cw82, List.forall_mem_cons.mpr ⟨en_cw83, List.forall_mem_cons.mpr ⟨en_cw84, List.forall_mem_cons.mpr ⟨en_cw85, List.forall_mem_cons.mpr ⟨en_cw86, List.forall_mem_cons.mpr ⟨en_cw87, List.forall_mem_cons.mpr ⟨en_cw88, List.forall_mem_cons.mpr ⟨en_cw89, List.forall_mem_cons.mpr ⟨en_cw90, List.forall_mem_cons.mpr ⟨en_cw91, List.forall_mem_cons.mpr ⟨en_cw92, List.forall_mem_cons.mpr ⟨en_cw93, List.forall_mem_cons.mpr ⟨en_cw94, List.forall_mem_cons.mpr ⟨en_cw95, fun _ h => absurd h List.not_mem_nil⟩⟩⟩⟩⟩⟩⟩⟩⟩⟩⟩⟩⟩⟩⟩⟩
theorem en_cww6 : ∀ m ∈ [en_m96, en_m97, en_m98, en_m99, en_m100, en_m101, en_m102, en_m103, en_m104, en_m105, en_m106, en_m107, en_m108, en_m109, en_m110, en_m111], en_cwm m := List.forall_mem_cons.mpr ⟨en_cw96, List.forall_mem_cons.mpr ⟨en_cw97, List.forall_mem_cons.mpr ⟨en_cw98, List.forall_mem_cons.mpr ⟨en_cw99, List.forall_mem_cons.mpr ⟨en_cw100, List.forall_mem_cons.mpr ⟨en_cw101, List.forall_mem_cons.mpr ⟨en_cw102, List.forall_mem_cons.mpr ⟨en_cw103, List.forall_mem_cons.mpr ⟨en_cw104, List.forall_mem_cons.mpr ⟨en_cw105, List.forall_mem_cons.mpr ⟨en_cw106, List.forall_mem_cons.mpr ⟨en_cw107, List.forall_mem_cons.mpr ⟨en_cw108, List.forall_mem_cons.mpr ⟨en_cw109, List.forall_mem_cons.mpr ⟨en_cw110, List.forall_mem_cons.mpr ⟨en_cw111, fun _ h => absurd h List.not_mem_nil⟩⟩⟩⟩⟩⟩⟩⟩⟩⟩⟩⟩⟩⟩⟩⟩
theorem en_cww7 : ∀ m ∈ [en_m112, en_m113, en_m114, en_m115, en_m116, en_m117, en_m118, en_m119, en_m120, en_m121, en_m122, en_m123, en_m124, en_m125, en_m126, en_m127], en_cwm m := List.forall_mem_cons.mpr ⟨en_cw112, List.forall_mem_cons.mpr ⟨en_cw113, List.forall_mem_cons.mpr ⟨en_cw114, List.forall_mem_cons.mpr ⟨en_cw115, List.forall_mem_cons.mpr ⟨en_cw116, List.forall_mem_cons.mpr ⟨en_cw117, List.forall_mem_cons.mpr ⟨en_cw118, List.forall_mem_cons.mpr ⟨en_cw119, List.forall_mem_cons.mpr ⟨en_cw120, List.forall_mem_cons.mpr ⟨en_cw121, List.forall_mem_cons.mpr ⟨en_cw122, List.forall_mem_cons.mpr ⟨en_cw123, List.forall_mem_cons.mpr ⟨en_cw124, List.forall_mem_cons.mpr ⟨en_cw125, List.forall_mem_cons.mpr ⟨en_cw126, List.forall_mem_cons.mpr ⟨en_cw127, fun _ h => absurd h List.not_mem_nil⟩⟩⟩⟩⟩⟩⟩⟩⟩⟩⟩⟩⟩⟩⟩⟩
set_option maxRecDepth 100000 in
theorem en_Mc_ok : ∀ m ∈ en_M.take 128, en_cwm m := by
  show ∀ m ∈ [en_m0, en_m1, en_m2, en_m3, en_m4, en_m5, en_m6, en_m7, en_m8, en_m9, en_m10, en_m11, en_m12, en_m13, en_m14, en_m15] ++ ([en_m16, en_m17, en_m18, en_m19, en_m20, en_m21, en_m22, en_m23, en_m24, en_m25, en_m26, en_m27, en_m28, en_m29, en_m30, en_m31] ++ ([en_m32, en_m33, en_m34, en_m35, en_m36, en_m37, en_m38, en_m39, en_m40, en_m41, en_m42, en_m43, en_m44, en_m45, en_m46, en_m47] ++ ([en_m48, en_m49, en_m50, en_m51, en_m52, en_m53, en_m54, en_m55, en_m56, en_m57, en_m58, en_m59, en_m60, en_m61, en_m62, en_m63] ++ ([en_m64, en_m65, en_m66, en_m67, en_m68, en_m69, en_m70, en_m71, en_m72, en_m73, en_m74, en_m75, en_m76, en_m77, en_m78, en_m79] ++ ([en_m80, en_m81, en_m82, en_m83, en_m84, en_m85, en_m86, en_m87, en_m88, en_m89, en_m90, en_m91, en_m92, en_m93, en_m94, en_m95] ++ ([en_m96, en_m97, en_m98, en_m99, en_m100, en_m101, en_m102, en_m103, en_m104, en_m105, en_m106, en_m107, en_m108, en_m109, en_m110, en_m111] ++ ([en_m112, en_m113, en_m114, en_m115, en_m116, en_m117, en_m118, en_m119, en_m120, en_m121, en_m122, en_m123, en_m124, en_m125, en_m126, en_m127]))))))), en_cwm m
  exact List.forall_mem_append.mpr ⟨en_cww0, List.forall_mem_append.mpr ⟨en_cww1, List.forall_mem_append.mpr ⟨en_cww2, List.forall_mem_append.mpr ⟨en_cww3, List.forall_mem_append.mpr ⟨en_cww4, List.forall_mem_append.mpr ⟨en_cww5, List.forall_mem_append.mpr ⟨en_cww6, en_cww7⟩⟩⟩⟩⟩⟩⟩
theorem en_me_t {y : Nat} (h : y < 128) : en_me y ∈ en_M.take 128 := by
  have hl : 128 ≤ en_M.length := by decide +kernel
  unfold en_me
  rw [List.getD_eq_getElem?_getD, List.getElem?_eq_getElem (Nat.lt_of_lt_of_le h hl)]
  exact List.mem_take_iff_getElem.mpr ⟨y, by omega, rfl⟩
set_option maxRecDepth 100000 in
theorem en_my_all : ∀ y, y < 128 → (en_my y).cls = en_cn (en_mo y) ∧ en_mL y ≤ 8 ∧ ((en_my y).cls ≠ "java/lang/invoke/MethodHandle" ∧ (en_my y).cls ≠ "java/lang/invoke/VarHandle") ∧ (parseMethodDescriptor (en_my y).desc).map (fun d => d.parameters.length) = some (en_np y) ∧ plainName (en_my y).cls = true := by decide +kernel
theorem en_my_ok {y : Nat} (h : en_va y = true) : (en_my y).cls = en_cn (en_mo y) ∧ en_mL y ≤ 8 ∧ (en_my y).cls ≠ "java/lang/invoke/MethodHandle" ∧ (en_my y).cls ≠ "java/lang/invoke/VarHandle" ∧ (parseMethodDescriptor (en_my y).desc).map (fun d => d.parameters.length) = some (en_np y) ∧ plainName (en_my y).cls = true ∧ Cond.code (en_my y) (en_mb y) (en_mL y) (en_mr y) ∈ en_all := by
  have hy : y < 128 := by simpa [en_va] using h
  obtain ⟨a1, a2, a3, a4, a5⟩ := en_my_all y hy
  exact ⟨a1, a2, a3.1, a3.2, a4, a5, List.mem_filter.mpr ⟨en_Mc_ok _ (en_me_t hy), rfl⟩⟩
