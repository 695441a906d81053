/-! THE ENGINE, fifth part: a step of the small machine is a step of the machine -/
def en_w (y : Nat) : List Cond := .code (en_my y) (en_mb y) (en_mL y) (en_mr y) :: en_all
def en_rm (d : Nat) : Room := { frames := d, cells := 0, slots := 0, locals := 28 * d }
def en_Pc (G : en_Gg) (a : List en_V) (f : en_T) : Array Value → State → Prop := va_Pc (a.map (en_c G)) (fun U => va_P G.2.1 en_cl (en_wl G f) U.heap ∧ va_K G.2.1 en_cl (en_tys G) U ∧ va_D (en_A G) (en_wl G f))
def en_Qc (G : en_Gg) (Q : en_Q) : Array Value → State → Outcome → State → Prop := fun _ st oc t => (∃ (r : Option en_V) (g : en_T), oc = .returned (r.map (en_c G)) ∧ Q r g ∧ va_P G.2.1 en_cl (en_wl G g) t.heap) ∧ va_F (en_A G) st t
theorem en_D_any {G : en_Gg} {A : Nat → Prop} {f g : en_T} (h : va_D A (en_wl G f)) : va_D A (en_wl G g) := by
  have key : ∀ (k : Nat) (q : Nat × va_E), (en_wl G g)[k]? = some q → ∃ q', (en_wl G f)[k]? = some q' ∧ q'.1 = q.1 := by
    intro k q hk
    cases hc : en_allc[k]? with
    | none => rw [en_wl, List.getElem?_map, hc] at hk; cases hk
    | some c =>
      rw [en_wl_at (k := c.1) (i := c.2) hc] at hk
      cases hk
      exact ⟨_, en_wl_at (k := c.1) (i := c.2) hc, rfl⟩
  refine ⟨fun i j x y hx hy hxy => ?_, fun k q hk => ?_⟩
  · obtain ⟨x', a1, a2⟩ := key i x hx
    obtain ⟨y', b1, b2⟩ := key j y hy
    exact h.1 i j x' y' a1 b1 (by rw [a2, b2, hxy])
  · obtain ⟨q', a1, a2⟩ := key k q hk
    rw [← a2]
    exact h.2 k q' a1
theorem en_D_in {G : en_Gg} {A : Nat → Prop} {f : en_T} (h : va_D A (en_wl G f)) {q : Nat} (hq : en_A G q) : A q := by
  obtain ⟨c, hc, rfl⟩ := hq
  obtain ⟨i, hi⟩ := List.getElem?_of_mem hc
  exact h.2 i _ (en_wl_at (k := c.1) (i := c.2) hi)
section EnStep
variable {p : Program} {l : Launch} {e : Env} {R : Room} {s : State} {m : MethodId} {args : Array Value} {below : List Frame} {meth : Method} {c : Code} {cells slots : Nat} {Q : State → Prop}
def en_P (p : Program) (l : Launch) (e : Env) (R : Room) (s : State) (m : MethodId) (args : Array Value) (below : List Frame) (meth : Method) (c : Code) (cells slots : Nat) (Q : State → Prop) (G : en_Gg) (A : Nat → Prop) (H0 : Heap) (nL : Nat) : en_K := fun pc lo st f =>
  ∀ (H : Heap) (locs : List Loc) (ls : Array Slot), va_P G.2.1 en_cl (en_wl G f) H → va_D A (en_wl G f) → va_S A H0 H locs → en_loc G ls nL lo → W p l e R s m args below meth c H locs cells slots Q (F0 m pc ls (st.map (en_c G)))
def en_Fx (p : Program) (s : State) (m : MethodId) (args : Array Value) (c : Code) (Ts : List Cond) (cs : en_S) (y : Nat) (G : en_Gg) (A : Nat → Prop) (H0 : Heap) : Prop :=
  p.tables.exec = Jvm.exec ∧ c.code = en_mb y ∧ c.maxLocals = en_mL y ∧ s.vm.findClass (en_cn (en_mo y)) = some m.cls ∧ (∀ w ∈ Ts, w.before args s = true) ∧ GoodIn Ts en_all ∧ va_K G.2.1 en_cl (en_tys G) s ∧
  ∀ i, i < cs.1 → va_X (G.1 63 i) cs.2.1 cs.2.2 s H0 ∧ G.1 63 i < H0.size ∧ ¬ A (G.1 63 i)
variable {Ts : List Cond} {cs : en_S} {y : Nat} {G : en_Gg} {A : Nat → Prop} {H0 : Heap}
set_option maxHeartbeats 4000000 in
set_option maxRecDepth 100000 in
theorem en_step_n (F : en_Fx p s m args c Ts cs y G A H0) {pc pc' : Nat} {lo lo' : en_L} {st st' : List en_V} {f f' : en_T} (h : en_stp cs y pc lo st f = some (.inl (pc', lo', st', f')))
    (k : en_P p l e R s m args below meth c cells slots Q G A H0 (en_mL y) pc' lo' st' f') : en_P p l e R s m args below meth c cells slots Q G A H0 (en_mL y) pc lo st f := by
  obtain ⟨hx, hb, hml, hown, hts, hall, hK, hX⟩ := F
  have hmem : ∀ {w : Cond}, w ∈ en_all → w.before args s = true := fun hw => hts _ (hall _ hw).1
  unfold en_stp at h
  cases hcd : en_cd y pc with
  | none => rw [hcd] at h; cases h
  | some q =>
    rw [hcd] at h
    obtain ⟨ins, len, ka, kb⟩ := q
    obtain ⟨hdg, hft⟩ := en_cd_all hcd
    replace hdg : decode (en_mb y) pc = .ok (ins, len) := hdg
    replace h : en_ex cs y ins len ka kb pc lo st f = some (.inl (pc', lo', st', f')) := h
    intro H locs ls hP hD hS hl
    cases ins with
    | iconst n =>
      have hh := h
      clear h
      obtain ⟨rfl, h⟩ := en_g_i (show en_g len 1 _ = _ from hh)
      clear hh
      obtain ⟨rfl, rfl, rfl, rfl⟩ := en_nx_i h
      exact lv_iconst hx hb hdg rfl (k H locs ls hP hD hS hl)
    | bipush n =>
      have hh := h
      clear h
      obtain ⟨rfl, h⟩ := en_g_i (show en_g len 2 _ = _ from hh)
      clear hh
      obtain ⟨rfl, rfl, rfl, rfl⟩ := en_nx_i h
      exact lv_bipush hx hb hdg rfl (k H locs ls hP hD hS hl)
    | sipush n =>
      have hh := h
      clear h
      obtain ⟨rfl, h⟩ := en_g_i (show en_g len 3 _ = _ from hh)
      clear hh
      obtain ⟨rfl, rfl, rfl, rfl⟩ := en_nx_i h
      exact lv_sipush hx hb hdg rfl (k H locs ls hP hD hS hl)
    | iload_n n =>
      have hh := h
      clear h
      obtain ⟨rfl, h⟩ := en_g_i (show en_g len 1 _ = _ from hh)
      clear hh
      obtain ⟨x, hv, rfl, rfl, rfl, rfl⟩ := en_ild_i h
      exact lv_iload_n hx hb hdg rfl (hl.2.2.2 _ _ hv) (k H locs ls hP hD hS hl)
    | iload n =>
      have hh := h
      clear h
      obtain ⟨rfl, h⟩ := en_g_i (show en_g len 2 _ = _ from hh)
      clear hh
      obtain ⟨x, hv, rfl, rfl, rfl, rfl⟩ := en_ild_i h
      exact lv_iload hx hb hdg (hl.2.2.2 _ _ hv) (k H locs ls hP hD hS hl)
    | aload_n n =>
      have hh := h
      clear h
      obtain ⟨rfl, h⟩ := en_g_i (show en_g len 1 _ = _ from hh)
      clear hh
      obtain ⟨x, hv, rfl, rfl, rfl, rfl⟩ := en_ald_i h
      exact lv_aload_n hx hb hdg rfl (hl.2.2.2 _ _ hv) (k H locs ls hP hD hS hl)
    | aload n =>
      have hh := h
      clear h
      obtain ⟨rfl, h⟩ := en_g_i (show en_g len 2 _ = _ from hh)
      clear hh
      obtain ⟨x, hv, rfl, rfl, rfl, rfl⟩ := en_ald_i h
      exact lv_aload hx hb hdg (hl.2.2.2 _ _ hv) (k H locs ls hP hD hS hl)
    | istore_n n =>
      have hh := h
      clear h
      obtain ⟨rfl, h⟩ := en_g_i (show en_g len 1 _ = _ from hh)
      clear hh
      obtain ⟨x, r, rfl, hi, rfl, rfl, rfl, rfl⟩ := en_ist_i h
      exact lv_istore_n hx hb hdg rfl (en_has hl) (by rw [← hl.2.2.1]; exact hi) rfl (fun ls' h' => k H locs ls' hP hD hS (en_loc_set (v := .inl x) hl h'))
    | istore n =>
      have hh := h
      clear h
      obtain ⟨rfl, h⟩ := en_g_i (show en_g len 2 _ = _ from hh)
      clear hh
      obtain ⟨x, r, rfl, hi, rfl, rfl, rfl, rfl⟩ := en_ist_i h
      exact lv_istore hx hb hdg (en_has hl) (by rw [← hl.2.2.1]; exact hi) rfl (fun ls' h' => k H locs ls' hP hD hS (en_loc_set (v := .inl x) hl h'))
    | astore_n n =>
      have hh := h
      clear h
      obtain ⟨rfl, h⟩ := en_g_i (show en_g len 1 _ = _ from hh)
      clear hh
      obtain ⟨x, r, rfl, hi, rfl, rfl, rfl, rfl⟩ := en_ast_i h
      exact lv_astore_n hx hb hdg rfl (en_has hl) (by rw [← hl.2.2.1]; exact hi) rfl (fun ls' h' => k H locs ls' hP hD hS (en_loc_set (v := .inr x) hl h'))
    | astore n =>
      have hh := h
      clear h
      obtain ⟨rfl, h⟩ := en_g_i (show en_g len 2 _ = _ from hh)
      clear hh
      obtain ⟨x, r, rfl, hi, rfl, rfl, rfl, rfl⟩ := en_ast_i h
      exact lv_astore hx hb hdg (en_has hl) (by rw [← hl.2.2.1]; exact hi) rfl (fun ls' h' => k H locs ls' hP hD hS (en_loc_set (v := .inr x) hl h'))
    | iinc n v =>
      have hh := h
      clear h
      obtain ⟨rfl, h⟩ := en_g_i (show en_g len 3 _ = _ from hh)
      clear hh
      obtain ⟨x, hv, rfl, rfl, rfl, rfl⟩ := en_inc_i h
      obtain ⟨q1, hq1⟩ := List.getElem?_of_mem (en_lv_mem (G := G) hv)
      exact lv_iinc hx hb hdg (en_has hl) hq1 rfl (by rw [← hl.2.2.1]; exact (List.getElem?_eq_some_iff.mp hv).1) rfl (fun ls' h' => k H locs ls' hP hD hS (en_loc_set (v := .inl (x + Int32.ofInt v)) hl h'))
    | iadd =>
      have hh := h
      clear h
      obtain ⟨rfl, h⟩ := en_g_i (show en_g len 1 _ = _ from hh)
      clear hh
      obtain ⟨a, b, r, rfl, rfl, rfl, rfl, rfl⟩ := en_b2_i h
      exact lv_iadd hx hb hdg (k H locs ls hP hD hS hl)
    | isub =>
      have hh := h
      clear h
      obtain ⟨rfl, h⟩ := en_g_i (show en_g len 1 _ = _ from hh)
      clear hh
      obtain ⟨a, b, r, rfl, rfl, rfl, rfl, rfl⟩ := en_b2_i h
      exact lv_isub hx hb hdg (k H locs ls hP hD hS hl)
    | imul =>
      have hh := h
      clear h
      obtain ⟨rfl, h⟩ := en_g_i (show en_g len 1 _ = _ from hh)
      clear hh
      obtain ⟨a, b, r, rfl, rfl, rfl, rfl, rfl⟩ := en_b2_i h
      exact lv_imul hx hb hdg (k H locs ls hP hD hS hl)
    | iand =>
      have hh := h
      clear h
      obtain ⟨rfl, h⟩ := en_g_i (show en_g len 1 _ = _ from hh)
      clear hh
      obtain ⟨a, b, r, rfl, rfl, rfl, rfl, rfl⟩ := en_b2_i h
      exact lv_iand hx hb hdg (k H locs ls hP hD hS hl)
    | ior =>
      have hh := h
      clear h
      obtain ⟨rfl, h⟩ := en_g_i (show en_g len 1 _ = _ from hh)
      clear hh
      obtain ⟨a, b, r, rfl, rfl, rfl, rfl, rfl⟩ := en_b2_i h
      exact lv_ior hx hb hdg (k H locs ls hP hD hS hl)
    | ixor =>
      have hh := h
      clear h
      obtain ⟨rfl, h⟩ := en_g_i (show en_g len 1 _ = _ from hh)
      clear hh
      obtain ⟨a, b, r, rfl, rfl, rfl, rfl, rfl⟩ := en_b2_i h
      exact lv_ixor hx hb hdg (k H locs ls hP hD hS hl)
    | ishl =>
      have hh := h
      clear h
      obtain ⟨rfl, h⟩ := en_g_i (show en_g len 1 _ = _ from hh)
      clear hh
      obtain ⟨a, b, r, rfl, rfl, rfl, rfl, rfl⟩ := en_b2_i h
      exact lv_ishl hx hb hdg (k H locs ls hP hD hS hl)
    | ishr =>
      have hh := h
      clear h
      obtain ⟨rfl, h⟩ := en_g_i (show en_g len 1 _ = _ from hh)
      clear hh
      obtain ⟨a, b, r, rfl, rfl, rfl, rfl, rfl⟩ := en_b2_i h
      exact lv_ishr hx hb hdg (k H locs ls hP hD hS hl)
    | idiv =>
      have hh := h
      clear h
      obtain ⟨rfl, h⟩ := en_g_i (show en_g len 1 _ = _ from hh)
      clear hh
      obtain ⟨a, b, r, rfl, hne, rfl, rfl, rfl, rfl⟩ := en_bd_i h
      exact lv_idiv hx hb hdg hne (k H locs ls hP hD hS hl)
    | irem =>
      have hh := h
      clear h
      obtain ⟨rfl, h⟩ := en_g_i (show en_g len 1 _ = _ from hh)
      clear hh
      obtain ⟨a, b, r, rfl, hne, rfl, rfl, rfl, rfl⟩ := en_bd_i h
      exact lv_irem hx hb hdg hne (k H locs ls hP hD hS hl)
    | dup =>
      have hh := h
      clear h
      obtain ⟨rfl, h⟩ := en_g_i (show en_g len 1 _ = _ from hh)
      clear hh
      obtain ⟨a, r, rfl, rfl, rfl, rfl, rfl⟩ := en_dup_i h
      exact lv_dup hx hb hdg (en_c1 G a) (k H locs ls hP hD hS hl)
    | dup_x1 =>
      have hh := h
      clear h
      obtain ⟨rfl, h⟩ := en_g_i (show en_g len 1 _ = _ from hh)
      clear hh
      obtain ⟨a, b, r, rfl, rfl, rfl, rfl, rfl⟩ := en_dupx_i h
      exact lv_dup_x1 hx hb hdg (en_c1 G a) (en_c1 G b) (k H locs ls hP hD hS hl)
    | dup2 =>
      have hh := h
      clear h
      obtain ⟨rfl, h⟩ := en_g_i (show en_g len 1 _ = _ from hh)
      clear hh
      obtain ⟨a, b, r, rfl, rfl, rfl, rfl, rfl⟩ := en_dup2_i h
      exact lv_dup2_11 hx hb hdg (en_c1 G a) (en_c1 G b) (k H locs ls hP hD hS hl)
    | pop =>
      have hh := h
      clear h
      obtain ⟨rfl, h⟩ := en_g_i (show en_g len 1 _ = _ from hh)
      clear hh
      obtain ⟨a, r, rfl, rfl, rfl, rfl, rfl⟩ := en_pop_i h
      exact lv_pop hx hb hdg (en_c1 G a) (k H locs ls hP hD hS hl)
    | goto o =>
      have hh := h
      clear h
      obtain ⟨rfl, h⟩ := en_g_i (show en_g len 3 _ = _ from hh)
      clear hh
      obtain ⟨ht, rfl, rfl, rfl⟩ := en_jp_i h
      exact lv_goto hx hb hdg ht (k H locs ls hP hD hS hl)
    | ifCond cn o =>
      cases cn with
      | eq =>
        have hh := h
        clear h
        obtain ⟨rfl, h⟩ := en_g_i (show en_g len 3 _ = _ from hh)
        clear hh
        obtain ⟨a, r, t, rfl, ht, h⟩ := en_if_i h
        exact lv_if_eq hx hb hdg ht (fun q => by
          (try dsimp only at h); rw [if_pos q] at h; obtain ⟨rfl, rfl, rfl, rfl⟩ := en_nx_i h; exact k H locs ls hP hD hS hl) (fun q => by
          (try dsimp only at h); rw [if_neg q] at h; obtain ⟨rfl, rfl, rfl, rfl⟩ := en_nx_i h; exact k H locs ls hP hD hS hl)
      | ne =>
        have hh := h
        clear h
        obtain ⟨rfl, h⟩ := en_g_i (show en_g len 3 _ = _ from hh)
        clear hh
        obtain ⟨a, r, t, rfl, ht, h⟩ := en_if_i h
        exact lv_if_ne hx hb hdg ht (fun q => by
          (try dsimp only at h); rw [if_neg q] at h; obtain ⟨rfl, rfl, rfl, rfl⟩ := en_nx_i h; exact k H locs ls hP hD hS hl) (fun q => by
          (try dsimp only at h); rw [if_pos q] at h; obtain ⟨rfl, rfl, rfl, rfl⟩ := en_nx_i h; exact k H locs ls hP hD hS hl)
      | lt =>
        have hh := h
        clear h
        obtain ⟨rfl, h⟩ := en_g_i (show en_g len 3 _ = _ from hh)
        clear hh
        obtain ⟨a, r, t, rfl, ht, h⟩ := en_if_i h
        exact lv_if_lt hx hb hdg ht (fun q => by
          (try dsimp only at h); rw [if_pos q] at h; obtain ⟨rfl, rfl, rfl, rfl⟩ := en_nx_i h; exact k H locs ls hP hD hS hl) (fun q => by
          (try dsimp only at h); rw [if_neg q] at h; obtain ⟨rfl, rfl, rfl, rfl⟩ := en_nx_i h; exact k H locs ls hP hD hS hl)
      | ge =>
        have hh := h
        clear h
        obtain ⟨rfl, h⟩ := en_g_i (show en_g len 3 _ = _ from hh)
        clear hh
        obtain ⟨a, r, t, rfl, ht, h⟩ := en_if_i h
        exact lv_if_ge hx hb hdg ht (fun q => by
          (try dsimp only at h); rw [if_pos q] at h; obtain ⟨rfl, rfl, rfl, rfl⟩ := en_nx_i h; exact k H locs ls hP hD hS hl) (fun q => by
          (try dsimp only at h); rw [if_neg q] at h; obtain ⟨rfl, rfl, rfl, rfl⟩ := en_nx_i h; exact k H locs ls hP hD hS hl)
      | gt =>
        have hh := h
        clear h
        obtain ⟨rfl, h⟩ := en_g_i (show en_g len 3 _ = _ from hh)
        clear hh
        obtain ⟨a, r, t, rfl, ht, h⟩ := en_if_i h
        exact lv_if_gt hx hb hdg ht (fun q => by
          (try dsimp only at h); rw [if_pos q] at h; obtain ⟨rfl, rfl, rfl, rfl⟩ := en_nx_i h; exact k H locs ls hP hD hS hl) (fun q => by
          (try dsimp only at h); rw [if_neg q] at h; obtain ⟨rfl, rfl, rfl, rfl⟩ := en_nx_i h; exact k H locs ls hP hD hS hl)
      | le =>
        have hh := h
        clear h
        obtain ⟨rfl, h⟩ := en_g_i (show en_g len 3 _ = _ from hh)
        clear hh
        obtain ⟨a, r, t, rfl, ht, h⟩ := en_if_i h
        exact lv_if_le hx hb hdg ht (fun q => by
          (try dsimp only at h); rw [if_pos q] at h; obtain ⟨rfl, rfl, rfl, rfl⟩ := en_nx_i h; exact k H locs ls hP hD hS hl) (fun q => by
          (try dsimp only at h); rw [if_neg q] at h; obtain ⟨rfl, rfl, rfl, rfl⟩ := en_nx_i h; exact k H locs ls hP hD hS hl)
    | if_icmp cn o =>
      cases cn with
      | eq =>
        have hh := h
        clear h
        obtain ⟨rfl, h⟩ := en_g_i (show en_g len 3 _ = _ from hh)
        clear hh
        obtain ⟨a, b, r, t, rfl, ht, h⟩ := en_ic_i h
        exact lv_icmp_eq hx hb hdg ht (fun q => by
          (try dsimp only at h); rw [if_pos q] at h; obtain ⟨rfl, rfl, rfl, rfl⟩ := en_nx_i h; exact k H locs ls hP hD hS hl) (fun q => by
          (try dsimp only at h); rw [if_neg q] at h; obtain ⟨rfl, rfl, rfl, rfl⟩ := en_nx_i h; exact k H locs ls hP hD hS hl)
      | ne =>
        have hh := h
        clear h
        obtain ⟨rfl, h⟩ := en_g_i (show en_g len 3 _ = _ from hh)
        clear hh
        obtain ⟨a, b, r, t, rfl, ht, h⟩ := en_ic_i h
        exact lv_icmp_ne hx hb hdg ht (fun q => by
          (try dsimp only at h); rw [if_neg q] at h; obtain ⟨rfl, rfl, rfl, rfl⟩ := en_nx_i h; exact k H locs ls hP hD hS hl) (fun q => by
          (try dsimp only at h); rw [if_pos q] at h; obtain ⟨rfl, rfl, rfl, rfl⟩ := en_nx_i h; exact k H locs ls hP hD hS hl)
      | lt =>
        have hh := h
        clear h
        obtain ⟨rfl, h⟩ := en_g_i (show en_g len 3 _ = _ from hh)
        clear hh
        obtain ⟨a, b, r, t, rfl, ht, h⟩ := en_ic_i h
        exact lv_icmp_lt hx hb hdg ht (fun q => by
          (try dsimp only at h); rw [if_pos q] at h; obtain ⟨rfl, rfl, rfl, rfl⟩ := en_nx_i h; exact k H locs ls hP hD hS hl) (fun q => by
          (try dsimp only at h); rw [if_neg q] at h; obtain ⟨rfl, rfl, rfl, rfl⟩ := en_nx_i h; exact k H locs ls hP hD hS hl)
      | ge =>
        have hh := h
        clear h
        obtain ⟨rfl, h⟩ := en_g_i (show en_g len 3 _ = _ from hh)
        clear hh
        obtain ⟨a, b, r, t, rfl, ht, h⟩ := en_ic_i h
        exact lv_icmp_ge hx hb hdg ht (fun q => by
          (try dsimp only at h); rw [if_pos q] at h; obtain ⟨rfl, rfl, rfl, rfl⟩ := en_nx_i h; exact k H locs ls hP hD hS hl) (fun q => by
          (try dsimp only at h); rw [if_neg q] at h; obtain ⟨rfl, rfl, rfl, rfl⟩ := en_nx_i h; exact k H locs ls hP hD hS hl)
      | gt =>
        have hh := h
        clear h
        obtain ⟨rfl, h⟩ := en_g_i (show en_g len 3 _ = _ from hh)
        clear hh
        obtain ⟨a, b, r, t, rfl, ht, h⟩ := en_ic_i h
        exact lv_icmp_gt hx hb hdg ht (fun q => by
          (try dsimp only at h); rw [if_pos q] at h; obtain ⟨rfl, rfl, rfl, rfl⟩ := en_nx_i h; exact k H locs ls hP hD hS hl) (fun q => by
          (try dsimp only at h); rw [if_neg q] at h; obtain ⟨rfl, rfl, rfl, rfl⟩ := en_nx_i h; exact k H locs ls hP hD hS hl)
      | le =>
        have hh := h
        clear h
        obtain ⟨rfl, h⟩ := en_g_i (show en_g len 3 _ = _ from hh)
        clear hh
        obtain ⟨a, b, r, t, rfl, ht, h⟩ := en_ic_i h
        exact lv_icmp_le hx hb hdg ht (fun q => by
          (try dsimp only at h); rw [if_pos q] at h; obtain ⟨rfl, rfl, rfl, rfl⟩ := en_nx_i h; exact k H locs ls hP hD hS hl) (fun q => by
          (try dsimp only at h); rw [if_neg q] at h; obtain ⟨rfl, rfl, rfl, rfl⟩ := en_nx_i h; exact k H locs ls hP hD hS hl)
    | getfield idx =>
      have hh := h
      clear h
      obtain ⟨rfl, h⟩ := en_g_i (show en_g len 3 _ = _ from hh)
      clear hh
      obtain ⟨n, r, rfl, hn, rfl, rfl, rfl, rfl⟩ := en_gf_i h
      obtain ⟨ho, hj, hw⟩ := en_fl_ok (show (en_flF.map (·.1)).contains (en_mo y, idx, ka, kb) = true from hft)
      obtain ⟨q0, hq0⟩ := en_pos hn
      have he := en_wl_at (G := G) (f := f') hq0
      rw [en_cell_o ho] at he
      exact va_get (D := G.2.1) hx hb hts (fun w hw => (hall w (en_lay_ok ho w hw)).1) hown hK hP q0 he (en_cl_ok ho) kb hj (hmem hw) (fun _ h9 => h9) (en_fs_at hj) hdg (k H locs ls hP hD hS hl)
    | putfield idx =>
      have hh := h
      clear h
      obtain ⟨rfl, h⟩ := en_g_i (show en_g len 3 _ = _ from hh)
      clear hh
      obtain ⟨n, x, r, rfl, hn, hpw, rfl, rfl, rfl, rfl⟩ := en_pf_i h
      obtain ⟨ho, hj, hw⟩ := en_fl_ok (show (en_flF.map (·.1)).contains (en_mo y, idx, ka, kb) = true from hft)
      obtain ⟨q0, hq0⟩ := en_pos hn
      have he := en_wl_at (G := G) (f := f) hq0
      rw [en_cell_o ho] at he
      obtain ⟨hfr, hfin, ty, hty, hnar, hfit⟩ : en_fr ka kb = none ∧ (en_Ft (en_kc ka) kb).2.2.2 = false ∧ ∃ ty : FieldType, parseFieldDescriptor (en_Ft (en_kc ka) kb).2.2.1 = some ty ∧ narrow ty (.int x) = .int x ∧ fits ty (.int x) = true := by
        rcases hpw with hp1 | ⟨hp2, hz⟩
        · obtain ⟨a1, a2, a3⟩ := en_pw_1 hp1
          exact ⟨a1, a2, .int, a3, rfl, rfl⟩
        · obtain ⟨a1, a2, a3⟩ := en_pw_2 hp2
          exact ⟨a1, a2, .boolean, a3, en_isz_nar hz, en_isz_fit hz⟩
      refine va_put (D := G.2.1) hx hb hts (fun w hw => (hall w (en_lay_ok ho w hw)).1) (en_ty (en_kc ka)) (en_ty_ok ho) (en_nm_ok ho) hown hK hP hD hS q0 he (en_cl_ok ho) kb hj (hmem hw) (fun _ h9 => h9) hfin hty hnar hfit (by rw [en_fs_len]; exact hj) hdg (fun H1 locs1 hP1 hD1 hS1 => ?_)
      have e1 : (en_wl G f).set q0 (G.1 ka n, .inr (en_kc ka, (en_fs G ka n f).set kb (.int x))) = en_wl G (en_st f ka n kb x) := by
        rw [en_fs_set hj hfr, ← en_cell_o ho]
        exact en_wl_set hq0
      replace hP1 := e1 ▸ (show va_P G.2.1 en_cl ((en_wl G f).set q0 (G.1 ka n, .inr (en_kc ka, (en_fs G ka n f).set kb (.int x)))) H1 from hP1)
      replace hD1 := e1 ▸ (show va_D A ((en_wl G f).set q0 (G.1 ka n, .inr (en_kc ka, (en_fs G ka n f).set kb (.int x)))) from hD1)
      exact k H1 locs1 ls hP1 hD1 hS1 hl
    | iaload =>
      have hh := h
      clear h
      obtain ⟨rfl, h⟩ := en_g_i (show en_g len 1 _ = _ from hh)
      clear hh
      obtain ⟨kd, n, x, v, r, rfl, rfl, rfl, rfl, rfl, h | h⟩ := en_iald_i h
      · obtain ⟨rfl, hn, hin, rfl⟩ := h
        obtain ⟨x1, x2, x3⟩ := hX n hn
        exact va_sld hx hb x1 x2 x3 hS (en_in hin) hdg (k H locs ls hP hD hS hl)
      · obtain ⟨hk, hn, hin, rfl⟩ := h
        obtain ⟨q0, hq0⟩ := en_pos hn
        have he := en_wl_at (G := G) (f := f') hq0
        rw [en_cell_i hk] at he
        exact va_iald hx hb hK hP q0 0 he rfl (en_in hin) hdg (k H locs ls hP hD hS hl)
    | baload =>
      have hh := h
      clear h
      obtain ⟨rfl, h⟩ := en_g_i (show en_g len 1 _ = _ from hh)
      clear hh
      obtain ⟨kd, n, x, r, rfl, rfl, rfl, rfl, rfl, hk, hn, hin⟩ := en_zald_i h
      obtain ⟨q0, hq0⟩ := en_pos hn
      have he := en_wl_at (G := G) (f := f') hq0
      rw [en_cell_z hk] at he
      exact va_zald hx hb hK hP q0 1 he rfl (en_in hin) hdg (k H locs ls hP hD hS hl)
    | aaload =>
      have hh := h
      clear h
      obtain ⟨rfl, h⟩ := en_g_i (show en_g len 1 _ = _ from hh)
      clear hh
      obtain ⟨kd, n, x, r, rfl, rfl, rfl, rfl, rfl, hk, hn, hin⟩ := en_aald_i h
      obtain ⟨q0, hq0⟩ := en_pos hn
      have he := en_wl_at (G := G) (f := f') hq0
      rw [en_cell_q hk] at he
      obtain ⟨t0, C, ht0⟩ := en_tys_at G hk
      exact va_aldq hx hb hK hP q0 t0 he ht0 (en_in hin) hdg (k H locs ls hP hD hS hl)
    | iastore =>
      have hh := h
      clear h
      obtain ⟨rfl, h⟩ := en_g_i (show en_g len 1 _ = _ from hh)
      clear hh
      obtain ⟨kd, n, x, v, r, rfl, rfl, rfl, rfl, rfl, hk, hn, hin⟩ := en_iast_i h
      obtain ⟨q0, hq0⟩ := en_pos hn
      have he := en_wl_at (G := G) (f := f) hq0
      rw [en_cell_i hk] at he
      refine va_iast hx hb hK hP hD hS q0 0 he rfl (en_in hin) hdg (fun H1 locs1 hP1 hD1 hS1 => ?_)
      rw [en_ar_set, ← en_cell_i (G := G) hk, en_wl_set hq0] at hP1 hD1
      exact k H1 locs1 ls hP1 hD1 hS1 hl
    | bastore =>
      have hh := h
      clear h
      obtain ⟨rfl, h⟩ := en_g_i (show en_g len 1 _ = _ from hh)
      clear hh
      obtain ⟨kd, n, x, v, r, rfl, rfl, rfl, rfl, rfl, hk, hn, hin, hz⟩ := en_zast_i h
      obtain ⟨q0, hq0⟩ := en_pos hn
      have he := en_wl_at (G := G) (f := f) hq0
      rw [en_cell_z hk] at he
      refine va_zast hx hb hK hP hD hS q0 1 he rfl (en_in hin) hdg (fun H1 locs1 hP1 hD1 hS1 => ?_)
      rw [en_isz_vp hz, en_ar_set, ← en_cell_z (G := G) hk, en_wl_set hq0] at hP1 hD1
      exact k H1 locs1 ls hP1 hD1 hS1 hl
    | arraylength =>
      have hh := h
      clear h
      obtain ⟨rfl, h⟩ := en_g_i (show en_g len 1 _ = _ from hh)
      clear hh
      obtain ⟨n, r, rfl, rfl, rfl, rfl, rfl, hn⟩ := en_alen_i h
      obtain ⟨x1, x2, x3⟩ := hX n hn
      exact va_slen hx hb x1 x2 x3 hS hdg (k H locs ls hP hD hS hl)
    | invokevirtual idx => exact (en_iv_n (en_g_i (show en_g len 3 _ = _ from h)).2).elim
    | invokestatic idx => exact (en_is_n (en_g_i (show en_g len 3 _ = _ from h)).2).elim
    | ireturn => exact (en_ire_n (en_g_i (show en_g len 1 _ = _ from h)).2).elim
    | return_ => exact (en_vre_n (en_g_i (show en_g len 1 _ = _ from h)).2).elim
    | tableswitch dflt low high offs =>
      replace h : en_tsw pc lo st f dflt low high offs = some (.inl (pc', lo', st', f')) := h
      unfold en_tsw at h
      split at h
      next x r =>
        split at h
        next h1 =>
          obtain ⟨ht, rfl, rfl, rfl⟩ := en_jp_i h
          exact lv_tableOut hx hb hdg (Or.inl h1) ht (k H locs ls hP hD hS hl)
        next h1 =>
          split at h
          next h2 =>
            obtain ⟨ht, rfl, rfl, rfl⟩ := en_jp_i h
            exact lv_tableOut hx hb hdg (Or.inr h2) ht (k H locs ls hP hD hS hl)
          next h2 =>
            split at h
            next o ho =>
              obtain ⟨ht, rfl, rfl, rfl⟩ := en_jp_i h
              exact lv_tableIn hx hb hdg h1 h2 ho ht (k H locs ls hP hD hS hl)
            next => cases h
      next => cases h
    | _ => exact absurd (show (none : Option en_Rs) = some _ from h) (fun q => by cases q)
end EnStep
