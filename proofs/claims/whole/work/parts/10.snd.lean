/-! THE ENGINE, sixth part: calls, answers, and that the small machine's runs are the machine's -/
section EnInvC
variable {pc len L : Nat} {lo : en_L} {st : List en_V} {f : en_T} {i y : Nat}
theorem en_iv_i {z y' nx : Nat} {a rest : List en_V} (h : en_iv pc st z = some (.inr (.inr (y', a, rest, nx)))) : ∃ (n : Nat) (b : List en_V), y' = z ∧ en_ms y' = false ∧ a = .inr (en_mk y', n) :: b ∧ n < en_cnt (en_mk y') ∧ b.length = en_np y' ∧ rest.length ≤ 8 ∧ st = b.reverse ++ .inr (en_mk y', n) :: rest ∧ nx = pc := by
  unfold en_iv at h
  split at h
  next h1 =>
    split at h
    next h2 =>
      split at h
      next h3 =>
        split at h
        next c b hb =>
          split at h
          next h4 =>
            split at h
            next h5 =>
              cases h
              obtain ⟨k, n⟩ := c
              dsimp only at h4 h5
              subst h4
              have e1 : st.take (en_np z + 1) = b.reverse ++ [.inr (en_mk z, n)] := by
                have := congrArg List.reverse hb
                simpa using this
              have e2 : (st.take (en_np z + 1)).length = en_np z + 1 := by rw [List.length_take]; omega
              refine ⟨n, b, rfl, h1, rfl, h5, ?_, h3, ?_, rfl⟩
              · rw [e1] at e2; simp at e2; exact e2
              · have := (List.take_append_drop (en_np z + 1) st).symm
                rw [e1] at this
                simpa using this
            next => cases h
          next => cases h
        next => cases h
      next => cases h
    next => cases h
  next => cases h
theorem en_is_i {z y' nx : Nat} {a rest : List en_V} (h : en_is pc st z = some (.inr (.inr (y', a, rest, nx)))) : y' = z ∧ en_ms y' = true ∧ a.length = en_np y' ∧ rest.length ≤ 8 ∧ st = a.reverse ++ rest ∧ nx = pc := by
  unfold en_is at h
  split at h
  next h1 =>
    split at h
    next h2 =>
      split at h
      next h3 =>
        cases h
        refine ⟨rfl, h1, ?_, h3, ?_, rfl⟩
        · rw [List.length_reverse, List.length_take]; omega
        · rw [List.reverse_reverse, List.take_append_drop]
      next => cases h
    next => cases h
  next => cases h
theorem en_ire_i {r : Option en_V} (h : en_ire y st = some (.inr (.inl r))) : ∃ x : Int32, st = [.inl x] ∧ r = some (.inl x) ∧ (en_rt y = 1 ∨ en_rt y = 2 ∧ en_isz x = true) := by
  unfold en_ire at h
  split at h
  next x t =>
    split at h
    next h1 =>
      have ht : t = [] := List.eq_nil_of_length_eq_zero h1
      subst ht
      split at h
      next h2 => cases h; exact ⟨x, rfl, rfl, Or.inl h2⟩
      next =>
        split at h
        next h2 =>
          split at h
          next h3 => cases h; exact ⟨x, rfl, rfl, Or.inr ⟨h2, h3⟩⟩
          next => cases h
        next => cases h
    next => cases h
  next => cases h
theorem en_vre_i {r : Option en_V} (h : en_vre y st = some (.inr (.inl r))) : st = [] ∧ r = none ∧ en_rt y = 0 := by
  unfold en_vre at h
  split at h
  next =>
    split at h
    next h1 => cases h; exact ⟨rfl, rfl, h1⟩
    next => cases h
  next => cases h
/-- which instructions call, and which answer -/
theorem en_ex_c {cs : en_S} {ins : Instr} {ka kb : Nat} {q : Nat × List en_V × List en_V × Nat} (h : en_ex cs y ins len ka kb pc lo st f = some (.inr (.inr q))) : len = 3 ∧ ((∃ i, ins = .invokevirtual i ∧ en_iv (pc + 3) st ka = some (.inr (.inr q))) ∨ (∃ i, ins = .invokestatic i ∧ en_is (pc + 3) st ka = some (.inr (.inr q)))) := by
  unfold en_ex at h
  split at h
  all_goals first
    | (obtain ⟨rfl, h⟩ := en_g_i h; exact ⟨rfl, Or.inl ⟨_, rfl, h⟩⟩)
    | (obtain ⟨rfl, h⟩ := en_g_i h; exact ⟨rfl, Or.inr ⟨_, rfl, h⟩⟩)
    | (exfalso; cases h; done)
    | (exfalso; obtain ⟨rfl, h⟩ := en_g_i h; simp only [en_nx, en_jp, en_ild, en_ald, en_ist, en_ast, en_inc, en_b2, en_bd, en_if, en_ic, en_dup, en_dupx, en_dup2, en_pop, en_gf, en_pf, en_iald, en_zald, en_iast, en_zast, en_aald, en_alen, en_ire, en_vre] at h; (repeat' split at h) <;> cases h; done)
    | (exfalso; simp only [en_tsw, en_jp] at h; (repeat' split at h) <;> cases h; done)
theorem en_ex_r {cs : en_S} {ins : Instr} {ka kb : Nat} {r : Option en_V} (h : en_ex cs y ins len ka kb pc lo st f = some (.inr (.inl r))) : len = 1 ∧ ((ins = .ireturn ∧ en_ire y st = some (.inr (.inl r))) ∨ (ins = .return_ ∧ en_vre y st = some (.inr (.inl r)))) := by
  unfold en_ex at h
  split at h
  all_goals first
    | (obtain ⟨rfl, h⟩ := en_g_i h; exact ⟨rfl, Or.inl ⟨rfl, h⟩⟩)
    | (obtain ⟨rfl, h⟩ := en_g_i h; exact ⟨rfl, Or.inr ⟨rfl, h⟩⟩)
    | (exfalso; cases h; done)
    | (exfalso; obtain ⟨rfl, h⟩ := en_g_i h; simp only [en_nx, en_jp, en_ild, en_ald, en_ist, en_ast, en_inc, en_b2, en_bd, en_if, en_ic, en_dup, en_dupx, en_dup2, en_pop, en_gf, en_pf, en_iald, en_zald, en_iast, en_zast, en_aald, en_alen, en_iv, en_is] at h; (repeat' split at h) <;> cases h; done)
    | (exfalso; simp only [en_tsw, en_jp] at h; (repeat' split at h) <;> cases h; done)
end EnInvC
section EnCall
variable {p : Program} {l : Launch} {e : Env} {R : Room} {s : State} {m : MethodId} {args : Array Value} {below : List Frame} {meth : Method} {c : Code} {cells slots : Nat} {Q : State → Prop}
variable {Ts : List Cond} {cs : en_S} {y : Nat} {G : en_Gg} {A : Nat → Prop} {H0 : Heap}
theorem en_row {H : Heap} {locs : List Loc} {pc : Nat} {ls : Array Slot} {st0 rest : List Value} {a : Array Value} {Q' : en_Q} (hr : va_Run p l e R s m args below meth c H locs cells slots 0 0 (F0 m pc ls st0) rest (en_Qc G Q' a) (en_A G)) (hS : va_S A H0 H locs) (hA : ∀ q, en_A G q → A q)
    (kk : ∀ (r : Option en_V) (g : en_T) (H1 : Heap) (locs1 : List Loc), Q' r g → va_P G.2.1 en_cl (en_wl G g) H1 → va_S A H0 H1 locs1 → W p l e R s m args below meth c H1 locs1 cells slots Q (F0 m (pc + 3) ls ((r.map (en_c G)).toList ++ rest))) : W p l e R s m args below meth c H locs cells slots Q (F0 m pc ls st0) := by
  intro T hT X
  obtain ⟨v, st₀, t, T', L, h0, X', hL, e1, e2, ⟨⟨r, g, hv, hq, hp⟩, hz, hk⟩, st⟩ := hr T hT X
  cases hv
  rw [h0] at hz hk
  obtain ⟨t2, a1, b1⟩ := kk r g T'.heap (locs ++ L) hq (by rw [e1]; exact hp)
    ⟨Nat.le_trans hS.1 (by rw [e1]; exact hz), fun q h1 h2 => by rw [e1, hk q (Nat.lt_of_lt_of_le h1 hS.1) (fun z => h2 (hA q z))]; exact hS.2.1 q h1 h2, fun q hq => by
      rcases List.mem_append.mp hq with h | h
      · exact hS.2.2 q h
      · exact hA _ (hL q h)⟩ T' rfl X'
  exact ⟨t2, st t2 a1, b1⟩
theorem en_blind {a : List en_V} {f : en_T} : FrameBlind (en_Pc G a f) := fun a U g mk q => by
  obtain ⟨q0, qP, qK, qD⟩ := q
  exact ⟨q0, qP, va_K.moved (u := U) (U := U.calling g mk a) (Vm.Alike.refl U.vm) qK, qD⟩
set_option maxHeartbeats 4000000 in
theorem en_step_c (F : en_Fx p s m args c Ts cs y G A H0) {d pc y' nx : Nat} {lo : en_L} {st a rest : List en_V} {f : en_T} {Q' : en_Q} (h : en_stp cs y pc lo st f = some (.inr (.inr (y', a, rest, nx))))
    (hR : d + 1 ≤ R.frames ∧ 28 * d + 28 ≤ R.locals) (hC : cells ≤ R.cells ∧ slots ≤ R.slots)
    (hM : en_va y' = true → Met l (en_my y') (en_w y') (en_rm d) (en_Pc G a f) (en_Qc G Q') 0 0 (en_A G))
    (k : ∀ r g, Q' r g → en_P p l e R s m args below meth c cells slots Q G A H0 (en_mL y) nx lo (r.toList ++ rest) g) : en_P p l e R s m args below meth c cells slots Q G A H0 (en_mL y) pc lo st f := by
  obtain ⟨hx, hb, hml, hown, hts, hall, hK, hX⟩ := F
  unfold en_stp at h
  cases hcd : en_cd y pc with
  | none => rw [hcd] at h; cases h
  | some q =>
    rw [hcd] at h
    obtain ⟨ins, len, ka, kb⟩ := q
    obtain ⟨hdg, hft⟩ := en_cd_all hcd
    replace hdg : decode (en_mb y) pc = .ok (ins, len) := hdg
    replace h : en_ex cs y ins len ka kb pc lo st f = some (.inr (.inr (y', a, rest, nx))) := h
    intro H locs ls hP hD hS hl
    have hh := en_ex_c h
    clear h
    obtain ⟨rfl, h⟩ := hh
    have hA : ∀ q, en_A G q → A q := fun q hq => en_D_in hD hq
    have hDA : va_D (en_A G) (en_wl G f) := ⟨hD.1, fun k q hk => by
      cases hc : en_allc[k]? with
      | none => rw [en_wl, List.getElem?_map, hc] at hk; cases hk
      | some c => rw [en_wl_at (k := c.1) (i := c.2) hc] at hk; cases hk; exact ⟨c, List.mem_of_getElem? hc, rfl⟩⟩
    rcases h with ⟨idx, rfl, h⟩ | ⟨idx, rfl, h⟩
    · obtain ⟨n, b, rfl, hst, rfl, hn, hbl, hrl, rfl, rfl⟩ := en_iv_i h
      obtain ⟨hv, hlk, hvw, -⟩ := en_ml_ok (show (en_mlF.map (·.1)).contains (en_mo y, idx, y') = true from hft)
      obtain ⟨hcls, hmx, hd1, hd2, hd3, hpn, hcode⟩ := en_my_ok hv
      obtain ⟨hin, hsel, hini, hrk⟩ := hvw hst
      obtain ⟨q0, hq0⟩ := en_pos hn
      have he := en_wl_at (G := G) (f := f) hq0
      rw [en_cell_o hrk.1] at he
      have hGw : GoodIn Ts (wsV (en_cn (en_mo y)) idx (en_my y').cls (en_my y') (en_w y')) := by
        intro w hw
        rcases List.mem_append.mp hw with h | h
        · rcases List.mem_cons.mp h with rfl | h
          · exact hall _ hlk
          rcases List.mem_cons.mp h with rfl | h
          · exact hall _ hin
          rcases List.mem_cons.mp h with rfl | h
          · exact hall _ hsel
          rcases List.mem_cons.mp h with rfl | h
          · exact hall _ hini
          · cases h
        · rcases List.mem_cons.mp h with rfl | h
          · exact hall _ hcode
          · exact hall _ h
      refine en_row (G := G) (Q' := Q') (rest := rest.map (en_c G)) (va_runV (C := (en_my y').cls) (b := G.1 (en_mk y') n) (As := b.map (en_c G)) ⟨hx, hb, hml, hown, hts⟩ (hM hv)
        (cwV (en_np y') hts hGw rfl rfl rfl ⟨rfl, hd1, hd2, hd3⟩ ⟨hR.1, by show 8 + (en_mL y' + 11) + 28 * d ≤ R.locals; omega⟩)
        ⟨en_blind, by rw [← hrk.2]; exact va_recv hK hP (en_cl_ok hrk.1) he, fun U hU hW => ⟨rfl, by rw [hU]; exact hP, va_K.moved hW.alike hK, hDA⟩⟩ rfl (by rw [List.length_map]; exact hbl) hl.1 (by simp [en_c]) (lv_room (by rw [en_cat]; exact hrl)) hdg ⟨hC.1, hC.2⟩) hS hA (fun r g H1 locs1 hq hP1 hS1 => ?_)
      rw [← en_app]
      exact k r g hq H1 locs1 ls hP1 (en_D_any hD) hS1 hl
    · obtain ⟨rfl, hst, hal, hrl, rfl, rfl⟩ := en_is_i h
      obtain ⟨hv, hlk, -, hsw⟩ := en_ml_ok (show (en_mlF.map (·.1)).contains (en_mo y, idx, y') = true from hft)
      obtain ⟨hcls, hmx, hd1, hd2, hd3, hpn, hcode⟩ := en_my_ok hv
      obtain ⟨hsta, hini, hocl⟩ := hsw hst
      have hGw : GoodIn Ts (wsS (en_cn (en_mo y)) idx (en_my y') (en_w y')) := by
        intro w hw
        rcases List.mem_append.mp hw with h | h
        · rcases List.mem_cons.mp h with rfl | h
          · exact hall _ hlk
          rcases List.mem_cons.mp h with rfl | h
          · exact hall _ hsta
          rcases List.mem_cons.mp h with rfl | h
          · rw [← hocl]; exact hall _ hini
          · cases h
        · rcases List.mem_cons.mp h with rfl | h
          · exact hall _ hcode
          · exact hall _ h
      refine en_row (G := G) (Q' := Q') (rest := rest.map (en_c G)) (va_runS (As := a.map (en_c G)) ⟨hx, hb, hml, hown, hts⟩ (hM hv)
        (cwS (en_np y') hts hGw rfl rfl rfl ⟨hocl, hd1, hd2, hd3⟩ ⟨hR.1, by show 8 + (en_mL y' + 11) + 28 * d ≤ R.locals; omega⟩)
        ⟨en_blind, fun U hU hW => ⟨rfl, by rw [hU]; exact hP, va_K.moved hW.alike hK, hDA⟩⟩ rfl (by rw [List.length_map]; exact hal) hl.1 (by simp) (lv_room (by rw [en_cat]; exact hrl)) hdg ⟨hC.1, hC.2⟩) hS hA (fun r g H1 locs1 hq hP1 hS1 => ?_)
      rw [← en_app]
      exact k r g hq H1 locs1 ls hP1 (en_D_any hD) hS1 hl
set_option maxHeartbeats 4000000 in
theorem en_step_r (F : en_Fx p s m args c Ts cs y G (en_A G) s.heap) (hlocks : meth.locks = false) (hr : meth.sig.returnType = en_mr y) {pc : Nat} {lo : en_L} {st : List en_V} {f : en_T} {r : Option en_V} {post : en_Q} (h : en_stp cs y pc lo st f = some (.inr (.inl r))) (hp : post r f) :
    en_P p l e R s m args below meth c cells slots (MQ below (en_Qc G post) args s cells slots (en_A G)) G (en_A G) s.heap (en_mL y) pc lo st f := by
  obtain ⟨hx, hb, hml, hown, hts, hall, hK, hX⟩ := F
  unfold en_stp at h
  cases hcd : en_cd y pc with
  | none => rw [hcd] at h; cases h
  | some q =>
    rw [hcd] at h
    obtain ⟨ins, len, ka, kb⟩ := q
    obtain ⟨hdg, hft⟩ := en_cd_all hcd
    replace hdg : decode (en_mb y) pc = .ok (ins, len) := hdg
    replace h : en_ex cs y ins len ka kb pc lo st f = some (.inr (.inl r)) := h
    intro H locs ls hP hD hS hl
    have hh := en_ex_r h
    clear h
    obtain ⟨rfl, h⟩ := hh
    rcases h with ⟨rfl, h⟩ | ⟨rfl, h⟩
    · obtain ⟨x, rfl, rfl, h1 | ⟨h2, hz⟩⟩ := en_ire_i h
      · have hr' : meth.sig.returnType = some .int := by rw [hr, en_mr, h1]; rfl
        exact W.iret (v := x) hx hb hr' (fun t ht hW => ⟨⟨some (.inl x), f, rfl, hp, by rw [ht]; exact hP⟩, hS.F ht⟩) hS.2.2 hdg
      · have hr' : meth.sig.returnType = some .boolean := by rw [hr, en_mr, h2]; rfl
        exact W.zret (v := x) hx hb hr' (en_isz_nar hz) (fun t ht hW => ⟨⟨some (.inl x), f, rfl, hp, by rw [ht]; exact hP⟩, hS.F ht⟩) hS.2.2 hdg
    · obtain ⟨rfl, rfl, h1⟩ := en_vre_i h
      have hr' : meth.sig.returnType = none := by rw [hr, en_mr, h1]; rfl
      exact W.vret hx hb hr' (fun t ht hW => ⟨⟨none, f, rfl, hp, by rw [ht]; exact hP⟩, hS.F ht⟩) hS.2.2 hdg
end EnCall
set_option maxHeartbeats 4000000 in
/-- THE ENGINE'S THEOREM: what the small machine says of a method is a contract of the method -/
theorem en_snd (l : Launch) (G : en_Gg) : ∀ (d y : Nat) (a : List en_V) (f : en_T) (Q : en_Q), en_Ev d y a f Q → en_va y = true → Met l (en_my y) (en_w y) (en_rm d) (en_Pc G a f) (en_Qc G Q) 0 0 (en_A G) := by
  intro d
  induction d with
  | zero => intro y a f Q h; exact h.elim
  | succ d ih =>
    intro y a f Q h hv
    obtain ⟨hlen, hgo⟩ := h
    obtain ⟨hcls, hmx, hd1, hd2, hd3, hpn, hcode⟩ := en_my_ok hv
    refine Met.ofW (cc := en_mb y) (maxL := en_mL y) (ret := en_mr y) hpn rfl ?_
    intro p e s m args below meth c s₁ B hml hv'
    obtain ⟨rfl, hP, hK, hD⟩ := hv'
    have hts := atoms_spec (ws := en_w y) B.pre
    have hown : s.vm.findClass (en_cn (en_mo y)) = some m.cls := by rw [← hcls]; exact findClass_of_methodNamed B.named
    have hall : GoodIn (en_w y) en_all := fun w hw => ⟨List.mem_cons_of_mem _ hw, en_good w hw⟩
    have F : en_Fx p s m (a.map (en_c G)).toArray c (en_w y) en_s0 y G (en_A G) s.heap := ⟨B.exec, B.bytes, hml, hown, hts, hall, hK, fun i hi => absurd hi (Nat.not_lt_zero i)⟩
    have key := hgo (en_P p l e (headSpec (en_w y) (en_rm (d + 1))).room s m (a.map (en_c G)).toArray below meth c 0 0 (MQ below (en_Qc G Q) (a.map (en_c G)).toArray s 0 0 (en_A G)) G (en_A G) s.heap (en_mL y)) ?_
    · rw [lg_entry_eq]
      exact key s.heap [] _ hP hD va_S.rf (en_loc_entry G a (en_mL y) hlen)
    · intro pc lo st f' hs
      unfold en_Sx at hs
      cases hq : en_stp en_s0 y pc lo st f' with
      | none => rw [hq] at hs; exact hs.elim
      | some q =>
        rw [hq] at hs
        cases q with
        | inl q => exact en_step_n F hq hs
        | inr q =>
          cases q with
          | inl r => exact en_step_r F B.notSynchronized B.returns hq hs
          | inr q => exact en_step_c (d := d) F hq ⟨Nat.le_refl _, Nat.le_refl _⟩ ⟨Nat.le_refl _, Nat.le_refl _⟩ (ih _ _ _ _ hs) (fun r g hk => hk)
