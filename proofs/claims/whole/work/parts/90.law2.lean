/-! THE CLAIM OUT OF ONE WALK OF THE LAW'S BODY. Your part is whole_start (and what it stands on); all else here is the same for every law, but numbers. -/
def R_law : String := "PluggedBusLaw"
def lw_P (b : Addr) (xs : List Int32) (args : Array Value) (s : State) : Prop := args = #[.ref b] ∧ s.IntsAt b xs ∧ xs.length ≤ 2560 ∧ (Jvm.Cond.and given_1 narrow_1).before args s = true
def lw_Q (_ : Array Value) (s : State) (o : Outcome) (t : State) : Prop := o = .returned (some (.int 1)) ∧ Framed s o t [] 600000 7302250
def lw_Z (below : List Frame) (a : Array Value) (s : State) : State → Prop := fun t => ∃ o, t.status = .running ∧ Ended t below o ∧ lw_Q a s o t
/-- the law's own end, with 1 on the stack, nothing written that was there before, its room as the claim has it -/
theorem lw_ret {p : Program} {l : Launch} {e : Env} {s : State} {m : MethodId} {below : List Frame} {meth : Method} {c : Code} {b : Nat} (hx : p.tables.exec = Jvm.exec) (hb : c.code = code) (hr : meth.sig.returnType = ret) (hlocks : meth.locks = false) {pc : Nat} {H : Heap} {ls : Array Slot} (hdg : decode code pc = .ok (.ireturn, 1)) : W p l e room_1 s m #[Value.ref b] below meth c H [] 600000 7302250 (lw_Z below #[Value.ref b] s) (F0 m pc ls [.int 1]) := by
  intro T hT X
  obtain ⟨fs, hret, hrun, hended, hW, hframe⟩ := X.leave (v := some (.int 1)) (hlocks := hlocks) (fun h => by rw [hr] at h; cases h)
  have hmeth' : T.vm.method? m = some meth := X.method'
  refine ⟨T.setFrames fs, ?_, .returned (some (.int 1)), hrun, hended, rfl, ⟨_, rfl⟩, hW, hframe⟩
  jvm_step X.here [X.here.top, hx, hb, hdg, hmeth', hr, ret, narrow_b1]
  (try refine ⟨rfl, ?_⟩); (try refine ⟨rfl, ?_⟩)
  first | (intro acts; rw [hret _ acts rfl rfl rfl]) | rw [hret _ _ rfl rfl rfl]
  exact Steps.refl _
/-- what holds at the law's entry: the machine, the code, the tables' words (any of lw_tbl by 'hts w (by decide +kernel)'), the script of L ints xs at the cell b, what the Statement gives of the start (any of its parts by flat_of_before) -/
def lw_At (p : Program) (s : State) (m : MethodId) (meth : Method) (c : Code) (b L : Nat) (xs : Nat → Int32) : Prop :=
  p.tables.exec = Jvm.exec ∧ c.code = code ∧ meth.sig.returnType = ret ∧ c.maxLocals = 4 ∧ s.vm.findClass R_law = some m.cls ∧ (∀ w ∈ lw_tbl, w.before #[Value.ref b] s = true) ∧ va_X b L xs s s.heap ∧ b < s.heap.size ∧ meth.locks = false ∧ (Jvm.Cond.and given_1 narrow_1).before #[Value.ref b] s = true
set_option maxHeartbeats 4000000 in
set_option maxRecDepth 100000 in
theorem lw_stepz {p : Program} {l : Launch} {e : Env} {s : State} {m : MethodId} {below : List Frame} {meth : Method} {c : Code} {b cells slots : Nat} {cs : en_S} {G : en_Gg} {A : Nat → Prop} (F : en_Fx p s m #[Value.ref b] c lw_tbl cs 128 G A s.heap) (hA : ∀ q, A q → s.heap.size ≤ q) (hb : c.code = code) (hr : meth.sig.returnType = ret) (hlocks : meth.locks = false) (hc : cells ≤ 600000 ∧ slots ≤ 7302250) {pc : Nat} {lo : en_L} {st : List en_V} {f : en_T} {r : Option en_V} (h : en_stp cs 128 pc lo st f = some (.inr (.inl r))) (hp : r = some (.inl 1)) :
    en_P p l e room_1 s m #[Value.ref b] below meth c cells slots (lw_Z below #[Value.ref b] s) G A s.heap (en_mL 128) pc lo st f := by
  obtain ⟨hx, hb2, hml, hown, hts, hall, hK, hX⟩ := F
  unfold en_stp at h
  cases hcd : en_cd 128 pc with
  | none => rw [hcd] at h; cases h
  | some q =>
    rw [hcd] at h
    obtain ⟨ins, len, ka, kb⟩ := q
    obtain ⟨hdg, hft⟩ := en_cd_all hcd
    replace hdg : decode (en_mb 128) pc = .ok (ins, len) := hdg
    replace h : en_ex cs 128 ins len ka kb pc lo st f = some (.inr (.inl r)) := h
    rw [← hb2, hb] at hdg
    intro H locs ls hP hD hS hl
    have hh := en_ex_r h
    clear h
    obtain ⟨rfl, h⟩ := hh
    rcases h with ⟨rfl, h⟩ | ⟨rfl, h⟩
    · obtain ⟨x, rfl, e1, -⟩ := en_ire_i h
      rw [hp] at e1
      have e2 : x = 1 := by cases e1; rfl
      subst e2
      refine va_forget (fun q hq => hA _ (hS.2.2 q hq)) ?_
      refine W.widen (k := 600000) (n := 7302250) hc.1 hc.2 ?_
      exact lw_ret hx hb hr hlocks hdg
    · obtain ⟨-, e1, -⟩ := en_vre_i h
      rw [hp] at e1
      cases e1
set_option maxHeartbeats 4000000 in
set_option maxRecDepth 100000 in
theorem whole_start {p : Program} {e : Env} {s : State} {m : MethodId} {below : List Frame} {meth : Method} {c : Code} (l : Launch) {b L : Nat} {xs : Nat → Int32} (hL : L ≤ 2560) (C0 : lw_At p s m meth c b L xs) : W p l e room_1 s m #[Value.ref b] below meth c s.heap [] 0 0 (lw_Z below #[Value.ref b] s) (entryFrame m ([Value.ref b] : List Value).toArray 4) := by
  obtain ⟨hx, hb, hr, hml, hown, hts, hX, hbl, hlocks, -⟩ := C0
  have hall : ∀ w ∈ en_all, w.before #[Value.ref b] s = true := fun w hw => hts w (List.mem_filter.mp hw).1
  have hlay : ∀ w ∈ en_all, w ∈ lw_tbl := fun w hw => (List.mem_filter.mp hw).1
  obtain ⟨D, hK⟩ := lw_D hall
  obtain ⟨cI, -, -, hI, -⟩ := Cond.arrayClass_spec (hall _ ko_ai)
  obtain ⟨cZ, -, -, hZ, -⟩ := Cond.arrayClass_spec (hall _ ko_az)
  have hF : kp cI s := ⟨hI, va_Nw.of rfl (hts _ lw_n0), va_Nw.of rfl (hts _ lw_n1), va_Nw.of rfl (hts _ lw_n2), va_Nw.of rfl (hts _ lw_n3), va_Nw.of rfl (hts _ lw_n4), va_Nw.of rfl (hts _ lw_n5), va_AO.of (hts _ lw_n6), va_AO.of (hts _ lw_n7)⟩
  obtain ⟨A, hAe⟩ : ∃ A : Nat → Prop, A = fun q => s.heap.size ≤ q := ⟨_, rfl⟩
  have hA : ∀ q, s.heap.size ≤ q → A q := fun q h => by rw [hAe]; exact h
  have hA2 : ∀ q, A q → s.heap.size ≤ q := fun q h => by rw [hAe] at h; exact h
  have hP : va_P D en_cl [] s.heap := fun k q h => by simp at h
  have hD : va_D A [] := ⟨fun i j p q h => by simp at h, fun k q h => by simp at h⟩
  have hS : va_S A s.heap s.heap [] := va_S.rf
  have hl := lv_entry ([.ref b]) (n := 4) (Nat.le_of_ble_eq_true rfl)
  rw [lg_entry_eq]
  generalize (lg_sl ([.ref b]) ++ List.replicate (4 - (lg_sl ([.ref b])).length) Slot.unset).toArray = ls at hl ⊢
  have hl : lv_has ls 4 [(0, .ref b)] := hl
  refine va_new (ci := 0) (fs := [.null, .null, .null, .null, .int 0, .int 0, .int 0, .int 0]) (C := en_cn 0) (T := en_Ft 0) (N := en_N 0) hx hb hts (fun w hw => hlay w (ko_bus_l w hw)) (en_ty 0) (en_ty_all 0 (by omega)) hown (hall _ lw_w1) (hall _ ko_bus_t) (hall _ ko_bus_n) hK hP hD hS hA rfl kz_bus (show 1 ≤ 600000 by decide) (show 8 ≤ 7302250 by decide) kd_law_0 (fun qb H hP hD hS => ?_)
  refine W.widen (k := 1) (n := 8) (by decide) (by decide) ?_
  refine lv_dup hx hb kd_law_3 rfl ?_
  have hFc := kj_free hD hS hA
  have hPc := kj_l hP
  have hDc := kj_d hD
  have hKc := hK
  refine va_callv (va_runI (As := []) (rest := [.ref qb]) ⟨hx, hb, hml, hown, hts⟩ (k_bus l D cI qb H.size) (cwI 0 hts (kw_tbl ko_bus_c) rfl rfl rfl (hall _ ko_bus_n) (hall _ lw_w2) (hall _ ko_bus_m) rfl (by decide +kernel) ⟨Nat.le_of_ble_eq_true rfl, Nat.le_of_ble_eq_true rfl⟩) ⟨fun a U g mk q => by obtain ⟨q0, q1, qP, qK, qD, qF⟩ := q; exact ⟨q0, q1, qP, va_K.moved (u := U) (U := U.calling g mk a) (Vm.Alike.refl U.vm) qK, qD, kp_same (u := U) (U := U.calling g mk a) rfl qF⟩, fun U hU hW => ⟨rfl, by rw [hU], by rw [hU]; exact hPc, va_K.moved hW.alike hKc, hDc.weaken (fun _ _ _ _ => trivial), kp_warm hW hF⟩⟩ rfl rfl hl.1 rfl (lv_room (Nat.le_of_ble_eq_true rfl)) kd_law_4 ⟨show 69 ≤ 600000 by decide, show 546 ≤ 7302250 by decide⟩) hS (fun q _ h => hFc q h) hFc (fun v t H1 locs ht hvm _ hB hz1 hk1 hS => ?_)
  obtain ⟨ha0, hP1, hK1, hD1⟩ := hB
  rw [ht] at hP1
  have hK1 := va_K.moved hvm.symm hK1
  obtain ⟨hP, hD⟩ := kj_join hP hD hk1 hFc hP1 hD1
  rw [List.nil_append] at hP hD
  obtain ⟨a, cP, cO⟩ := v
  dsimp only at ha0 hP hD hK1
  refine W.widen (k := 69) (n := 546) (by decide) (by decide) ?_
  refine lv_astore_n (lv' := [(1, .ref qb), (0, .ref b)]) hx hb kd_law_7 rfl hl (by decide) rfl (fun ls hl => ?_)
  refine va_new (ci := 7) (fs := km_0) (C := en_cn 7) (T := en_Ft 7) (N := en_N 7) hx hb hts (fun w hw => hlay w (ko_mod_l w hw)) (en_ty 7) (en_ty_all 7 (by omega)) hown (hall _ lw_w3) (hall _ ko_mod_t) (hall _ ko_mod_n) hK hP hD hS hA rfl kz_mod (show 70 ≤ 600000 by decide) (show 593 ≤ 7302250 by decide) kd_law_8 (fun qm H hP hD hS => ?_)
  refine W.widen (k := 70) (n := 593) (by decide) (by decide) ?_
  refine lv_dup hx hb kd_law_11 rfl ?_
  have hFc := kj_free hD hS hA
  have hPc := kj_l hP
  have hDc := kj_d hD
  refine va_callv (va_runI (As := []) (rest := [.ref qm]) ⟨hx, hb, hml, hown, hts⟩ (k_mod l D cI cZ qm H.size) (cwI 0 hts (kw_tbl ko_mod_c) rfl rfl rfl (hall _ ko_mod_n) (hall _ lw_w4) (hall _ ko_mod_m) rfl (by decide +kernel) ⟨Nat.le_of_ble_eq_true rfl, Nat.le_of_ble_eq_true rfl⟩) ⟨fun a U g mk q => by obtain ⟨q0, q1, qP, qK, qD, qF⟩ := q; exact ⟨q0, q1, qP, va_K.moved (u := U) (U := U.calling g mk a) (Vm.Alike.refl U.vm) qK, qD, qF.1, qF.2⟩, fun U hU hW => ⟨rfl, by rw [hU], by rw [hU]; exact hPc, va_K.moved hW.alike hKc, hDc.weaken (fun _ _ _ _ => trivial), by rw [hW.alike.findClass]; exact hI, by rw [hW.alike.findClass]; exact hZ⟩⟩ rfl rfl hl.1 rfl (lv_room (Nat.le_of_ble_eq_true rfl)) kd_law_12 ⟨show 109 ≤ 600000 by decide, show 1085 ≤ 7302250 by decide⟩) hS (fun q _ h => hFc q h) hFc (fun v t H1 locs ht hvm hv hB hz1 hk1 hS => ?_)
  obtain ⟨hP1, hK2, hD1⟩ := hB
  rw [ht] at hP1
  have hK2 := va_K.moved hvm.symm hK2
  obtain ⟨hP, hD⟩ := kj_join hP hD hk1 hFc hP1 hD1
  obtain ⟨v1, v2⟩ := v
  obtain ⟨hv1, hv2⟩ := hv
  dsimp only at hv1 hv2
  refine W.widen (k := 109) (n := 1085) (by decide) (by decide) ?_
  refine lv_astore_n (lv' := [(2, .ref qm), (1, .ref qb), (0, .ref b)]) hx hb kd_law_15 rfl hl (by decide) rfl (fun ls hl => ?_)
  -- the cells, in the engine's order
  obtain ⟨G, hG⟩ : ∃ G : en_Gg, G = (lw_ad a b qm (fun i => v1.getD i 0) (fun i => v2.getD i 0), D, lw_cls cI cZ cP cO) := ⟨_, rfl⟩
  have eX : kb_b a cI cP cO (fun j => some (a 3 j)) (fun j => some (a 8 j)) ++ kb_ps cI a 6 ++ kb_os cI a 16 ++ km_l cI cZ qm (v1, v2) = (lw_oc1 ++ lw_oc2).map (lw_cf G) := by
    rw [List.map_append, hG, ← lw_x1, ← lw_x2, lw_lst hv1, lw_lst hv2]
  have hP3 : va_P D en_cl ((lw_oc1 ++ lw_oc2).map (lw_cf G)) H1 := by
    rw [← eX, List.append_assoc, List.append_assoc]
    rw [List.append_assoc, List.append_assoc] at hP
    exact lw_up hP
  have hD3 : va_D A ((lw_oc1 ++ lw_oc2).map (lw_cf G)) := by
    rw [← eX]
    exact lw_D_fst (by simp only [List.map_append]; rfl) hD
  have hPw : va_P G.2.1 en_cl (en_wl G (lw_f0, lw_g0)) H1 := by
    have := lw_P_perm (lw_oc_p.map (lw_cf G)) hP3
    rw [hG] at this ⊢
    exact this
  have hDw : va_D A (en_wl G (lw_f0, lw_g0)) := lw_D_perm (lw_oc_p.map (lw_cf G)) hD3
  have hKw : va_K G.2.1 en_cl (en_tys G) s := by
    rw [hG]
    have h3 : va_K D en_cl ([(cP, .object "PluggedBus$Port"), (cO, .object "PluggedBus$Order"), (cI, .int)] ++ [(cI, .int), (cZ, .boolean)]) s := hK1.app hK2
    exact h3.sub [2, 4, 0, 1] rfl
  have g63 : G.1 63 0 = b := by rw [hG]; rfl
  have g0 : G.1 0 0 = qb := by rw [hG]; exact ha0
  have g16 : G.1 16 0 = qm := by rw [hG]; rfl
  have F : en_Fx p s m #[Value.ref b] c lw_tbl (1, L, xs) 128 G A s.heap := ⟨hx, hb.trans rfl, hml.trans rfl, hown, hts, en_all_good, hKw, fun i hi => by
    have e0 : i = 0 := by
      have : i < 1 := hi
      omega
    subst e0
    rw [g63]
    exact ⟨hX, hbl, fun z => by have := hA2 _ z; omega⟩⟩
  have go : en_R (1, L, xs) 128 (0 + 7) (fun r _ => r = some (.inl 1)) 16 [some (.inr (63, 0)), some (.inr (0, 0)), some (.inr (16, 0)), none] [] (lw_f0, lw_g0) := by
    rw [r128_16, r128_17]
    exact lw_loop (by omega) (fun _ _ => rfl) L 0 (lw_f0, lw_g0) ⟨lw_start0, lw_MO0, lw_CO0⟩ (by omega) (by omega)
  have key := go (en_P p l e room_1 s m #[Value.ref b] below meth c 109 1085 (lw_Z below #[Value.ref b] s) G A s.heap (en_mL 128)) (fun pc lo st f hs => by
    unfold en_Sx at hs
    cases hq : en_stp (1, L, xs) 128 pc lo st f with
    | none => rw [hq] at hs; exact hs.elim
    | some q =>
      rw [hq] at hs
      cases q with
      | inl q => exact en_step_n F hq hs
      | inr q =>
        cases q with
        | inl r => exact lw_stepz F hA2 hb hr hlocks ⟨by decide, by decide⟩ hq hs
        | inr q => exact en_step_c (d := 7) F hq ⟨Nat.le_of_ble_eq_true rfl, Nat.le_of_ble_eq_true rfl⟩ ⟨Nat.le_of_ble_eq_true rfl, Nat.le_of_ble_eq_true rfl⟩ (en_snd l G 7 _ _ _ _ hs) (fun r g hk => hk))
  refine key H1 locs ls hPw hDw hS ⟨hl.1, hl.2.1, rfl, fun i v hi => ?_⟩
  rcases i with _ | _ | _ | _ | i
  · have e1 : v = .inr (63, 0) := by cases hi; rfl
    subst e1
    show ls[0]? = some (.val (.ref (G.1 63 0)))
    rw [g63]
    exact lv_at hl 2 rfl
  · have e1 : v = .inr (0, 0) := by cases hi; rfl
    subst e1
    show ls[1]? = some (.val (.ref (G.1 0 0)))
    rw [g0]
    exact lv_at hl 1 rfl
  · have e1 : v = .inr (16, 0) := by cases hi; rfl
    subst e1
    show ls[2]? = some (.val (.ref (G.1 16 0)))
    rw [g16]
    exact lv_at hl 0 rfl
  · cases hi
  · cases hi
-- ===== YOUR PART ENDS =====
set_option maxHeartbeats 4000000 in
theorem lw_walk (l : Launch) (b : Addr) (xs : List Int32) : MetFree l x (headSpec (Jvm.Cond.code x code maxLocals ret :: tables_1) room_1) (lw_P b xs) (fun _ _ _ _ _ => True) lw_Q := by
  refine MetFree.of_bodyS (code := code) (maxLocals := maxLocals) (ret := ret) (by decide) ?_ ?_
  · intro args s m h hn
    obtain ⟨meth, c, h1, h2, h3, h4, h5, h6, -, -⟩ := Cond.code_spec hn (atoms_spec (ws := Jvm.Cond.code x code maxLocals ret :: tables_1) h _ List.mem_cons_self)
    exact ⟨meth, c, h1, h2, h3, h4, h5, h6⟩
  · intro p e s m args below meth c s₁ B hml0 hP _
    obtain ⟨rfl, hx, hbd, hgv⟩ := hP
    obtain ⟨scr, harrAt, hlist, hof, hsmall⟩ := hx
    obtain ⟨hcb, hkn, -, -⟩ := State.arrayAt?_spec harrAt
    have hown : s.vm.findClass R_law = some m.cls := findClass_of_methodNamed B.named
    have hts0 : ∀ c ∈ (Jvm.Cond.code x code maxLocals ret :: tables_1), c.before #[Value.ref b] s = true := atoms_spec (ws := Jvm.Cond.code x code maxLocals ret :: tables_1) B.pre
    have hts : ∀ w ∈ lw_tbl, w.before #[Value.ref b] s = true := k2_hts_sels lw_privs (fun w hw => hts0 w (List.mem_cons_of_mem _ hw)) lw_privs_ok
    have hml : c.maxLocals = 4 := B.maxLocals_eq (hts0 _ List.mem_cons_self)
    have X₀ : Stand p l e room_1 s m #[Value.ref b] below meth c s₁ [] 0 0 := Stand.of_body B
    have hh0 : s₁.heap = s.heap := by rw [B.state]; rfl
    have hsz : scr.slots.size = xs.length := by rw [← Array.length_toList, hlist, List.length_map]
    have hval : ∀ j : Nat, j < xs.length → scr.slots[j]? = some (.int (xs.getD j 0)) := fun j hj => by
      rw [← Array.getElem?_toList, hlist]
      simp [hj]
    have hbl : b < s.heap.size := (Array.getElem?_eq_some_iff.mp hcb).1
    have hX : va_X b xs.length (fun j => xs.getD j 0) s s.heap := ⟨scr, hcb, hof, hkn, hsz, hval⟩
    have K : W p l e room_1 s m #[Value.ref b] below meth c s₁.heap [] 0 0 (lw_Z below #[Value.ref b] s) (entryFrame m ([Value.ref b] : List Value).toArray 4) := by
      rw [hh0]
      exact whole_start l hbd ⟨B.exec, B.bytes, B.returns, hml, hown, hts, hX, hbl, B.notSynchronized, hgv⟩
    obtain ⟨t, a1, o, b1, b2, b3⟩ := K s₁ rfl X₀
    exact ⟨t, o, a1, b1, b2, b3⟩
theorem lw_pre_spec {args : Array Value} {s : State} (h : (Jvm.Cond.and given_1 narrow_1).before args s = true) (hr : rest_1_c.before args s = true) : ∃ (b : Addr) (xs : List Int32), lw_P b xs args s := by
  have hs := flat_of_before _ h
  have hq := flat_of_before _ hr
  have hc : (Cond.count 1).before args s = true := hs _ (by decide +kernel)
  have harr : (Cond.arrayOf (.arg 0) .int).before args s = true := hs _ (by decide +kernel)
  have hle : (Cond.le (.length (.arg 0)) (.int 2560)).before args s = true := hs _ (by decide +kernel)
  have hlen : (Cond.isInt (.length (.arg 0))).before args s = true := hq _ (by decide +kernel)
  have hall : (Cond.all (.arg 0) (.isInt (.elem (.arg 0) (.index 0)))).before args s = true := hq _ (by decide +kernel)
  obtain ⟨b, xs, hb, hx⟩ := State.ints_of_pre rfl harr hlen hall
  have hsm : xs.length < 2 ^ 31 := hx.choose_spec.2.2.2
  have hev : (Term.length (.arg 0)).eval args s none [] s = some (.int xs.length.toInt32) := hx.length_eval hb
  have hv := Cond.le_ints hev (show (Term.int 2560).eval args s none [] s = some (.int 2560) from rfl)
  have hd : xs.length.toInt32 ≤ 2560 := by
    simpa [Cond.before, Cond.holds, hv] using hle
  have hN : xs.length ≤ 2560 := (Int32.ofNat_le_ofNat hsm (by decide)).mp (show Int32.ofNat xs.length ≤ Int32.ofNat 2560 from hd)
  exact ⟨b, xs, Cond.one_arg hc (show args[0]? = some (.ref b) from hb), hx, hN, h⟩
theorem lw_comes (l : Launch) : Comes l x (Jvm.Cond.code x code maxLocals ret :: tables_1) room_1 (fun tb e args s => Calls_1 tb e args s ∧ rest_1 tb e args s ∧ Pre_1 tb e args s)
    (fun _ _ args s o t => lw_Q args s o t) := by
  intro p e ha hc hk s m args below hf hfit hheap happ hpre
  obtain ⟨b, xs, hP⟩ := lw_pre_spec hpre.2.2 hpre.2.1
  obtain ⟨k, o, h1, h2, h3, hQ⟩ := lw_walk l b xs p e ha hc hk s m args below hf ((Spec.applies_iff_loose hf).mp happ).1 hP trivial
  exact ⟨k, o, h1, h2, h3, hQ⟩
theorem lw_frame {s t : State} {o : Outcome} {args : Array Value} (h : Framed s o t [] 600000 7302250) :
    Framed s o t (fieldLocs frame_1_writes args s ++ arrayLocs frame_1_arrays args s ++ staticLocs frame_1_statics s) 600000 7302250 := h
theorem lw_limb (L : Cond) (hL : ∀ (args : Array Value) (s t : State), L.after args s (.returned (some (.int 1))) t = true) :
    ArmFor flags0 classFile x code maxLocals ret World_1 tables_1 room_1 Calls_1 rest_1 Pre_1
      (fun tb e a s o t => postC L tb e a s o t ∧ Framed s o t (fieldLocs frame_1_writes a s ++ arrayLocs frame_1_arrays a s ++ staticLocs frame_1_statics s) 600000 7302250) := by
  intro l _ _ _ p e ha hc hk s m args below hf hfit hheap happ hpre
  obtain ⟨k, o, h1, h2, h3, rfl, hF⟩ := lw_comes l p e ha hc hk s m args below hf hfit hheap happ hpre
  exact ⟨k, _, h1, h2, h3, hL args s _, lw_frame hF⟩
theorem i_vc : Claimed_1_1 ∧ Claimed_1_2 := ⟨lw_limb limb_1_1 (fun args s t => by simp [limb_1_1, Cond.after, Cond.holds, Cond.value]), lw_limb limb_1_2 (fun args s t => Cond.after_iff.mpr (by
  first | (rw [show limb_1_2 = Cond.eq .result (.int 1) from rfl, Cond.eq_ints (x := 1) (y := 1) rfl rfl]; simp; done) | (simp [limb_1_2, Cond.value, Term.eval]; done)))⟩
