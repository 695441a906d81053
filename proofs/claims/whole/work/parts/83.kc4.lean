/-! THE LAW'S START: the classes' numbers, the cells in the engine's order -/
section Kc4
variable {D : va_G} {cl : List vw_C} {A : Nat → Prop} {H : Heap} {ws ws' : va_W}
theorem lw_P_perm (h : ws.Perm ws') (hP : va_P D cl ws H) : va_P D cl ws' H := fun k q hk => by
  obtain ⟨i, hi⟩ := List.getElem?_of_mem (h.mem_iff.mpr (List.mem_of_getElem? hk))
  exact hP i q hi
theorem lw_D_nd (hD : va_D A ws) : (ws.map (fun q => q.1)).Nodup := by
  unfold List.Nodup
  rw [List.pairwise_iff_getElem]
  intro i j hi hj hij e
  rw [List.length_map] at hi hj
  rw [List.getElem_map, List.getElem_map] at e
  have := hD.1 i j _ _ (List.getElem?_eq_getElem hi) (List.getElem?_eq_getElem hj) e
  omega
theorem lw_D_of (hn : (ws.map (fun q => q.1)).Nodup) (hA : ∀ q ∈ ws, A q.1) : va_D A ws := by
  refine ⟨fun i j p q hi hj e => ?_, fun k q hk => hA q (List.mem_of_getElem? hk)⟩
  have hl : i < (ws.map (fun q => q.1)).length := by rw [List.length_map]; exact (List.getElem?_eq_some_iff.mp hi).1
  refine (List.getElem?_inj hl hn).mp ?_
  rw [List.getElem?_map, List.getElem?_map, hi, hj]
  show some p.1 = some q.1
  rw [e]
theorem lw_D_all (hD : va_D A ws) : ∀ q ∈ ws, A q.1 := fun q hq => by
  obtain ⟨i, hi⟩ := List.getElem?_of_mem hq
  exact hD.2 i q hi
theorem lw_D_perm (h : ws.Perm ws') (hD : va_D A ws) : va_D A ws' := lw_D_of ((h.map _).nodup_iff.mp (lw_D_nd hD)) (fun q hq => lw_D_all hD q (h.mem_iff.mpr hq))
theorem lw_D_fst (e : ws.map (fun q => q.1) = ws'.map (fun q => q.1)) (hD : va_D A ws) : va_D A ws' := by
  refine lw_D_of (by rw [← e]; exact lw_D_nd hD) (fun q hq => ?_)
  have : q.1 ∈ ws.map (fun q => q.1) := by rw [e]; exact List.mem_map.mpr ⟨q, hq, rfl⟩
  obtain ⟨r, hr, er⟩ := List.mem_map.mp this
  rw [← er]
  exact lw_D_all hD r hr
theorem arrV_x {cA : ClassId} {N : Nat} {f g : Nat → Value} (h : ∀ j, j < N → f j = g j) : arrV cA N f = arrV cA N g := by
  unfold arrV
  congr 2
  funext j
  exact h j.val j.isLt
theorem kb_u_x {cA : ClassId} {N : Nat} {g : Nat → Nat} : vp_cell cA (N, .inr (.inr (.inr (.inr (kb_u N g))))) = vp_cell cA (N, .inr (.inr (.inr (.inr (fun j => some (g j)))))) := by
  rw [vp_cell_q, vp_cell_q]
  refine arrV_x (fun j hj => ?_)
  show va_rf (kb_u N g j) = va_rf (some (g j))
  unfold kb_u
  rw [if_pos hj]
theorem lw_up {a : Nat → Nat → Nat} {cI cP cO : ClassId} {R : va_W} (hP : va_P D en_cl (kb_b a cI cP cO (kb_u 6 (a 3)) (kb_u 16 (a 8)) ++ R) H) : va_P D en_cl (kb_b a cI cP cO (fun j => some (a 3 j)) (fun j => some (a 8 j)) ++ R) H := by
  intro k q hk
  by_cases h1 : k = 1
  · subst h1
    have h := hP 1 (a 1 0, .inl (cP, 6, .inr (.inr (.inr (.inr (kb_u 6 (a 3))))))) rfl
    have e : (a 1 0, (.inl (cP, 6, .inr (.inr (.inr (.inr (fun j => some (a 3 j)))))) : va_E)) = q := Option.some.inj hk
    rw [← e]
    show H[a 1 0]? = some (vp_cell cP (6, .inr (.inr (.inr (.inr (fun j => some (a 3 j)))))))
    rw [← kb_u_x]
    exact h
  · by_cases h2 : k = 2
    · subst h2
      have h := hP 2 (a 2 0, .inl (cO, 16, .inr (.inr (.inr (.inr (kb_u 16 (a 8))))))) rfl
      have e : (a 2 0, (.inl (cO, 16, .inr (.inr (.inr (.inr (fun j => some (a 8 j)))))) : va_E)) = q := Option.some.inj hk
      rw [← e]
      show H[a 2 0]? = some (vp_cell cO (16, .inr (.inr (.inr (.inr (fun j => some (a 8 j)))))))
      rw [← kb_u_x]
      exact h
    · refine hP k q ?_
      rw [← hk]
      rcases k with _ | _ | _ | k
      · rfl
      · exact absurd rfl h1
      · exact absurd rfl h2
      · rfl
/-- where the cells lie -/
def lw_ad (a : Nat → Nat → Nat) (b qm : Nat) (w1 w2 : Nat → Nat) : Nat → Nat → Nat := fun k i => if k = 63 then b else if k < 16 then a k i else if k = 16 then qm else if k < 45 then w1 (k - 17) else if k < 58 then w2 (k - 49) else w2 (k - 50)
def lw_cls (cI cZ cP cO : ClassId) : Nat → ClassId := fun k => if k = 100 then cI else if k = 101 then cZ else if k = 1 then cP else cO
def lw_ocP (i : Nat) : List (Nat × Nat) := [(3, i), (4, i), (5, i), (6, i), (7, i)]
def lw_ocO (i : Nat) : List (Nat × Nat) := [(8, i), (9, i)]
def lw_oc1 : List (Nat × Nat) := [(0, 0), (1, 0), (2, 0), (10, 0), (11, 0), (12, 0), (13, 0)] ++ (List.range 6).flatMap lw_ocP ++ (List.range 16).flatMap lw_ocO
def lw_oc2 : List (Nat × Nat) := [(16, 0), (17, 0), (18, 0), (19, 0), (20, 0), (21, 0), (22, 0), (23, 0), (24, 0), (25, 0), (26, 0), (27, 0), (28, 0), (29, 0), (30, 0), (31, 0), (32, 0), (33, 0), (34, 0), (35, 0), (36, 0), (37, 0), (38, 0), (39, 0), (40, 0), (41, 0), (42, 0), (43, 0), (44, 0), (49, 0), (50, 0), (51, 0), (52, 0), (53, 0), (54, 0), (55, 0), (56, 0), (57, 0), (59, 0), (60, 0)]
theorem lw_oc_p : (lw_oc1 ++ lw_oc2).Perm en_allc := by decide +kernel
abbrev lw_cf (G : en_Gg) (c : Nat × Nat) : Nat × va_E := (G.1 c.1 c.2, en_cell G c.1 c.2 (lw_f0, lw_g0))
variable {a : Nat → Nat → Nat} {b qm : Nat} {w1 w2 : Nat → Nat} {cI cZ cP cO : ClassId}
theorem lw_xb : kb_b a cI cP cO (fun j => some (a 3 j)) (fun j => some (a 8 j)) = [(0, 0), (1, 0), (2, 0), (10, 0), (11, 0), (12, 0), (13, 0)].map (lw_cf (lw_ad a b qm w1 w2, D, lw_cls cI cZ cP cO)) := rfl
theorem lw_xp {i : Nat} : kb_p cI a i = (lw_ocP i).map (lw_cf (lw_ad a b qm w1 w2, D, lw_cls cI cZ cP cO)) := rfl
theorem lw_xo {i : Nat} : kb_o cI a i = (lw_ocO i).map (lw_cf (lw_ad a b qm w1 w2, D, lw_cls cI cZ cP cO)) := rfl
theorem lw_x1 : kb_b a cI cP cO (fun j => some (a 3 j)) (fun j => some (a 8 j)) ++ kb_ps cI a 6 ++ kb_os cI a 16 = lw_oc1.map (lw_cf (lw_ad a b qm w1 w2, D, lw_cls cI cZ cP cO)) := by
  unfold lw_oc1 kb_ps kb_os
  rw [List.map_append, List.map_append, List.map_flatMap, List.map_flatMap, lw_xb (b := b) (qm := qm) (w1 := w1) (w2 := w2) (D := D) (cZ := cZ), kb_fm (g := fun i => (lw_ocP i).map (lw_cf (lw_ad a b qm w1 w2, D, lw_cls cI cZ cP cO))) 6 (fun i _ => lw_xp), kb_fm (g := fun i => (lw_ocO i).map (lw_cf (lw_ad a b qm w1 w2, D, lw_cls cI cZ cP cO))) 16 (fun i _ => lw_xo)]
theorem lw_xm : ([.ref (w1 0), .ref (w1 1), .ref (w1 2), .ref (w1 3), .ref (w1 4), .ref (w1 5), .ref (w1 6), .ref (w1 7), .ref (w1 8), .ref (w1 9), .ref (w1 10), .ref (w1 11), .ref (w1 12), .ref (w1 13), .ref (w1 14), .ref (w1 15), .ref (w1 16), .ref (w1 17), .ref (w1 18), .ref (w1 19), .ref (w1 20), .ref (w1 21), .ref (w1 22), .ref (w1 23), .ref (w1 24), .ref (w1 25), .ref (w1 26), .ref (w1 27), .int 0, .int 5, .int 0, .int 0, .ref (w2 0), .ref (w2 1), .ref (w2 2), .ref (w2 3), .ref (w2 4), .ref (w2 5), .ref (w2 6), .ref (w2 7), .ref (w2 8), .int 0, .ref (w2 9), .ref (w2 10), .int 0, .int 0, .int 0] : List Value) = en_fs (lw_ad a b qm w1 w2, D, lw_cls cI cZ cP cO) 16 0 (lw_f0, lw_g0) := rfl
theorem lw_xr1 : km_rw cI cZ km_t1 [w1 0, w1 1, w1 2, w1 3, w1 4, w1 5, w1 6, w1 7, w1 8, w1 9, w1 10, w1 11, w1 12, w1 13, w1 14, w1 15, w1 16, w1 17, w1 18, w1 19, w1 20, w1 21, w1 22, w1 23, w1 24, w1 25, w1 26, w1 27] = [(17, 0), (18, 0), (19, 0), (20, 0), (21, 0), (22, 0), (23, 0), (24, 0), (25, 0), (26, 0), (27, 0), (28, 0), (29, 0), (30, 0), (31, 0), (32, 0), (33, 0), (34, 0), (35, 0), (36, 0), (37, 0), (38, 0), (39, 0), (40, 0), (41, 0), (42, 0), (43, 0), (44, 0)].map (lw_cf (lw_ad a b qm w1 w2, D, lw_cls cI cZ cP cO)) := rfl
theorem lw_xr2 : km_rw cI cZ km_t2 [w2 0, w2 1, w2 2, w2 3, w2 4, w2 5, w2 6, w2 7, w2 8, w2 9, w2 10] = [(49, 0), (50, 0), (51, 0), (52, 0), (53, 0), (54, 0), (55, 0), (56, 0), (57, 0), (59, 0), (60, 0)].map (lw_cf (lw_ad a b qm w1 w2, D, lw_cls cI cZ cP cO)) := rfl
theorem lw_x2 : km_l cI cZ qm ((List.range 28).map w1, (List.range 11).map w2) = lw_oc2.map (lw_cf (lw_ad a b qm w1 w2, D, lw_cls cI cZ cP cO)) := by
  have r1 : (List.range 28).map w1 = [w1 0, w1 1, w1 2, w1 3, w1 4, w1 5, w1 6, w1 7, w1 8, w1 9, w1 10, w1 11, w1 12, w1 13, w1 14, w1 15, w1 16, w1 17, w1 18, w1 19, w1 20, w1 21, w1 22, w1 23, w1 24, w1 25, w1 26, w1 27] := rfl
  have r2 : (List.range 11).map w2 = [w2 0, w2 1, w2 2, w2 3, w2 4, w2 5, w2 6, w2 7, w2 8, w2 9, w2 10] := rfl
  have e2 : lw_oc2 = [(16, 0)] ++ [(17, 0), (18, 0), (19, 0), (20, 0), (21, 0), (22, 0), (23, 0), (24, 0), (25, 0), (26, 0), (27, 0), (28, 0), (29, 0), (30, 0), (31, 0), (32, 0), (33, 0), (34, 0), (35, 0), (36, 0), (37, 0), (38, 0), (39, 0), (40, 0), (41, 0), (42, 0), (43, 0), (44, 0)] ++ [(49, 0), (50, 0), (51, 0), (52, 0), (53, 0), (54, 0), (55, 0), (56, 0), (57, 0), (59, 0), (60, 0)] := rfl
  unfold km_l
  dsimp only
  rw [r1, r2, km_f1, show ([.ref (w1 0), .ref (w1 1), .ref (w1 2), .ref (w1 3), .ref (w1 4), .ref (w1 5), .ref (w1 6), .ref (w1 7), .ref (w1 8), .ref (w1 9), .ref (w1 10), .ref (w1 11), .ref (w1 12), .ref (w1 13), .ref (w1 14), .ref (w1 15), .ref (w1 16), .ref (w1 17), .ref (w1 18), .ref (w1 19), .ref (w1 20), .ref (w1 21), .ref (w1 22), .ref (w1 23), .ref (w1 24), .ref (w1 25), .ref (w1 26), .ref (w1 27), .int 0, .int 0, .int 0, .int 0, .null, .null, .null, .null, .null, .null, .null, .null, .null, .int 0, .null, .null, .int 0, .int 0, .int 0] : List Value).set 29 (.int 5) = [.ref (w1 0), .ref (w1 1), .ref (w1 2), .ref (w1 3), .ref (w1 4), .ref (w1 5), .ref (w1 6), .ref (w1 7), .ref (w1 8), .ref (w1 9), .ref (w1 10), .ref (w1 11), .ref (w1 12), .ref (w1 13), .ref (w1 14), .ref (w1 15), .ref (w1 16), .ref (w1 17), .ref (w1 18), .ref (w1 19), .ref (w1 20), .ref (w1 21), .ref (w1 22), .ref (w1 23), .ref (w1 24), .ref (w1 25), .ref (w1 26), .ref (w1 27), .int 0, .int 5, .int 0, .int 0, .null, .null, .null, .null, .null, .null, .null, .null, .null, .int 0, .null, .null, .int 0, .int 0, .int 0] from rfl, km_f2, e2, List.map_append, List.map_append, ← lw_xr1, ← lw_xr2, lw_xm (a := a) (b := b) (qm := qm) (w1 := w1) (w2 := w2) (D := D) (cI := cI) (cZ := cZ) (cP := cP) (cO := cO)]
  rfl
theorem lw_lst {l : List Nat} {n : Nat} (h : l.length = n) : (List.range n).map (fun i => l.getD i 0) = l := by
  apply List.ext_getElem?
  intro i
  rw [List.getElem?_map]
  by_cases hi : i < n
  · rw [List.getElem?_range hi]
    have hl : i < l.length := by omega
    show some (l.getD i 0) = l[i]?
    rw [List.getD_eq_getElem?_getD, List.getElem?_eq_getElem hl]
    rfl
  · rw [List.getElem?_eq_none (by rw [List.length_range]; omega), List.getElem?_eq_none (by omega)]
    rfl
theorem lw_D {s : State} {args : Array Value} (hall : ∀ w ∈ en_all, w.before args s = true) : ∃ D : va_G, va_K D en_cl [] s := by
  have h0 := u_known hall ko_bus_l (hall _ ko_bus_t)
  have h1 := u_known hall ko_port_l (hall _ ko_port_t)
  have h2 := u_known hall ko_dev_l (hall _ ko_dev_t)
  have h3 := u_known hall ko_disk_l (hall _ ko_disk_t)
  have h4 := u_known hall ko_ord_l (hall _ ko_ord_t)
  have h5 := u_known hall ko_line_l (hall _ ko_line_t)
  have h6 := u_known hall ko_key_l (hall _ ko_key_t)
  have h7 := u_known hall ko_mod_l (hall _ ko_mod_t)
  obtain ⟨c0, i0, h0⟩ := h0
  obtain ⟨c1, i1, h1⟩ := h1
  obtain ⟨c2, i2, h2⟩ := h2
  obtain ⟨c3, i3, h3⟩ := h3
  obtain ⟨c4, i4, h4⟩ := h4
  obtain ⟨c5, i5, h5⟩ := h5
  obtain ⟨c6, i6, h6⟩ := h6
  obtain ⟨c7, i7, h7⟩ := h7
  refine ⟨(fun c => [c0, c1, c2, c3, c4, c5, c6, c7].getD c c0, fun c => [i0, i1, i2, i3, i4, i5, i6, i7].getD c i0), fun c q hq => ?_, fun k q hk => by simp at hk⟩
  have hlt : c < 8 := (List.getElem?_eq_some_iff.mp hq).1
  rcases (show c = 0 ∨ c = 1 ∨ c = 2 ∨ c = 3 ∨ c = 4 ∨ c = 5 ∨ c = 6 ∨ c = 7 by omega) with rfl | rfl | rfl | rfl | rfl | rfl | rfl | rfl
  · cases hq; exact h0
  · cases hq; exact h1
  · cases hq; exact h2
  · cases hq; exact h3
  · cases hq; exact h4
  · cases hq; exact h5
  · cases hq; exact h6
  · cases hq; exact h7
theorem kw_tbl {y : MethodName} {b : ByteArray} {L : Nat} (h : Cond.code y b L none ∈ en_all) : GoodIn lw_tbl (kw y b L) := fun w hw => by
  rcases List.mem_cons.mp hw with rfl | hw
  · exact ⟨(List.mem_filter.mp h).1, en_good _ h⟩
  · exact ⟨(List.mem_filter.mp hw).1, en_good _ hw⟩
theorem kz_bus : ∀ j, j < 8 → defaultValue (en_ty 0 j) = vp_V [.null, .null, .null, .null, .int 0, .int 0, .int 0, .int 0] j := by
  intro j hj
  rcases (show j = 0 ∨ j = 1 ∨ j = 2 ∨ j = 3 ∨ j = 4 ∨ j = 5 ∨ j = 6 ∨ j = 7 by omega) with rfl | rfl | rfl | rfl | rfl | rfl | rfl | rfl <;> rfl
theorem kz_mod : ∀ j, j < 47 → defaultValue (en_ty 7 j) = vp_V km_0 j := by
  intro j hj
  rcases (show j = 0 ∨ j = 1 ∨ j = 2 ∨ j = 3 ∨ j = 4 ∨ j = 5 ∨ j = 6 ∨ j = 7 ∨ j = 8 ∨ j = 9 ∨ j = 10 ∨ j = 11 ∨ j = 12 ∨ j = 13 ∨ j = 14 ∨ j = 15 ∨ j = 16 ∨ j = 17 ∨ j = 18 ∨ j = 19 ∨ j = 20 ∨ j = 21 ∨ j = 22 ∨ j = 23 ∨ j = 24 ∨ j = 25 ∨ j = 26 ∨ j = 27 ∨ j = 28 ∨ j = 29 ∨ j = 30 ∨ j = 31 ∨ j = 32 ∨ j = 33 ∨ j = 34 ∨ j = 35 ∨ j = 36 ∨ j = 37 ∨ j = 38 ∨ j = 39 ∨ j = 40 ∨ j = 41 ∨ j = 42 ∨ j = 43 ∨ j = 44 ∨ j = 45 ∨ j = 46 by omega) with rfl | rfl | rfl | rfl | rfl | rfl | rfl | rfl | rfl | rfl | rfl | rfl | rfl | rfl | rfl | rfl | rfl | rfl | rfl | rfl | rfl | rfl | rfl | rfl | rfl | rfl | rfl | rfl | rfl | rfl | rfl | rfl | rfl | rfl | rfl | rfl | rfl | rfl | rfl | rfl | rfl | rfl | rfl | rfl | rfl | rfl | rfl <;> rfl
theorem lw_w1 : Cond.classLink "PluggedBusLaw" 7 "PluggedBus" ∈ en_all := en_all_m 65 (by decide +kernel) (by decide +kernel)
theorem lw_w2 : Cond.methodLink "PluggedBusLaw" 9 (ky "PluggedBus") ∈ en_all := en_all_m 67 (by decide +kernel) (by decide +kernel)
theorem lw_w3 : Cond.classLink "PluggedBusLaw" 10 "PluggedBusModel" ∈ en_all := en_all_m 660 (by decide +kernel) (by decide +kernel)
theorem lw_w4 : Cond.methodLink "PluggedBusLaw" 12 (ky "PluggedBusModel") ∈ en_all := en_all_m 662 (by decide +kernel) (by decide +kernel)
theorem lw_n0 : Cond.methodLinkNest "PluggedBus$Device" 11 (ky "PluggedBus$Disk") "PluggedBus" ∈ lw_tbl := List.mem_of_getElem? (i := 125) (by decide +kernel)
theorem lw_n1 : Cond.methodLinkNest "PluggedBus$Port" 11 (ky "PluggedBus$Device") "PluggedBus" ∈ lw_tbl := List.mem_of_getElem? (i := 119) (by decide +kernel)
theorem lw_n2 : Cond.methodLinkNest "PluggedBus" 23 (ky "PluggedBus$Line") "PluggedBus" ∈ lw_tbl := List.mem_of_getElem? (i := 79) (by decide +kernel)
theorem lw_n3 : Cond.methodLinkNest "PluggedBus" 30 (ky "PluggedBus$KeyLog") "PluggedBus" ∈ lw_tbl := List.mem_of_getElem? (i := 97) (by decide +kernel)
theorem lw_n4 : Cond.methodLinkNest "PluggedBus" 39 (ky "PluggedBus$Port") "PluggedBus" ∈ lw_tbl := List.mem_of_getElem? (i := 113) (by decide +kernel)
theorem lw_n5 : Cond.methodLinkNest "PluggedBus" 40 (ky "PluggedBus$Order") "PluggedBus" ∈ lw_tbl := List.mem_of_getElem? (i := 258) (by decide +kernel)
theorem lw_n6 : Cond.arrayOver (.object "PluggedBus$Port") ∈ lw_tbl := List.mem_of_getElem? (i := 74) (by decide +kernel)
theorem lw_n7 : Cond.arrayOver (.object "PluggedBus$Order") ∈ lw_tbl := List.mem_of_getElem? (i := 76) (by decide +kernel)
theorem kd_law_0 : decode code 0 = .ok (.new 7, 3) := by decide +kernel
theorem kd_law_3 : decode code 3 = .ok (.dup, 1) := by decide +kernel
theorem kd_law_4 : decode code 4 = .ok (.invokespecial 9, 3) := by decide +kernel
theorem kd_law_7 : decode code 7 = .ok (.astore_n 1, 1) := by decide +kernel
theorem kd_law_8 : decode code 8 = .ok (.new 10, 3) := by decide +kernel
theorem kd_law_11 : decode code 11 = .ok (.dup, 1) := by decide +kernel
theorem kd_law_12 : decode code 12 = .ok (.invokespecial 12, 3) := by decide +kernel
theorem kd_law_15 : decode code 15 = .ok (.astore_n 2, 1) := by decide +kernel
end Kc4
