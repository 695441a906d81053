/-! THE CONSTRUCTORS, 2: the class's own, with its two loops -/
section Kc2
variable {D : va_G} {cl : List vw_C} {A : Nat → Prop} {H H1 : Heap} {ws w1 : va_W} {x : Nat × va_E}
theorem kj_l (hP : va_P D cl (ws ++ [x]) H) : va_P D cl [x] H := fun k q hk => by
  cases k with
  | zero => exact hP ws.length q (by rw [List.getElem?_append_right (Nat.le_refl _), Nat.sub_self]; exact hk)
  | succ k => cases hk
theorem kj_d (hD : va_D A (ws ++ [x])) : va_D A [x] := by
  refine ⟨fun i j p q hi hj _ => ?_, fun k q hk => ?_⟩
  · cases i with
    | zero => cases j with
      | zero => rfl
      | succ j => cases hj
    | succ i => cases hi
  · cases k with
    | zero => exact hD.2 ws.length q (by rw [List.getElem?_append_right (Nat.le_refl _), Nat.sub_self]; exact hk)
    | succ k => cases hk
theorem kj_dl (hD : va_D A (ws ++ w1)) : va_D A ws := by
  have e : ∀ {i : Nat} {p : Nat × va_E}, ws[i]? = some p → (ws ++ w1)[i]? = some p := fun h => by
    rw [List.getElem?_append_left (List.getElem?_eq_some_iff.mp h).1]; exact h
  exact ⟨fun i j p q hi hj h => hD.1 i j p q (e hi) (e hj) h, fun k q hk => hD.2 k q (e hk)⟩
theorem kj_pl (hP : va_P D cl (ws ++ w1) H) : va_P D cl ws H := fun k q hk => hP k q (by rw [List.getElem?_append_left (List.getElem?_eq_some_iff.mp hk).1]; exact hk)
theorem kj_ne (hD : va_D A (ws ++ [x])) {k : Nat} {q : Nat × va_E} (hk : ws[k]? = some q) : ¬ q.1 = x.1 := fun e => by
  have hl := (List.getElem?_eq_some_iff.mp hk).1
  have := hD.1 k ws.length q x (by rw [List.getElem?_append_left hl]; exact hk) (by rw [List.getElem?_append_right (Nat.le_refl _), Nat.sub_self]; rfl) e
  omega
theorem kj_na (hP : va_P D cl (ws ++ [x]) H) (hD : va_D A (ws ++ [x])) {k : Nat} {q : Nat × va_E} (hk : ws[k]? = some q) : q.1 < H.size ∧ ¬ va_A [x] H.size q.1 := by
  have hlt : q.1 < H.size := (kj_pl hP k q hk).lt
  refine ⟨hlt, fun z => ?_⟩
  rcases z with ⟨i, e, hi⟩ | z
  · cases i with
    | zero =>
      have : x = (q.1, e) := Option.some.inj hi
      exact kj_ne hD hk (by rw [this])
    | succ i => cases hi
  · omega
theorem kj_join (hP : va_P D cl (ws ++ [x]) H) (hD : va_D A (ws ++ [x])) (hk : ∀ q : Nat, q < H.size → ¬ va_A [x] H.size q → H1[q]? = H[q]?) (hF : ∀ q, va_A [x] H.size q → A q) (hP1 : va_P D cl w1 H1) (hD1 : va_D (va_A [x] H.size) w1) : va_P D cl (ws ++ w1) H1 ∧ va_D A (ws ++ w1) := by
  refine ⟨((kj_pl hP).kept (fun k q hq => hk q.1 (kj_na hP hD hq).1 (kj_na hP hD hq).2)).app hP1, va_D.app (kj_dl hD) (hD1.weaken (fun _ q _ h => hF q.1 h)) (fun i j p q hi hj e => ?_)⟩
  have h1 := (kj_na hP hD hi).2
  rw [e] at h1
  exact h1 (hD1.2 j q hj)
theorem kj_free {H0 : Heap} {locs : List Loc} (hD : va_D A (ws ++ [x])) (hS : va_S A H0 H locs) (hA : ∀ q, H0.size ≤ q → A q) : ∀ q, va_A [x] H.size q → A q := by
  intro q z
  rcases z with ⟨i, e, hi⟩ | z
  · cases i with
    | zero =>
      have : x = (q, e) := Option.some.inj hi
      have h2 := (kj_d hD).2 0 x rfl
      rw [this] at h2
      exact h2
    | succ i => cases hi
  · exact hA q (Nat.le_trans hS.1 z)
/-- the cells of the class -/
def kb_b (a : Nat → Nat → Nat) (cI cP cO : ClassId) (f g : Nat → Option Nat) : va_W := [(a 0 0, .inr (0, [.ref (a 1 0), .ref (a 2 0), .ref (a 10 0), .ref (a 12 0), .int 0, .int 0, .int 5, .int 0])), (a 1 0, .inl (cP, 6, .inr (.inr (.inr (.inr f))))), (a 2 0, .inl (cO, 16, .inr (.inr (.inr (.inr g))))), (a 10 0, .inr (5, [.ref (a 11 0), .int 0, .int 0])), (a 11 0, .inl (cI, 40, .inl (fun _ => 0))), (a 12 0, .inr (6, [.ref (a 13 0), .int 0, .int 0])), (a 13 0, .inl (cI, 8, .inl (fun _ => 0)))]
def kb_p (cI : ClassId) (a : Nat → Nat → Nat) (i : Nat) : va_W := [(a 3 i, .inr (1, [.ref (a 4 i), .int 0, .int 0, .int 0, .int 0, .int 0, .int 0, .int 0, .int 0, .int 0, .int 0, .int 0, .int 0])), (a 4 i, .inr (2, [.ref (a 5 i), .ref (a 7 i), .int 0, .int 0, .int 0, .int 0, .int 0, .int 0, .int 0, .int 0, .int 0, .int 0, .int 0])), (a 5 i, .inr (3, [.ref (a 6 i), .int 0, .int 0, .int 0, .int 0, .int 0, .int 0])), (a 6 i, .inl (cI, 8, .inl (fun _ => 0))), (a 7 i, .inl (cI, 4, .inl (fun _ => 0)))]
def kb_o (cI : ClassId) (a : Nat → Nat → Nat) (i : Nat) : va_W := [(a 8 i, .inr (4, [.ref (a 9 i), .int 0, .int 0, .int 0, .int 0, .int 0, .int 0, .int 0])), (a 9 i, .inl (cI, 4, .inl (fun _ => 0)))]
def kb_ps (cI : ClassId) (a : Nat → Nat → Nat) (n : Nat) : va_W := (List.range n).flatMap (kb_p cI a)
def kb_os (cI : ClassId) (a : Nat → Nat → Nat) (n : Nat) : va_W := (List.range n).flatMap (kb_o cI a)
def kb_u (n : Nat) (g : Nat → Nat) : Nat → Option Nat := fun j => if j < n then some (g j) else none
theorem kb_u_s {n q : Nat} {g g' : Nat → Nat} (h : ∀ j, j < n → g' j = g j) (hq : g' n = q) : va_up (kb_u n g) n (some q) = kb_u (n + 1) g' := by
  funext j
  unfold va_up kb_u
  by_cases e : j = n
  · subst e
    rw [if_pos rfl, if_pos (by omega), hq]
  · rw [if_neg e]
    by_cases h2 : j < n
    · rw [if_pos h2, if_pos (by omega), h j h2]
    · rw [if_neg h2, if_neg (by omega)]
def kb_a (a : Nat → Nat → Nat) (lo hi p : Nat) (v : Nat → Nat) : Nat → Nat → Nat := fun k i => if i = p ∧ lo ≤ k ∧ k ≤ hi then v k else a k i
theorem kb_a_n {a : Nat → Nat → Nat} {lo hi p k i : Nat} {v : Nat → Nat} (h : ¬ (i = p ∧ lo ≤ k ∧ k ≤ hi)) : kb_a a lo hi p v k i = a k i := if_neg h
theorem kb_a_s {a : Nat → Nat → Nat} {lo hi p k : Nat} {v : Nat → Nat} (h : lo ≤ k ∧ k ≤ hi) : kb_a a lo hi p v k p = v k := if_pos ⟨rfl, h⟩
theorem kb_fm {f g : Nat → va_W} : ∀ (n : Nat), (∀ i, i < n → f i = g i) → (List.range n).flatMap f = (List.range n).flatMap g := by
  intro n h
  induction n with
  | zero => rfl
  | succ n ih =>
    rw [List.range_succ, List.flatMap_append, List.flatMap_append, ih (fun i hi => h i (by omega))]
    simp only [List.flatMap_cons, List.flatMap_nil, h n (by omega)]
theorem kb_fs {f : Nat → va_W} {n : Nat} : (List.range (n + 1)).flatMap f = (List.range n).flatMap f ++ f n := by
  rw [List.range_succ, List.flatMap_append]
  simp only [List.flatMap_cons, List.flatMap_nil, List.append_nil]
variable {p : Program} {l : Launch} {e : Env} {R : Room} {s : State} {m : MethodId} {args : Array Value} {below : List Frame} {meth : Method} {c : Code} {Q : State → Prop} {H0 : Heap} {cI cP cO : ClassId} {h0 : Nat}
set_option maxHeartbeats 4000000 in
set_option maxRecDepth 100000 in
theorem kb_loop1 (hx : p.tables.exec = Jvm.exec) (hb : c.code = prog_1_method_1_code) (hml : c.maxLocals = 2) (hts : ∀ w ∈ kw (ky "PluggedBus") prog_1_method_1_code 2, w.before args s = true) (hown : s.vm.findClass "PluggedBus" = some m.cls) (hR : 4 ≤ R.frames ∧ 72 ≤ R.locals ∧ 68 ≤ R.cells ∧ 538 ≤ R.slots) (hF : kp cI s) (hK : va_K D en_cl [(cP, .object "PluggedBus$Port"), (cO, .object "PluggedBus$Order"), (cI, .int)] s) (hA : ∀ q, H0.size ≤ q → A q)
    (kk : ∀ (a : Nat → Nat → Nat) (H : Heap) (locs : List Loc) (ls : Array Slot), a 0 0 = h0 → va_P D en_cl (kb_b a cI cP cO (kb_u 6 (a 3)) (fun _ => none) ++ kb_ps cI a 6) H → va_D A (kb_b a cI cP cO (kb_u 6 (a 3)) (fun _ => none) ++ kb_ps cI a 6) → va_S A H0 H locs → lv_has ls 2 [(1, .int (nI 6)), (0, .ref h0)] → W p l e R s m args below meth c H locs 36 346 Q (F0 m 76 ls [])) :
    ∀ (n i : Nat) (a : Nat → Nat → Nat) (H : Heap) (locs : List Loc) (ls : Array Slot), i + n = 6 → a 0 0 = h0 → va_P D en_cl (kb_b a cI cP cO (kb_u i (a 3)) (fun _ => none) ++ kb_ps cI a i) H → va_D A (kb_b a cI cP cO (kb_u i (a 3)) (fun _ => none) ++ kb_ps cI a i) → va_S A H0 H locs → lv_has ls 2 [(1, .int (nI i)), (0, .ref h0)] → W p l e R s m args below meth c H locs (6 + 5 * i) (76 + 45 * i) Q (F0 m 51 ls []) := by
  have hall : ∀ w ∈ en_all, w.before args s = true := fun w hw => hts w (List.mem_cons_of_mem _ hw)
  intro n
  induction n with
  | zero =>
    intro i a H locs ls hi ha hP hD hS hl
    have ei : i = 6 := by omega
    subst ei
    refine lv_iload_n hx hb kd_bus_51 rfl (lv_at hl 0 rfl) ?_
    refine lv_bipush (v := nI 6) hx hb kd_bus_52 (by decide) ?_
    exact lv_icmp_ge hx hb kd_bus_54 (tgt := 76) (by decide) (fun _ => kk a H locs ls ha hP hD hS hl) (fun h => absurd (by decide) h)
  | succ n ih =>
    intro i a H locs ls hi ha hP hD hS hl
    have hiN : i < 6 := by omega
    refine lv_iload_n hx hb kd_bus_51 rfl (lv_at hl 0 rfl) ?_
    refine lv_bipush (v := nI 6) hx hb kd_bus_52 (by decide) ?_
    refine lv_icmp_ge hx hb kd_bus_54 (tgt := 76) (by decide) (fun h => absurd h (by rw [cb_le, cb_lt (by omega) (by omega)]; omega)) (fun _ => ?_)
    refine lv_aload_n hx hb kd_bus_57 rfl (lv_at hl 1 rfl) ?_
    subst ha
    refine va_get (D := D) (ci := 0) (v := .ref (a 1 0)) (C := en_cn 0) (T := en_Ft 0) (N := en_N 0) hx hb hts (fun w hw => List.mem_cons_of_mem _ (ko_bus_l w hw)) hown hK hP 0 rfl rfl 0 (by decide) (hall _ kf_bus_ports) (fun _ h9 => h9) rfl kd_bus_58 ?_
    refine lv_iload_n hx hb kd_bus_61 rfl (lv_at hl 0 rfl) ?_
    refine va_new (ci := 1) (fs := [.null, .int 0, .int 0, .int 0, .int 0, .int 0, .int 0, .int 0, .int 0, .int 0, .int 0, .int 0, .int 0]) (C := en_cn 1) (T := en_Ft 1) (N := en_N 1) hx hb hts (fun w hw => List.mem_cons_of_mem _ (ko_port_l w hw)) (en_ty 1) (en_ty_all 1 (by omega)) hown (hall _ kl_bus_port) (hall _ ko_port_t) (hall _ ko_port_n) hK hP hD hS hA rfl kz_port (show 6 + 5 * i + 1 ≤ R.cells by omega) (show 76 + 45 * i + 13 ≤ R.slots by omega) kd_bus_62 (fun q H hP hD hS => ?_)
    refine lv_dup hx hb kd_bus_65 rfl ?_
    have hFc := kj_free hD hS hA
    have hPc := kj_l hP
    have hDc := kj_d hD
    have hKc := hK.sub (tys' := []) [] rfl
    refine va_callv (va_runIN (As := []) (rest := [.ref q, .int (nI i), .ref (a 1 0)]) ⟨hx, hb, hml, hown, hts⟩ (k_port l D cI q H.size) ⟨va_cnB 0 hts (kw_good ko_port_c) rfl rfl rfl hF.2.2.2.2.2.1 (hall _ ko_port_n) (by decide +kernel) ⟨hR.1, hR.2.1⟩, rfl, hall _ ko_port_m⟩ ⟨fun a U g mk q => by obtain ⟨q0, q1, qP, qK, qD, qF⟩ := q; exact ⟨q0, q1, qP, va_K.moved (u := U) (U := U.calling g mk a) (Vm.Alike.refl U.vm) qK, qD, kp_same (u := U) (U := U.calling g mk a) rfl qF⟩, fun U hU hW => ⟨rfl, by rw [hU], by rw [hU]; exact hPc, va_K.moved hW.alike hKc, hDc.weaken (fun _ _ _ _ => trivial), kp_warm hW hF⟩⟩ rfl rfl hl.1 rfl (lv_room (Nat.le_of_ble_eq_true rfl)) kd_bus_66 ⟨show 6 + 5 * i + 1 + 4 ≤ R.cells by omega, show 76 + 45 * i + 13 + 32 ≤ R.slots by omega⟩) hS (fun q _ h => hFc q h) hFc (fun v t H1 locs ht hvm _ hB hz1 hk1 hS => ?_)
    obtain ⟨hP1, hK1, hD1⟩ := hB
    rw [ht] at hP1
    obtain ⟨hP, hD⟩ := kj_join hP hD hk1 hFc hP1 hD1
    refine va_astq hx hb hK hP hD hS 1 0 (kb_b a cI cP cO (kb_u i (a 3)) (fun _ => none) ++ kb_ps cI a i).length 1 rfl rfl (by rw [List.getElem?_append_right (Nat.le_refl _), Nat.sub_self]; rfl) rfl (en_in (cb_in hiN (by omega))) kd_bus_69 (fun H locs hP hD hS => ?_)
    rw [nI_clamp (show i < 2 ^ 31 by omega)] at hP hD
    have el : ((kb_b a cI cP cO (kb_u i (a 3)) (fun _ => none) ++ kb_ps cI a i) ++ ([(q, .inr (1, [.ref (v 4), .int 0, .int 0, .int 0, .int 0, .int 0, .int 0, .int 0, .int 0, .int 0, .int 0, .int 0, .int 0])), (v 4, .inr (2, [.ref (v 5), .ref (v 7), .int 0, .int 0, .int 0, .int 0, .int 0, .int 0, .int 0, .int 0, .int 0, .int 0, .int 0])), (v 5, .inr (3, [.ref (v 6), .int 0, .int 0, .int 0, .int 0, .int 0, .int 0])), (v 6, .inl (cI, 8, .inl (fun _ => 0))), (v 7, .inl (cI, 4, .inl (fun _ => 0)))] : va_W)).set 1 (a 1 0, .inl (cP, 6, .inr (.inr (.inr (.inr (va_up (kb_u i (a 3)) i (some q))))))) = (kb_b (kb_a a 3 7 i (fun k => if k = 3 then q else v k)) cI cP cO (kb_u (i + 1) ((kb_a a 3 7 i (fun k => if k = 3 then q else v k)) 3)) (fun _ => none) ++ kb_ps cI (kb_a a 3 7 i (fun k => if k = 3 then q else v k)) (i + 1)) := by
      rw [kb_u_s (q := q) (g' := (kb_a a 3 7 i (fun k => if k = 3 then q else v k)) 3) (fun j hj => kb_a_n (by omega)) (by rw [kb_a_s (by omega)]; rfl)]
      have e1 : kb_ps cI (kb_a a 3 7 i (fun k => if k = 3 then q else v k)) (i + 1) = kb_ps cI a i ++ ([(q, .inr (1, [.ref (v 4), .int 0, .int 0, .int 0, .int 0, .int 0, .int 0, .int 0, .int 0, .int 0, .int 0, .int 0, .int 0])), (v 4, .inr (2, [.ref (v 5), .ref (v 7), .int 0, .int 0, .int 0, .int 0, .int 0, .int 0, .int 0, .int 0, .int 0, .int 0, .int 0])), (v 5, .inr (3, [.ref (v 6), .int 0, .int 0, .int 0, .int 0, .int 0, .int 0])), (v 6, .inl (cI, 8, .inl (fun _ => 0))), (v 7, .inl (cI, 4, .inl (fun _ => 0)))] : va_W) := by
        unfold kb_ps
        rw [kb_fs, kb_fm (g := kb_p cI a) i (fun j hj => by
          unfold kb_p
          simp only [kb_a_n (show ¬ (j = i ∧ 3 ≤ 3 ∧ 3 ≤ 7) by omega), kb_a_n (show ¬ (j = i ∧ 3 ≤ 4 ∧ 4 ≤ 7) by omega), kb_a_n (show ¬ (j = i ∧ 3 ≤ 5 ∧ 5 ≤ 7) by omega), kb_a_n (show ¬ (j = i ∧ 3 ≤ 6 ∧ 6 ≤ 7) by omega), kb_a_n (show ¬ (j = i ∧ 3 ≤ 7 ∧ 7 ≤ 7) by omega)])]
        congr 1
        unfold kb_p
        rw [kb_a_s (k := 3) (by omega), kb_a_s (k := 4) (by omega), kb_a_s (k := 5) (by omega), kb_a_s (k := 6) (by omega), kb_a_s (k := 7) (by omega)]
        rfl
      rw [e1]
      unfold kb_b
      rw [kb_a_n (k := 0) (i := 0) (by omega), kb_a_n (k := 1) (i := 0) (by omega), kb_a_n (k := 2) (i := 0) (by omega), kb_a_n (k := 10) (i := 0) (by omega), kb_a_n (k := 11) (i := 0) (by omega), kb_a_n (k := 12) (i := 0) (by omega), kb_a_n (k := 13) (i := 0) (by omega), ← List.append_assoc]
      rfl
    rw [el] at hP hD
    refine lv_iinc (v := nI (i + 1)) (lv' := [(1, .int (nI (i + 1))), (0, .ref (a 0 0))]) hx hb kd_bus_70 hl (k := 0) rfl (by rw [show Int32.ofInt 1 = nI 1 from rfl, nI_add]) (by omega) rfl (fun ls hl => ?_)
    refine lv_goto hx hb kd_bus_73 (tgt := 51) (by decide) ?_
    refine W.widen (k := 6 + 5 * (i + 1)) (n := 76 + 45 * (i + 1)) (show 6 + 5 * i + 1 + 4 ≤ 6 + 5 * (i + 1) by omega) (show 76 + 45 * i + 13 + 32 ≤ 76 + 45 * (i + 1) by omega) ?_
    exact ih (i + 1) (kb_a a 3 7 i (fun k => if k = 3 then q else v k)) H locs ls (by omega) (kb_a_n (by omega)) hP hD hS hl
set_option maxHeartbeats 4000000 in
set_option maxRecDepth 100000 in
theorem kb_loop2 (hx : p.tables.exec = Jvm.exec) (hb : c.code = prog_1_method_1_code) (hml : c.maxLocals = 2) (hts : ∀ w ∈ kw (ky "PluggedBus") prog_1_method_1_code 2, w.before args s = true) (hown : s.vm.findClass "PluggedBus" = some m.cls) (hR : 4 ≤ R.frames ∧ 72 ≤ R.locals ∧ 68 ≤ R.cells ∧ 538 ≤ R.slots) (hF : kp cI s) (hK : va_K D en_cl [(cP, .object "PluggedBus$Port"), (cO, .object "PluggedBus$Order"), (cI, .int)] s) (hA : ∀ q, H0.size ≤ q → A q)
    (kk : ∀ (a : Nat → Nat → Nat) (H : Heap) (locs : List Loc) (ls : Array Slot), a 0 0 = h0 → va_P D en_cl (kb_b a cI cP cO (kb_u 6 (a 3)) (kb_u 16 (a 8)) ++ kb_ps cI a 6 ++ kb_os cI a 16) H → va_D A (kb_b a cI cP cO (kb_u 6 (a 3)) (kb_u 16 (a 8)) ++ kb_ps cI a 6 ++ kb_os cI a 16) → va_S A H0 H locs → lv_has ls 2 [(1, .int (nI 16)), (0, .ref h0)] → W p l e R s m args below meth c H locs 68 538 Q (F0 m 103 ls [])) :
    ∀ (n i : Nat) (a : Nat → Nat → Nat) (H : Heap) (locs : List Loc) (ls : Array Slot), i + n = 16 → a 0 0 = h0 → va_P D en_cl (kb_b a cI cP cO (kb_u 6 (a 3)) (kb_u i (a 8)) ++ kb_ps cI a 6 ++ kb_os cI a i) H → va_D A (kb_b a cI cP cO (kb_u 6 (a 3)) (kb_u i (a 8)) ++ kb_ps cI a 6 ++ kb_os cI a i) → va_S A H0 H locs → lv_has ls 2 [(1, .int (nI i)), (0, .ref h0)] → W p l e R s m args below meth c H locs (36 + 2 * i) (346 + 12 * i) Q (F0 m 78 ls []) := by
  have hall : ∀ w ∈ en_all, w.before args s = true := fun w hw => hts w (List.mem_cons_of_mem _ hw)
  intro n
  induction n with
  | zero =>
    intro i a H locs ls hi ha hP hD hS hl
    have ei : i = 16 := by omega
    subst ei
    refine lv_iload_n hx hb kd_bus_78 rfl (lv_at hl 0 rfl) ?_
    refine lv_bipush (v := nI 16) hx hb kd_bus_79 (by decide) ?_
    exact lv_icmp_ge hx hb kd_bus_81 (tgt := 103) (by decide) (fun _ => kk a H locs ls ha hP hD hS hl) (fun h => absurd (by decide) h)
  | succ n ih =>
    intro i a H locs ls hi ha hP hD hS hl
    have hiN : i < 16 := by omega
    refine lv_iload_n hx hb kd_bus_78 rfl (lv_at hl 0 rfl) ?_
    refine lv_bipush (v := nI 16) hx hb kd_bus_79 (by decide) ?_
    refine lv_icmp_ge hx hb kd_bus_81 (tgt := 103) (by decide) (fun h => absurd h (by rw [cb_le, cb_lt (by omega) (by omega)]; omega)) (fun _ => ?_)
    refine lv_aload_n hx hb kd_bus_84 rfl (lv_at hl 1 rfl) ?_
    subst ha
    refine va_get (D := D) (ci := 0) (v := .ref (a 2 0)) (C := en_cn 0) (T := en_Ft 0) (N := en_N 0) hx hb hts (fun w hw => List.mem_cons_of_mem _ (ko_bus_l w hw)) hown hK hP 0 rfl rfl 1 (by decide) (hall _ kf_bus_orders) (fun _ h9 => h9) rfl kd_bus_85 ?_
    refine lv_iload_n hx hb kd_bus_88 rfl (lv_at hl 0 rfl) ?_
    refine va_new (ci := 4) (fs := [.null, .int 0, .int 0, .int 0, .int 0, .int 0, .int 0, .int 0]) (C := en_cn 4) (T := en_Ft 4) (N := en_N 4) hx hb hts (fun w hw => List.mem_cons_of_mem _ (ko_ord_l w hw)) (en_ty 4) (en_ty_all 4 (by omega)) hown (hall _ kl_bus_ord) (hall _ ko_ord_t) (hall _ ko_ord_n) hK hP hD hS hA rfl kz_ord (show 36 + 2 * i + 1 ≤ R.cells by omega) (show 346 + 12 * i + 8 ≤ R.slots by omega) kd_bus_89 (fun q H hP hD hS => ?_)
    refine lv_dup hx hb kd_bus_92 rfl ?_
    have hFc := kj_free hD hS hA
    have hPc := kj_l hP
    have hDc := kj_d hD
    have hKc := hK.sub (tys' := []) [] rfl
    refine va_callv (va_runIN (As := []) (rest := [.ref q, .int (nI i), .ref (a 2 0)]) ⟨hx, hb, hml, hown, hts⟩ (k_ord l D cI q H.size) ⟨va_cnB 0 hts (kw_good ko_ord_c) rfl rfl rfl hF.2.2.2.2.2.2.1 (hall _ ko_ord_n) (by decide +kernel) ⟨show 2 ≤ R.frames by omega, show 32 ≤ R.locals by omega⟩, rfl, hall _ ko_ord_m⟩ ⟨fun a U g mk q => by obtain ⟨q0, q1, qP, qK, qD, qF⟩ := q; exact ⟨q0, q1, qP, va_K.moved (u := U) (U := U.calling g mk a) (Vm.Alike.refl U.vm) qK, qD, kp_same (u := U) (U := U.calling g mk a) rfl qF⟩, fun U hU hW => ⟨rfl, by rw [hU], by rw [hU]; exact hPc, va_K.moved hW.alike hKc, hDc.weaken (fun _ _ _ _ => trivial), kp_warm hW hF⟩⟩ rfl rfl hl.1 rfl (lv_room (Nat.le_of_ble_eq_true rfl)) kd_bus_93 ⟨show 36 + 2 * i + 1 + 1 ≤ R.cells by omega, show 346 + 12 * i + 8 + 4 ≤ R.slots by omega⟩) hS (fun q _ h => hFc q h) hFc (fun v t H1 locs ht hvm _ hB hz1 hk1 hS => ?_)
    obtain ⟨hP1, hK1, hD1⟩ := hB
    rw [ht] at hP1
    obtain ⟨hP, hD⟩ := kj_join hP hD hk1 hFc hP1 hD1
    refine va_astq hx hb hK hP hD hS 2 1 (kb_b a cI cP cO (kb_u 6 (a 3)) (kb_u i (a 8)) ++ kb_ps cI a 6 ++ kb_os cI a i).length 4 rfl rfl (by rw [List.getElem?_append_right (Nat.le_refl _), Nat.sub_self]; rfl) rfl (en_in (cb_in hiN (by omega))) kd_bus_96 (fun H locs hP hD hS => ?_)
    rw [nI_clamp (show i < 2 ^ 31 by omega)] at hP hD
    have el : ((kb_b a cI cP cO (kb_u 6 (a 3)) (kb_u i (a 8)) ++ kb_ps cI a 6 ++ kb_os cI a i) ++ ([(q, .inr (4, [.ref v, .int 0, .int 0, .int 0, .int 0, .int 0, .int 0, .int 0])), (v, .inl (cI, 4, .inl (fun _ => 0)))] : va_W)).set 2 (a 2 0, .inl (cO, 16, .inr (.inr (.inr (.inr (va_up (kb_u i (a 8)) i (some q))))))) = (kb_b (kb_a a 8 9 i (fun k => if k = 8 then q else v)) cI cP cO (kb_u 6 ((kb_a a 8 9 i (fun k => if k = 8 then q else v)) 3)) (kb_u (i + 1) ((kb_a a 8 9 i (fun k => if k = 8 then q else v)) 8)) ++ kb_ps cI (kb_a a 8 9 i (fun k => if k = 8 then q else v)) 6 ++ kb_os cI (kb_a a 8 9 i (fun k => if k = 8 then q else v)) (i + 1)) := by
      rw [kb_u_s (q := q) (g' := (kb_a a 8 9 i (fun k => if k = 8 then q else v)) 8) (fun j hj => kb_a_n (by omega)) (by rw [kb_a_s (by omega)]; rfl)]
      have e1 : kb_os cI (kb_a a 8 9 i (fun k => if k = 8 then q else v)) (i + 1) = kb_os cI a i ++ ([(q, .inr (4, [.ref v, .int 0, .int 0, .int 0, .int 0, .int 0, .int 0, .int 0])), (v, .inl (cI, 4, .inl (fun _ => 0)))] : va_W) := by
        unfold kb_os
        rw [kb_fs, kb_fm (g := kb_o cI a) i (fun j hj => by
          unfold kb_o
          simp only [kb_a_n (show ¬ (j = i ∧ 8 ≤ 8 ∧ 8 ≤ 9) by omega), kb_a_n (show ¬ (j = i ∧ 8 ≤ 9 ∧ 9 ≤ 9) by omega)])]
        congr 1
        unfold kb_o
        rw [kb_a_s (k := 8) (by omega), kb_a_s (k := 9) (by omega)]
        rfl
      have e2 : kb_ps cI (kb_a a 8 9 i (fun k => if k = 8 then q else v)) 6 = kb_ps cI a 6 := kb_fm 6 (fun j _ => by
        unfold kb_p
        simp only [kb_a_n (show ¬ (j = i ∧ 8 ≤ 3 ∧ 3 ≤ 9) by omega), kb_a_n (show ¬ (j = i ∧ 8 ≤ 4 ∧ 4 ≤ 9) by omega), kb_a_n (show ¬ (j = i ∧ 8 ≤ 5 ∧ 5 ≤ 9) by omega), kb_a_n (show ¬ (j = i ∧ 8 ≤ 6 ∧ 6 ≤ 9) by omega), kb_a_n (show ¬ (j = i ∧ 8 ≤ 7 ∧ 7 ≤ 9) by omega)])
      have e3 : kb_u 6 ((kb_a a 8 9 i (fun k => if k = 8 then q else v)) 3) = kb_u 6 (a 3) := by
        funext j
        unfold kb_u
        rw [kb_a_n (k := 3) (by omega)]
      rw [e1, e2, e3]
      unfold kb_b
      rw [kb_a_n (k := 0) (i := 0) (by omega), kb_a_n (k := 1) (i := 0) (by omega), kb_a_n (k := 2) (i := 0) (by omega), kb_a_n (k := 10) (i := 0) (by omega), kb_a_n (k := 11) (i := 0) (by omega), kb_a_n (k := 12) (i := 0) (by omega), kb_a_n (k := 13) (i := 0) (by omega), ← List.append_assoc]
      rfl
    rw [el] at hP hD
    refine lv_iinc (v := nI (i + 1)) (lv' := [(1, .int (nI (i + 1))), (0, .ref (a 0 0))]) hx hb kd_bus_97 hl (k := 0) rfl (by rw [show Int32.ofInt 1 = nI 1 from rfl, nI_add]) (by omega) rfl (fun ls hl => ?_)
    refine lv_goto hx hb kd_bus_100 (tgt := 78) (by decide) ?_
    refine W.widen (k := 36 + 2 * (i + 1)) (n := 346 + 12 * (i + 1)) (show 36 + 2 * i + 1 + 1 ≤ 36 + 2 * (i + 1) by omega) (show 346 + 12 * i + 8 + 4 ≤ 346 + 12 * (i + 1) by omega) ?_
    exact ih (i + 1) (kb_a a 8 9 i (fun k => if k = 8 then q else v)) H locs ls (by omega) (kb_a_n (by omega)) hP hD hS hl
set_option maxHeartbeats 4000000 in
set_option maxRecDepth 100000 in
theorem k_bus (l : Launch) (D : va_G) (cI : ClassId) (h0 sz : Nat) : Met l (ky "PluggedBus") (kw (ky "PluggedBus") prog_1_method_1_code 2) ({ frames := 4, cells := 68, slots := 538, locals := 72 }) (va_Pc [.ref h0] (fun U => U.heap.size = sz ∧ va_P D en_cl [(h0, .inr (0, [.null, .null, .null, .null, .int 0, .int 0, .int 0, .int 0]))] U.heap ∧ va_K D en_cl [] U ∧ va_D (fun _ => True) [(h0, .inr (0, [.null, .null, .null, .null, .int 0, .int 0, .int 0, .int 0]))] ∧ kp cI U)) (va_Qv (fun _ : ((Nat → Nat → Nat) × ClassId × ClassId) => True) (fun v t => v.1 0 0 = h0 ∧ va_P D en_cl (kb_b v.1 cI v.2.1 v.2.2 (kb_u 6 (v.1 3)) (kb_u 16 (v.1 8)) ++ kb_ps cI v.1 6 ++ kb_os cI v.1 16) t.heap ∧ va_K D en_cl [(v.2.1, .object "PluggedBus$Port"), (v.2.2, .object "PluggedBus$Order"), (cI, .int)] t ∧ va_D (va_A [(h0, .inr (0, [.null, .null, .null, .null, .int 0, .int 0, .int 0, .int 0]))] sz) (kb_b v.1 cI v.2.1 v.2.2 (kb_u 6 (v.1 3)) (kb_u 16 (v.1 8)) ++ kb_ps cI v.1 6 ++ kb_os cI v.1 16)) (va_A [(h0, .inr (0, [.null, .null, .null, .null, .int 0, .int 0, .int 0, .int 0]))] sz)) 68 538 (va_A [(h0, .inr (0, [.null, .null, .null, .null, .int 0, .int 0, .int 0, .int 0]))] sz) := by
  refine Met.ofW (cc := prog_1_method_1_code) (maxL := 2) (ret := none) (by decide) rfl ?_
  intro p e s m args below meth c s₁ B hml hv
  obtain ⟨rfl, hsz, hP, hK, hD0, hF⟩ := hv
  have hx := B.exec
  have hb := B.bytes
  have hr := B.returns
  have hts := atoms_spec (ws := kw (ky "PluggedBus") prog_1_method_1_code 2) B.pre
  have hall : ∀ w ∈ en_all, w.before ([Value.ref h0]).toArray s = true := fun w hw => hts w (List.mem_cons_of_mem _ hw)
  have hown : s.vm.findClass "PluggedBus" = some m.cls := findClass_of_methodNamed B.named
  have hin : meth.name = "<init>" := (name_of_methodNamed B.named B.method).1
  subst hsz
  have hD := hD0.self (sz := s.heap.size)
  generalize hAe : va_A [(h0, .inr (0, [.null, .null, .null, .null, .int 0, .int 0, .int 0, .int 0]))] s.heap.size = A at hD ⊢
  have hA : ∀ q : Nat, s.heap.size ≤ q → A q := fun q h => by rw [← hAe]; exact Or.inr h
  have hS : va_S A s.heap s.heap [] := va_S.rf
  have hP : va_P D en_cl [(h0, .inr (0, [.null, .null, .null, .null, .int 0, .int 0, .int 0, .int 0]))] s.heap := hP
  have hl := lv_entry ([.ref h0]) (n := 2) (Nat.le_of_ble_eq_true rfl)
  rw [lg_entry_eq]
  generalize (lg_sl ([.ref h0]) ++ List.replicate (2 - (lg_sl ([.ref h0])).length) Slot.unset).toArray = ls at hl ⊢
  have hl : lv_has ls 2 [(0, .ref h0)] := hl
  refine lv_aload_n hx hb kd_bus_0 rfl (lv_at hl 0 rfl) ?_
  refine W.objInit hx hb hown (hall _ ko_bus_o) (hall _ ko_i) (hall _ ko_c) rfl (by rw [hml]; exact hl.1) rfl kd_bus_1 (Nat.le_of_ble_eq_true rfl) (Nat.le_of_ble_eq_true rfl) ?_
  refine W.eq (g2 := F0 m 4 ls []) rfl ?_
  refine lv_aload_n hx hb kd_bus_4 rfl (lv_at hl 0 rfl) ?_
  refine lv_bipush (v := 6) hx hb kd_bus_5 (by decide) ?_
  refine va_newq (own := "PluggedBus") (C := "PluggedBus$Port") (index := 9) (N' := 6) hx hb hown (hall _ kl_bus_port) hF.2.2.2.2.2.2.2.1 hK hP hD hS hA (by decide) rfl (by decide) (show 1 ≤ 68 by decide) (show 6 ≤ 538 by decide) kd_bus_7 (fun q1 cP H hK hP hD hS => ?_)
  have hK : va_K D en_cl [(cP, .object "PluggedBus$Port")] s := hK
  have hP : va_P D en_cl [(h0, .inr (0, [.null, .null, .null, .null, .int 0, .int 0, .int 0, .int 0])), (q1, .inl (cP, 6, .inr (.inr (.inr (.inr (fun _ => none))))))] H := hP
  have hD : va_D A [(h0, .inr (0, [.null, .null, .null, .null, .int 0, .int 0, .int 0, .int 0])), (q1, .inl (cP, 6, .inr (.inr (.inr (.inr (fun _ => none))))))] := hD
  refine W.widen (k := 1) (n := 6) (by decide) (by decide) ?_
  refine va_putF (D := D) (ci := 0) (v := .ref q1) (ty := .array (.object "PluggedBus$Port")) (C := en_cn 0) (T := en_Ft 0) (N := en_N 0) hx hb hts (fun w hw => List.mem_cons_of_mem _ (ko_bus_l w hw)) (en_ty 0) (en_ty_all 0 (by omega)) (en_nm_all 0 (by omega)) hown hK hP hD hS 0 rfl rfl 0 (by decide) (hall _ kf_bus_ports) (fun _ h9 => h9) rfl hin rfl (by decide +kernel) rfl rfl (Nat.le_of_ble_eq_true rfl) kd_bus_10 (fun H locs hP hD hS => ?_)
  have hP : va_P D en_cl [(h0, .inr (0, [.ref q1, .null, .null, .null, .int 0, .int 0, .int 0, .int 0])), (q1, .inl (cP, 6, .inr (.inr (.inr (.inr (fun _ => none))))))] H := hP
  have hD : va_D A [(h0, .inr (0, [.ref q1, .null, .null, .null, .int 0, .int 0, .int 0, .int 0])), (q1, .inl (cP, 6, .inr (.inr (.inr (.inr (fun _ => none))))))] := hD
  refine lv_aload_n hx hb kd_bus_13 rfl (lv_at hl 0 rfl) ?_
  refine lv_bipush (v := 16) hx hb kd_bus_14 (by decide) ?_
  refine va_newq (own := "PluggedBus") (C := "PluggedBus$Order") (index := 15) (N' := 16) hx hb hown (hall _ kl_bus_ord) hF.2.2.2.2.2.2.2.2 hK hP hD hS hA (by decide) rfl (by decide) (show 2 ≤ 68 by decide) (show 22 ≤ 538 by decide) kd_bus_16 (fun q2 cO H hK hP hD hS => ?_)
  have hK : va_K D en_cl [(cP, .object "PluggedBus$Port"), (cO, .object "PluggedBus$Order")] s := hK
  have hP : va_P D en_cl [(h0, .inr (0, [.ref q1, .null, .null, .null, .int 0, .int 0, .int 0, .int 0])), (q1, .inl (cP, 6, .inr (.inr (.inr (.inr (fun _ => none)))))), (q2, .inl (cO, 16, .inr (.inr (.inr (.inr (fun _ => none))))))] H := hP
  have hD : va_D A [(h0, .inr (0, [.ref q1, .null, .null, .null, .int 0, .int 0, .int 0, .int 0])), (q1, .inl (cP, 6, .inr (.inr (.inr (.inr (fun _ => none)))))), (q2, .inl (cO, 16, .inr (.inr (.inr (.inr (fun _ => none))))))] := hD
  refine W.widen (k := 2) (n := 22) (by decide) (by decide) ?_
  refine va_putF (D := D) (ci := 0) (v := .ref q2) (ty := .array (.object "PluggedBus$Order")) (C := en_cn 0) (T := en_Ft 0) (N := en_N 0) hx hb hts (fun w hw => List.mem_cons_of_mem _ (ko_bus_l w hw)) (en_ty 0) (en_ty_all 0 (by omega)) (en_nm_all 0 (by omega)) hown hK hP hD hS 0 rfl rfl 1 (by decide) (hall _ kf_bus_orders) (fun _ h9 => h9) rfl hin rfl (by decide +kernel) rfl rfl (Nat.le_of_ble_eq_true rfl) kd_bus_19 (fun H locs hP hD hS => ?_)
  have hP : va_P D en_cl [(h0, .inr (0, [.ref q1, .ref q2, .null, .null, .int 0, .int 0, .int 0, .int 0])), (q1, .inl (cP, 6, .inr (.inr (.inr (.inr (fun _ => none)))))), (q2, .inl (cO, 16, .inr (.inr (.inr (.inr (fun _ => none))))))] H := hP
  have hD : va_D A [(h0, .inr (0, [.ref q1, .ref q2, .null, .null, .int 0, .int 0, .int 0, .int 0])), (q1, .inl (cP, 6, .inr (.inr (.inr (.inr (fun _ => none)))))), (q2, .inl (cO, 16, .inr (.inr (.inr (.inr (fun _ => none))))))] := hD
  refine lv_aload_n hx hb kd_bus_22 rfl (lv_at hl 0 rfl) ?_
  refine va_new (ci := 5) (fs := [.null, .int 0, .int 0]) (C := en_cn 5) (T := en_Ft 5) (N := en_N 5) hx hb hts (fun w hw => List.mem_cons_of_mem _ (ko_line_l w hw)) (en_ty 5) (en_ty_all 5 (by omega)) hown (hall _ kl_bus_line) (hall _ ko_line_t) (hall _ ko_line_n) hK hP hD hS hA rfl (kz_line) (show 3 ≤ 68 by decide) (show 25 ≤ 538 by decide) kd_bus_23 (fun q10 H hP hD hS => ?_)
  have hP : va_P D en_cl [(h0, .inr (0, [.ref q1, .ref q2, .null, .null, .int 0, .int 0, .int 0, .int 0])), (q1, .inl (cP, 6, .inr (.inr (.inr (.inr (fun _ => none)))))), (q2, .inl (cO, 16, .inr (.inr (.inr (.inr (fun _ => none)))))), (q10, .inr (5, [.null, .int 0, .int 0]))] H := hP
  have hD : va_D A [(h0, .inr (0, [.ref q1, .ref q2, .null, .null, .int 0, .int 0, .int 0, .int 0])), (q1, .inl (cP, 6, .inr (.inr (.inr (.inr (fun _ => none)))))), (q2, .inl (cO, 16, .inr (.inr (.inr (.inr (fun _ => none)))))), (q10, .inr (5, [.null, .int 0, .int 0]))] := hD
  refine W.widen (k := 3) (n := 25) (by decide) (by decide) ?_
  refine lv_dup hx hb kd_bus_26 rfl ?_
  have hPc := hP.sub (ws' := [(q10, .inr (5, [.null, .int 0, .int 0]))]) [3] rfl
  have hDc := hD.sub (ws' := [(q10, .inr (5, [.null, .int 0, .int 0]))]) [3] (by decide) rfl
  have hKc := hK.sub (tys' := []) [] rfl
  have hFc := va_free (wc := [(q10, .inr (5, [.null, .int 0, .int 0]))]) hD hS hA [3] rfl
  refine va_callv (va_runIN (As := []) (rest := [.ref q10, .ref h0]) ⟨hx, hb, hml, hown, hts⟩ (k_line l D cI q10 H.size) ⟨va_cnB 0 hts (kw_good ko_line_c) rfl rfl rfl hF.2.2.2.1 (hall _ ko_line_n) (by decide +kernel) ⟨Nat.le_of_ble_eq_true rfl, Nat.le_of_ble_eq_true rfl⟩, rfl, hall _ ko_line_m⟩ ⟨fun a U g mk q => by obtain ⟨q0, q1, qP, qK, qD, qF⟩ := q; exact ⟨q0, q1, qP, va_K.moved (u := U) (U := U.calling g mk a) (Vm.Alike.refl U.vm) qK, qD, kp_same (u := U) (U := U.calling g mk a) rfl qF⟩, fun U hU hW => ⟨rfl, by rw [hU], by rw [hU]; exact hPc, va_K.moved hW.alike hKc, hDc.weaken (fun _ _ _ _ => trivial), kp_warm hW hF⟩⟩ rfl rfl hl.1 rfl (lv_room (Nat.le_of_ble_eq_true rfl)) kd_bus_27 ⟨show 4 ≤ 68 by decide, show 65 ≤ 538 by decide⟩) hS (fun q _ h => hFc q h) hFc (fun q11 t H1 locs ht hvm _ hB hz1 hk1 hS => ?_)
  obtain ⟨hP1, hK1, hD1⟩ := hB
  rw [ht] at hP1
  have hK1 := va_K.moved hvm.symm hK1
  obtain ⟨hP, hD⟩ := va_join (wr := [(h0, .inr (0, [.ref q1, .ref q2, .null, .null, .int 0, .int 0, .int 0, .int 0])), (q1, .inl (cP, 6, .inr (.inr (.inr (.inr (fun _ => none)))))), (q2, .inl (cO, 16, .inr (.inr (.inr (.inr (fun _ => none))))))]) (w1 := [(q10, .inr (5, [.ref q11, .int 0, .int 0])), (q11, .inl (cI, 40, .inl (fun _ => 0)))]) hP hD [3] [0, 1, 2] rfl rfl (by decide) (by decide) hk1 hFc hP1 hD1
  have hK : va_K D en_cl [(cP, .object "PluggedBus$Port"), (cO, .object "PluggedBus$Order"), (cI, .int)] s := (hK.sub (tys' := [(cP, .object "PluggedBus$Port"), (cO, .object "PluggedBus$Order")]) [0, 1] rfl).app hK1
  generalize H1 = H at hP hS ⊢
  have hP : va_P D en_cl [(h0, .inr (0, [.ref q1, .ref q2, .null, .null, .int 0, .int 0, .int 0, .int 0])), (q1, .inl (cP, 6, .inr (.inr (.inr (.inr (fun _ => none)))))), (q2, .inl (cO, 16, .inr (.inr (.inr (.inr (fun _ => none)))))), (q10, .inr (5, [.ref q11, .int 0, .int 0])), (q11, .inl (cI, 40, .inl (fun _ => 0)))] H := hP
  have hD : va_D A [(h0, .inr (0, [.ref q1, .ref q2, .null, .null, .int 0, .int 0, .int 0, .int 0])), (q1, .inl (cP, 6, .inr (.inr (.inr (.inr (fun _ => none)))))), (q2, .inl (cO, 16, .inr (.inr (.inr (.inr (fun _ => none)))))), (q10, .inr (5, [.ref q11, .int 0, .int 0])), (q11, .inl (cI, 40, .inl (fun _ => 0)))] := hD
  refine W.widen (k := 4) (n := 65) (by decide) (by decide) ?_
  refine va_putF (D := D) (ci := 0) (v := .ref q10) (ty := .object "PluggedBus$Line") (C := en_cn 0) (T := en_Ft 0) (N := en_N 0) hx hb hts (fun w hw => List.mem_cons_of_mem _ (ko_bus_l w hw)) (en_ty 0) (en_ty_all 0 (by omega)) (en_nm_all 0 (by omega)) hown hK hP hD hS 0 rfl rfl 2 (by decide) (hall _ kf_bus_line) (fun _ h9 => h9) rfl hin rfl (by decide +kernel) rfl rfl (Nat.le_of_ble_eq_true rfl) kd_bus_30 (fun H locs hP hD hS => ?_)
  have hP : va_P D en_cl [(h0, .inr (0, [.ref q1, .ref q2, .ref q10, .null, .int 0, .int 0, .int 0, .int 0])), (q1, .inl (cP, 6, .inr (.inr (.inr (.inr (fun _ => none)))))), (q2, .inl (cO, 16, .inr (.inr (.inr (.inr (fun _ => none)))))), (q10, .inr (5, [.ref q11, .int 0, .int 0])), (q11, .inl (cI, 40, .inl (fun _ => 0)))] H := hP
  have hD : va_D A [(h0, .inr (0, [.ref q1, .ref q2, .ref q10, .null, .int 0, .int 0, .int 0, .int 0])), (q1, .inl (cP, 6, .inr (.inr (.inr (.inr (fun _ => none)))))), (q2, .inl (cO, 16, .inr (.inr (.inr (.inr (fun _ => none)))))), (q10, .inr (5, [.ref q11, .int 0, .int 0])), (q11, .inl (cI, 40, .inl (fun _ => 0)))] := hD
  refine lv_aload_n hx hb kd_bus_33 rfl (lv_at hl 0 rfl) ?_
  refine va_new (ci := 6) (fs := [.null, .int 0, .int 0]) (C := en_cn 6) (T := en_Ft 6) (N := en_N 6) hx hb hts (fun w hw => List.mem_cons_of_mem _ (ko_key_l w hw)) (en_ty 6) (en_ty_all 6 (by omega)) hown (hall _ kl_bus_key) (hall _ ko_key_t) (hall _ ko_key_n) hK hP hD hS hA rfl (kz_key) (show 5 ≤ 68 by decide) (show 68 ≤ 538 by decide) kd_bus_34 (fun q12 H hP hD hS => ?_)
  have hP : va_P D en_cl [(h0, .inr (0, [.ref q1, .ref q2, .ref q10, .null, .int 0, .int 0, .int 0, .int 0])), (q1, .inl (cP, 6, .inr (.inr (.inr (.inr (fun _ => none)))))), (q2, .inl (cO, 16, .inr (.inr (.inr (.inr (fun _ => none)))))), (q10, .inr (5, [.ref q11, .int 0, .int 0])), (q11, .inl (cI, 40, .inl (fun _ => 0))), (q12, .inr (6, [.null, .int 0, .int 0]))] H := hP
  have hD : va_D A [(h0, .inr (0, [.ref q1, .ref q2, .ref q10, .null, .int 0, .int 0, .int 0, .int 0])), (q1, .inl (cP, 6, .inr (.inr (.inr (.inr (fun _ => none)))))), (q2, .inl (cO, 16, .inr (.inr (.inr (.inr (fun _ => none)))))), (q10, .inr (5, [.ref q11, .int 0, .int 0])), (q11, .inl (cI, 40, .inl (fun _ => 0))), (q12, .inr (6, [.null, .int 0, .int 0]))] := hD
  refine W.widen (k := 5) (n := 68) (by decide) (by decide) ?_
  refine lv_dup hx hb kd_bus_37 rfl ?_
  have hPc := hP.sub (ws' := [(q12, .inr (6, [.null, .int 0, .int 0]))]) [5] rfl
  have hDc := hD.sub (ws' := [(q12, .inr (6, [.null, .int 0, .int 0]))]) [5] (by decide) rfl
  have hKc := hK.sub (tys' := []) [] rfl
  have hFc := va_free (wc := [(q12, .inr (6, [.null, .int 0, .int 0]))]) hD hS hA [5] rfl
  refine va_callv (va_runIN (As := []) (rest := [.ref q12, .ref h0]) ⟨hx, hb, hml, hown, hts⟩ (k_key l D cI q12 H.size) ⟨va_cnB 0 hts (kw_good ko_key_c) rfl rfl rfl hF.2.2.2.2.1 (hall _ ko_key_n) (by decide +kernel) ⟨Nat.le_of_ble_eq_true rfl, Nat.le_of_ble_eq_true rfl⟩, rfl, hall _ ko_key_m⟩ ⟨fun a U g mk q => by obtain ⟨q0, q1, qP, qK, qD, qF⟩ := q; exact ⟨q0, q1, qP, va_K.moved (u := U) (U := U.calling g mk a) (Vm.Alike.refl U.vm) qK, qD, kp_same (u := U) (U := U.calling g mk a) rfl qF⟩, fun U hU hW => ⟨rfl, by rw [hU], by rw [hU]; exact hPc, va_K.moved hW.alike hKc, hDc.weaken (fun _ _ _ _ => trivial), kp_warm hW hF⟩⟩ rfl rfl hl.1 rfl (lv_room (Nat.le_of_ble_eq_true rfl)) kd_bus_38 ⟨show 6 ≤ 68 by decide, show 76 ≤ 538 by decide⟩) hS (fun q _ h => hFc q h) hFc (fun q13 t H1 locs ht hvm _ hB hz1 hk1 hS => ?_)
  obtain ⟨hP1, hK1, hD1⟩ := hB
  rw [ht] at hP1
  have hK1 := va_K.moved hvm.symm hK1
  obtain ⟨hP, hD⟩ := va_join (wr := [(h0, .inr (0, [.ref q1, .ref q2, .ref q10, .null, .int 0, .int 0, .int 0, .int 0])), (q1, .inl (cP, 6, .inr (.inr (.inr (.inr (fun _ => none)))))), (q2, .inl (cO, 16, .inr (.inr (.inr (.inr (fun _ => none)))))), (q10, .inr (5, [.ref q11, .int 0, .int 0])), (q11, .inl (cI, 40, .inl (fun _ => 0)))]) (w1 := [(q12, .inr (6, [.ref q13, .int 0, .int 0])), (q13, .inl (cI, 8, .inl (fun _ => 0)))]) hP hD [5] [0, 1, 2, 3, 4] rfl rfl (by decide) (by decide) hk1 hFc hP1 hD1
  have hK := hK.sub (tys' := [(cP, .object "PluggedBus$Port"), (cO, .object "PluggedBus$Order"), (cI, .int)]) [0, 1, 2] rfl
  generalize H1 = H at hP hS ⊢
  have hP : va_P D en_cl [(h0, .inr (0, [.ref q1, .ref q2, .ref q10, .null, .int 0, .int 0, .int 0, .int 0])), (q1, .inl (cP, 6, .inr (.inr (.inr (.inr (fun _ => none)))))), (q2, .inl (cO, 16, .inr (.inr (.inr (.inr (fun _ => none)))))), (q10, .inr (5, [.ref q11, .int 0, .int 0])), (q11, .inl (cI, 40, .inl (fun _ => 0))), (q12, .inr (6, [.ref q13, .int 0, .int 0])), (q13, .inl (cI, 8, .inl (fun _ => 0)))] H := hP
  have hD : va_D A [(h0, .inr (0, [.ref q1, .ref q2, .ref q10, .null, .int 0, .int 0, .int 0, .int 0])), (q1, .inl (cP, 6, .inr (.inr (.inr (.inr (fun _ => none)))))), (q2, .inl (cO, 16, .inr (.inr (.inr (.inr (fun _ => none)))))), (q10, .inr (5, [.ref q11, .int 0, .int 0])), (q11, .inl (cI, 40, .inl (fun _ => 0))), (q12, .inr (6, [.ref q13, .int 0, .int 0])), (q13, .inl (cI, 8, .inl (fun _ => 0)))] := hD
  refine W.widen (k := 6) (n := 76) (by decide) (by decide) ?_
  refine va_putF (D := D) (ci := 0) (v := .ref q12) (ty := .object "PluggedBus$KeyLog") (C := en_cn 0) (T := en_Ft 0) (N := en_N 0) hx hb hts (fun w hw => List.mem_cons_of_mem _ (ko_bus_l w hw)) (en_ty 0) (en_ty_all 0 (by omega)) (en_nm_all 0 (by omega)) hown hK hP hD hS 0 rfl rfl 3 (by decide) (hall _ kf_bus_keyLog) (fun _ h9 => h9) rfl hin rfl (by decide +kernel) rfl rfl (Nat.le_of_ble_eq_true rfl) kd_bus_41 (fun H locs hP hD hS => ?_)
  have hP : va_P D en_cl [(h0, .inr (0, [.ref q1, .ref q2, .ref q10, .ref q12, .int 0, .int 0, .int 0, .int 0])), (q1, .inl (cP, 6, .inr (.inr (.inr (.inr (fun _ => none)))))), (q2, .inl (cO, 16, .inr (.inr (.inr (.inr (fun _ => none)))))), (q10, .inr (5, [.ref q11, .int 0, .int 0])), (q11, .inl (cI, 40, .inl (fun _ => 0))), (q12, .inr (6, [.ref q13, .int 0, .int 0])), (q13, .inl (cI, 8, .inl (fun _ => 0)))] H := hP
  have hD : va_D A [(h0, .inr (0, [.ref q1, .ref q2, .ref q10, .ref q12, .int 0, .int 0, .int 0, .int 0])), (q1, .inl (cP, 6, .inr (.inr (.inr (.inr (fun _ => none)))))), (q2, .inl (cO, 16, .inr (.inr (.inr (.inr (fun _ => none)))))), (q10, .inr (5, [.ref q11, .int 0, .int 0])), (q11, .inl (cI, 40, .inl (fun _ => 0))), (q12, .inr (6, [.ref q13, .int 0, .int 0])), (q13, .inl (cI, 8, .inl (fun _ => 0)))] := hD
  refine lv_aload_n hx hb kd_bus_44 rfl (lv_at hl 0 rfl) ?_
  refine lv_iconst (v := 5) hx hb kd_bus_45 (by decide) ?_
  refine va_put (D := D) (ci := 0) (v := .int 5) (ty := .int) (C := en_cn 0) (T := en_Ft 0) (N := en_N 0) hx hb hts (fun w hw => List.mem_cons_of_mem _ (ko_bus_l w hw)) (en_ty 0) (en_ty_all 0 (by omega)) (en_nm_all 0 (by omega)) hown hK hP hD hS 0 rfl rfl 6 (by decide) (hall _ kf_bus_servedLast) (fun _ h9 => h9) rfl (by decide +kernel) rfl rfl (Nat.le_of_ble_eq_true rfl) kd_bus_46 (fun H locs hP hD hS => ?_)
  have hP : va_P D en_cl [(h0, .inr (0, [.ref q1, .ref q2, .ref q10, .ref q12, .int 0, .int 0, .int 5, .int 0])), (q1, .inl (cP, 6, .inr (.inr (.inr (.inr (fun _ => none)))))), (q2, .inl (cO, 16, .inr (.inr (.inr (.inr (fun _ => none)))))), (q10, .inr (5, [.ref q11, .int 0, .int 0])), (q11, .inl (cI, 40, .inl (fun _ => 0))), (q12, .inr (6, [.ref q13, .int 0, .int 0])), (q13, .inl (cI, 8, .inl (fun _ => 0)))] H := hP
  have hD : va_D A [(h0, .inr (0, [.ref q1, .ref q2, .ref q10, .ref q12, .int 0, .int 0, .int 5, .int 0])), (q1, .inl (cP, 6, .inr (.inr (.inr (.inr (fun _ => none)))))), (q2, .inl (cO, 16, .inr (.inr (.inr (.inr (fun _ => none)))))), (q10, .inr (5, [.ref q11, .int 0, .int 0])), (q11, .inl (cI, 40, .inl (fun _ => 0))), (q12, .inr (6, [.ref q13, .int 0, .int 0])), (q13, .inl (cI, 8, .inl (fun _ => 0)))] := hD
  refine lv_iconst (v := nI 0) hx hb kd_bus_49 (by decide) ?_
  refine lv_istore_n (lv' := [(1, .int (nI 0)), (0, .ref h0)]) hx hb kd_bus_50 rfl hl (by decide) rfl (fun ls hl => ?_)
  have eP : ∀ (t : Nat → Nat), kb_u 0 t = fun _ => none := fun t => by funext j; exact if_neg (by omega)
  refine kb_loop1 (D := D) (A := A) (H0 := s.heap) (cI := cI) (cP := cP) (cO := cO) (h0 := h0) hx hb hml hts hown ⟨Nat.le_of_ble_eq_true rfl, Nat.le_of_ble_eq_true rfl, Nat.le_of_ble_eq_true rfl, Nat.le_of_ble_eq_true rfl⟩ hF hK hA (fun a H locs ls ha hP hD hS hl => ?_) 6 0 (fun k _ => if k = 0 then h0 else if k = 1 then q1 else if k = 2 then q2 else if k = 10 then q10 else if k = 11 then q11 else if k = 12 then q12 else q13) H locs ls rfl rfl (by rw [eP]; exact hP) (by rw [eP]; exact hD) hS hl
  refine lv_iconst (v := nI 0) hx hb kd_bus_76 (by decide) ?_
  refine lv_istore_n (lv' := [(1, .int (nI 0)), (0, .ref h0)]) hx hb kd_bus_77 rfl hl (by decide) rfl (fun ls hl => ?_)
  refine kb_loop2 (D := D) (A := A) (H0 := s.heap) (cI := cI) (cP := cP) (cO := cO) (h0 := h0) hx hb hml hts hown ⟨Nat.le_of_ble_eq_true rfl, Nat.le_of_ble_eq_true rfl, Nat.le_of_ble_eq_true rfl, Nat.le_of_ble_eq_true rfl⟩ hF hK hA (fun a H locs ls ha hP hD hS hl => ?_) 16 0 a H locs ls rfl ha (by rw [eP]; simpa [kb_os] using hP) (by rw [eP]; simpa [kb_os] using hD) hS hl
  exact W.vret hx hb hr (fun t ht hW => ⟨⟨(a, cP, cO), rfl, trivial, ha, by rw [ht]; exact hP, va_K.moved hW.alike hK, hD⟩, hS.F ht⟩) hS.2.2 kd_bus_103
end Kc2
