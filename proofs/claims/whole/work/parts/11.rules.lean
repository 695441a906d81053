/-! THE RULES: a run at an instruction is a run at the next one -/
theorem en_R_g {cs : en_S} {y d : Nat} {post : en_Q} {pc pc' : Nat} {lo lo' : en_L} {st st' : List en_V} {f f' : en_T} {c : Prop} {hc : Decidable c} (h : en_stp cs y pc lo st f = @ite _ c hc (some (.inl (pc', lo', st', f'))) none) : en_R cs y d post pc lo st f = (c ∧ en_R cs y d post pc' lo' st' f') := by
  rw [en_R_sx, en_Sx, h]
  by_cases hx : c
  · rw [if_pos hx]; simp [hx]
  · rw [if_neg hx]; simp [hx]
theorem en_stp_c {cs : en_S} {y pc : Nat} {q : en_I} {lo : en_L} {st : List en_V} {f : en_T} (h : en_cd y pc = some q) : en_stp cs y pc lo st f = en_ex cs y q.1 q.2.1 q.2.2.1 q.2.2.2 pc lo st f := by unfold en_stp; rw [h]
section EnRules
variable {cs : en_S} {y d pc ka kb : Nat} {post : en_Q} {lo : en_L} {st : List en_V} {f : en_T} {a b x v : Int32} {i k : Nat} {u w z : en_V}
theorem ru_iconst {n : Int} (h : en_cd y pc = some (.iconst n, 1, ka, kb)) (hv : Int32.ofInt n = v) : en_R cs y d post pc lo st f = en_R cs y d post (pc + 1) lo (.inl v :: st) f := by
  subst hv; exact en_R_n (by rw [en_stp_c h]; rfl)
theorem ru_bipush {n : Int} (h : en_cd y pc = some (.bipush n, 2, ka, kb)) (hv : (Int8.ofInt n).toInt32 = v) : en_R cs y d post pc lo st f = en_R cs y d post (pc + 2) lo (.inl v :: st) f := by
  subst hv; exact en_R_n (by rw [en_stp_c h]; rfl)
theorem ru_sipush {n : Int} (h : en_cd y pc = some (.sipush n, 3, ka, kb)) (hv : (Int16.ofInt n).toInt32 = v) : en_R cs y d post pc lo st f = en_R cs y d post (pc + 3) lo (.inl v :: st) f := by
  subst hv; exact en_R_n (by rw [en_stp_c h]; rfl)
theorem ru_load1 {n : Fin 4} (h : en_cd y pc = some (.iload_n n, 1, ka, kb)) (hl : lo[(n : Nat)]? = some (some (.inl x))) : en_R cs y d post pc lo st f = en_R cs y d post (pc + 1) lo (.inl x :: st) f :=
  en_R_n (by rw [en_stp_c h]; show en_g 1 1 (en_ild (pc + 1) lo st f n) = _; unfold en_ild; rw [hl]; rfl)
theorem ru_load2 {n : Nat} (h : en_cd y pc = some (.iload n, 2, ka, kb)) (hl : lo[n]? = some (some (.inl x))) : en_R cs y d post pc lo st f = en_R cs y d post (pc + 2) lo (.inl x :: st) f :=
  en_R_n (by rw [en_stp_c h]; show en_g 2 2 (en_ild (pc + 2) lo st f n) = _; unfold en_ild; rw [hl]; rfl)
theorem ru_aload1 {q : Nat × Nat} {n : Fin 4} (h : en_cd y pc = some (.aload_n n, 1, ka, kb)) (hl : lo[(n : Nat)]? = some (some (.inr q))) : en_R cs y d post pc lo st f = en_R cs y d post (pc + 1) lo (.inr q :: st) f :=
  en_R_n (by rw [en_stp_c h]; show en_g 1 1 (en_ald (pc + 1) lo st f n) = _; unfold en_ald; rw [hl]; rfl)
theorem ru_aload2 {q : Nat × Nat} {n : Nat} (h : en_cd y pc = some (.aload n, 2, ka, kb)) (hl : lo[n]? = some (some (.inr q))) : en_R cs y d post pc lo st f = en_R cs y d post (pc + 2) lo (.inr q :: st) f :=
  en_R_n (by rw [en_stp_c h]; show en_g 2 2 (en_ald (pc + 2) lo st f n) = _; unfold en_ald; rw [hl]; rfl)
theorem ru_istore1 {n : Fin 4} (h : en_cd y pc = some (.istore_n n, 1, ka, kb)) (hl : (n : Nat) < lo.length) : en_R cs y d post pc lo (.inl x :: st) f = en_R cs y d post (pc + 1) (lo.set n (some (.inl x))) st f :=
  en_R_n (by rw [en_stp_c h]; show en_g 1 1 (if (n : Nat) < lo.length then _ else none) = _; rw [if_pos hl]; rfl)
theorem ru_istore2 {n : Nat} (h : en_cd y pc = some (.istore n, 2, ka, kb)) (hl : n < lo.length) : en_R cs y d post pc lo (.inl x :: st) f = en_R cs y d post (pc + 2) (lo.set n (some (.inl x))) st f :=
  en_R_n (by rw [en_stp_c h]; show en_g 2 2 (if n < lo.length then _ else none) = _; rw [if_pos hl]; rfl)
theorem ru_astore1 {q : Nat × Nat} {n : Fin 4} (h : en_cd y pc = some (.astore_n n, 1, ka, kb)) (hl : (n : Nat) < lo.length) : en_R cs y d post pc lo (.inr q :: st) f = en_R cs y d post (pc + 1) (lo.set n (some (.inr q))) st f :=
  en_R_n (by rw [en_stp_c h]; show en_g 1 1 (if (n : Nat) < lo.length then _ else none) = _; rw [if_pos hl]; rfl)
theorem ru_astore2 {q : Nat × Nat} {n : Nat} (h : en_cd y pc = some (.astore n, 2, ka, kb)) (hl : n < lo.length) : en_R cs y d post pc lo (.inr q :: st) f = en_R cs y d post (pc + 2) (lo.set n (some (.inr q))) st f :=
  en_R_n (by rw [en_stp_c h]; show en_g 2 2 (if n < lo.length then _ else none) = _; rw [if_pos hl]; rfl)
theorem ru_iinc {n : Nat} {m : Int} (h : en_cd y pc = some (.iinc n m, 3, ka, kb)) (hv : Int32.ofInt m = v) (hl : lo[n]? = some (some (.inl x))) : en_R cs y d post pc lo st f = en_R cs y d post (pc + 3) (lo.set n (some (.inl (x + v)))) st f := by
  subst hv
  exact en_R_n (by rw [en_stp_c h]; show en_g 3 3 (en_inc (pc + 3) lo st f n m) = _; unfold en_inc; rw [hl]; rfl)
theorem ru_iadd (h : en_cd y pc = some (.iadd, 1, ka, kb)) : en_R cs y d post pc lo (.inl b :: .inl a :: st) f = en_R cs y d post (pc + 1) lo (.inl (a + b) :: st) f := en_R_n (by rw [en_stp_c h]; rfl)
theorem ru_isub (h : en_cd y pc = some (.isub, 1, ka, kb)) : en_R cs y d post pc lo (.inl b :: .inl a :: st) f = en_R cs y d post (pc + 1) lo (.inl (a - b) :: st) f := en_R_n (by rw [en_stp_c h]; rfl)
theorem ru_imul (h : en_cd y pc = some (.imul, 1, ka, kb)) : en_R cs y d post pc lo (.inl b :: .inl a :: st) f = en_R cs y d post (pc + 1) lo (.inl (a * b) :: st) f := en_R_n (by rw [en_stp_c h]; rfl)
theorem ru_iand (h : en_cd y pc = some (.iand, 1, ka, kb)) : en_R cs y d post pc lo (.inl b :: .inl a :: st) f = en_R cs y d post (pc + 1) lo (.inl (a &&& b) :: st) f := en_R_n (by rw [en_stp_c h]; rfl)
theorem ru_ior (h : en_cd y pc = some (.ior, 1, ka, kb)) : en_R cs y d post pc lo (.inl b :: .inl a :: st) f = en_R cs y d post (pc + 1) lo (.inl (a ||| b) :: st) f := en_R_n (by rw [en_stp_c h]; rfl)
theorem ru_ixor (h : en_cd y pc = some (.ixor, 1, ka, kb)) : en_R cs y d post pc lo (.inl b :: .inl a :: st) f = en_R cs y d post (pc + 1) lo (.inl (a ^^^ b) :: st) f := en_R_n (by rw [en_stp_c h]; rfl)
theorem ru_ishl (h : en_cd y pc = some (.ishl, 1, ka, kb)) : en_R cs y d post pc lo (.inl b :: .inl a :: st) f = en_R cs y d post (pc + 1) lo (.inl (a <<< (b &&& 31)) :: st) f := en_R_n (by rw [en_stp_c h]; rfl)
theorem ru_ishr (h : en_cd y pc = some (.ishr, 1, ka, kb)) : en_R cs y d post pc lo (.inl b :: .inl a :: st) f = en_R cs y d post (pc + 1) lo (.inl (a >>> (b &&& 31)) :: st) f := en_R_n (by rw [en_stp_c h]; rfl)
theorem ru_idiv (h : en_cd y pc = some (.idiv, 1, ka, kb)) : en_R cs y d post pc lo (.inl b :: .inl a :: st) f = (¬ b = 0 ∧ en_R cs y d post (pc + 1) lo (.inl (a / b) :: st) f) := by
  by_cases hb : b = 0
  · rw [en_R_sx, en_Sx, en_stp_c h]
    show (match en_g 1 1 (if b = 0 then none else _) with | none => False | some (.inl q) => _ | some (.inr (.inl r)) => _ | some (.inr (.inr q)) => _) = _
    rw [if_pos hb]
    simp [en_g, hb]
  · have := en_R_n (cs := cs) (d := d) (post := post) (show en_stp cs y pc lo (.inl b :: .inl a :: st) f = some (.inl (pc + 1, lo, .inl (a / b) :: st, f)) by rw [en_stp_c h]; show en_g 1 1 (if b = 0 then none else _) = _; rw [if_neg hb]; rfl)
    rw [this]; simp [hb]
theorem ru_irem (h : en_cd y pc = some (.irem, 1, ka, kb)) : en_R cs y d post pc lo (.inl b :: .inl a :: st) f = (¬ b = 0 ∧ en_R cs y d post (pc + 1) lo (.inl (a - a / b * b) :: st) f) := by
  by_cases hb : b = 0
  · rw [en_R_sx, en_Sx, en_stp_c h]
    show (match en_g 1 1 (if b = 0 then none else _) with | none => False | some (.inl q) => _ | some (.inr (.inl r)) => _ | some (.inr (.inr q)) => _) = _
    rw [if_pos hb]
    simp [en_g, hb]
  · have := en_R_n (cs := cs) (d := d) (post := post) (show en_stp cs y pc lo (.inl b :: .inl a :: st) f = some (.inl (pc + 1, lo, .inl (a - a / b * b) :: st, f)) by rw [en_stp_c h]; show en_g 1 1 (if b = 0 then none else _) = _; rw [if_neg hb]; rfl)
    rw [this]; simp [hb]
theorem ru_dup (h : en_cd y pc = some (.dup, 1, ka, kb)) : en_R cs y d post pc lo (u :: st) f = en_R cs y d post (pc + 1) lo (u :: u :: st) f := en_R_n (by rw [en_stp_c h]; rfl)
theorem ru_dup_x1 (h : en_cd y pc = some (.dup_x1, 1, ka, kb)) : en_R cs y d post pc lo (u :: w :: st) f = en_R cs y d post (pc + 1) lo (u :: w :: u :: st) f := en_R_n (by rw [en_stp_c h]; rfl)
theorem ru_dup2 (h : en_cd y pc = some (.dup2, 1, ka, kb)) : en_R cs y d post pc lo (u :: w :: st) f = en_R cs y d post (pc + 1) lo (u :: w :: u :: w :: st) f := en_R_n (by rw [en_stp_c h]; rfl)
theorem ru_pop (h : en_cd y pc = some (.pop, 1, ka, kb)) : en_R cs y d post pc lo (u :: st) f = en_R cs y d post (pc + 1) lo st f := en_R_n (by rw [en_stp_c h]; rfl)
theorem ru_goto {o : Int} {t : Nat} (h : en_cd y pc = some (.goto o, 3, ka, kb)) (ht : (pc : Int) + o = (t : Int)) : en_R cs y d post pc lo st f = en_R cs y d post t lo st f :=
  en_R_n (by rw [en_stp_c h]; show en_g 3 3 (en_jp pc o lo st f) = _; unfold en_jp; rw [ht]; rfl)
theorem ru_if {o : Int} {t : Nat} {cn : ClassFile.Cond} {q : Int32 → Option en_Rs → Option en_Rs → Option en_Rs} {c : Prop} {hc : Decidable c} (h : en_cd y pc = some (.ifCond cn o, 3, ka, kb)) (ht : (pc : Int) + o = (t : Int))
    (he : en_ex cs y (.ifCond cn o) 3 ka kb pc lo (.inl a :: st) f = en_g 3 3 (en_if pc o lo (.inl a :: st) f q)) (hq : ∀ X Z, q a X Z = @ite _ c hc X Z) : en_R cs y d post pc lo (.inl a :: st) f = @ite _ c hc (en_R cs y d post t lo st f) (en_R cs y d post (pc + 3) lo st f) :=
  en_R_b (c := c) (hc := hc) (by
    rw [en_stp_c h]
    show en_ex cs y (.ifCond cn o) 3 ka kb pc lo (.inl a :: st) f = _
    rw [he]
    show (if 0 ≤ (pc : Int) + o then q a (en_nx ((pc : Int) + o).toNat lo st f) (en_nx (pc + 3) lo st f) else none) = _
    rw [ht, if_pos (Int.natCast_nonneg t), hq]
    rfl)
theorem ru_ic {o : Int} {t : Nat} {cn : ClassFile.Cond} {q : Int32 → Int32 → Option en_Rs → Option en_Rs → Option en_Rs} {c : Prop} {hc : Decidable c} (h : en_cd y pc = some (.if_icmp cn o, 3, ka, kb)) (ht : (pc : Int) + o = (t : Int))
    (he : en_ex cs y (.if_icmp cn o) 3 ka kb pc lo (.inl b :: .inl a :: st) f = en_g 3 3 (en_ic pc o lo (.inl b :: .inl a :: st) f q)) (hq : ∀ X Z, q a b X Z = @ite _ c hc X Z) : en_R cs y d post pc lo (.inl b :: .inl a :: st) f = @ite _ c hc (en_R cs y d post t lo st f) (en_R cs y d post (pc + 3) lo st f) :=
  en_R_b (c := c) (hc := hc) (by
    rw [en_stp_c h]
    show en_ex cs y (.if_icmp cn o) 3 ka kb pc lo (.inl b :: .inl a :: st) f = _
    rw [he]
    show (if 0 ≤ (pc : Int) + o then q a b (en_nx ((pc : Int) + o).toNat lo st f) (en_nx (pc + 3) lo st f) else none) = _
    rw [ht, if_pos (Int.natCast_nonneg t), hq]
    rfl)
theorem ru_ifeq {o : Int} {t : Nat} (h : en_cd y pc = some (.ifCond .eq o, 3, ka, kb)) (ht : (pc : Int) + o = (t : Int)) : en_R cs y d post pc lo (.inl a :: st) f = (if a = 0 then en_R cs y d post t lo st f else en_R cs y d post (pc + 3) lo st f) := ru_if h ht rfl (fun _ _ => rfl)
theorem ru_ifne {o : Int} {t : Nat} (h : en_cd y pc = some (.ifCond .ne o, 3, ka, kb)) (ht : (pc : Int) + o = (t : Int)) : en_R cs y d post pc lo (.inl a :: st) f = (if a = 0 then en_R cs y d post (pc + 3) lo st f else en_R cs y d post t lo st f) := by
  rw [ru_if (c := ¬ a = 0) (hc := inferInstance) h ht rfl (fun X Z => by by_cases q : a = 0 <;> simp [q])]
  by_cases q : a = 0 <;> simp [q]
theorem ru_iflt {o : Int} {t : Nat} (h : en_cd y pc = some (.ifCond .lt o, 3, ka, kb)) (ht : (pc : Int) + o = (t : Int)) : en_R cs y d post pc lo (.inl a :: st) f = (if a < 0 then en_R cs y d post t lo st f else en_R cs y d post (pc + 3) lo st f) := ru_if h ht rfl (fun _ _ => rfl)
theorem ru_ifge {o : Int} {t : Nat} (h : en_cd y pc = some (.ifCond .ge o, 3, ka, kb)) (ht : (pc : Int) + o = (t : Int)) : en_R cs y d post pc lo (.inl a :: st) f = (if 0 ≤ a then en_R cs y d post t lo st f else en_R cs y d post (pc + 3) lo st f) := ru_if h ht rfl (fun _ _ => rfl)
theorem ru_ifgt {o : Int} {t : Nat} (h : en_cd y pc = some (.ifCond .gt o, 3, ka, kb)) (ht : (pc : Int) + o = (t : Int)) : en_R cs y d post pc lo (.inl a :: st) f = (if 0 < a then en_R cs y d post t lo st f else en_R cs y d post (pc + 3) lo st f) := ru_if h ht rfl (fun _ _ => rfl)
theorem ru_ifle {o : Int} {t : Nat} (h : en_cd y pc = some (.ifCond .le o, 3, ka, kb)) (ht : (pc : Int) + o = (t : Int)) : en_R cs y d post pc lo (.inl a :: st) f = (if a ≤ 0 then en_R cs y d post t lo st f else en_R cs y d post (pc + 3) lo st f) := ru_if h ht rfl (fun _ _ => rfl)
theorem ru_iceq {o : Int} {t : Nat} (h : en_cd y pc = some (.if_icmp .eq o, 3, ka, kb)) (ht : (pc : Int) + o = (t : Int)) : en_R cs y d post pc lo (.inl b :: .inl a :: st) f = (if a = b then en_R cs y d post t lo st f else en_R cs y d post (pc + 3) lo st f) := ru_ic h ht rfl (fun _ _ => rfl)
theorem ru_icne {o : Int} {t : Nat} (h : en_cd y pc = some (.if_icmp .ne o, 3, ka, kb)) (ht : (pc : Int) + o = (t : Int)) : en_R cs y d post pc lo (.inl b :: .inl a :: st) f = (if a = b then en_R cs y d post (pc + 3) lo st f else en_R cs y d post t lo st f) := by
  rw [ru_ic (c := ¬ a = b) (hc := inferInstance) h ht rfl (fun X Z => by by_cases q : a = b <;> simp [q])]
  by_cases q : a = b <;> simp [q]
theorem ru_iclt {o : Int} {t : Nat} (h : en_cd y pc = some (.if_icmp .lt o, 3, ka, kb)) (ht : (pc : Int) + o = (t : Int)) : en_R cs y d post pc lo (.inl b :: .inl a :: st) f = (if a < b then en_R cs y d post t lo st f else en_R cs y d post (pc + 3) lo st f) := ru_ic h ht rfl (fun _ _ => rfl)
theorem ru_icge {o : Int} {t : Nat} (h : en_cd y pc = some (.if_icmp .ge o, 3, ka, kb)) (ht : (pc : Int) + o = (t : Int)) : en_R cs y d post pc lo (.inl b :: .inl a :: st) f = (if b ≤ a then en_R cs y d post t lo st f else en_R cs y d post (pc + 3) lo st f) := ru_ic h ht rfl (fun _ _ => rfl)
theorem ru_icgt {o : Int} {t : Nat} (h : en_cd y pc = some (.if_icmp .gt o, 3, ka, kb)) (ht : (pc : Int) + o = (t : Int)) : en_R cs y d post pc lo (.inl b :: .inl a :: st) f = (if b < a then en_R cs y d post t lo st f else en_R cs y d post (pc + 3) lo st f) := ru_ic h ht rfl (fun _ _ => rfl)
theorem ru_icle {o : Int} {t : Nat} (h : en_cd y pc = some (.if_icmp .le o, 3, ka, kb)) (ht : (pc : Int) + o = (t : Int)) : en_R cs y d post pc lo (.inl b :: .inl a :: st) f = (if a ≤ b then en_R cs y d post t lo st f else en_R cs y d post (pc + 3) lo st f) := ru_ic h ht rfl (fun _ _ => rfl)
/-- a field of numbers; a field that is a cell -/
theorem ru_getR {idx k2 n : Nat} (h : en_cd y pc = some (.getfield idx, 3, ka, kb)) (hr : en_fr ka kb = some k2) (hn : en_cnt ka = n) : en_R cs y d post pc lo (.inr (ka, i) :: st) f = (i < n ∧ en_R cs y d post (pc + 3) lo (.inr (k2, i) :: st) f) := by
  subst hn
  exact en_R_g (by
    rw [en_stp_c h]
    show ((if ka = ka then if i < en_cnt ka then some (.inl (pc + 3, lo, en_rd f ka i kb :: st, f)) else none else none) : Option en_Rs) = _
    rw [if_pos rfl]; unfold en_rd; rw [hr])
theorem ru_getI {idx n : Nat} (h : en_cd y pc = some (.getfield idx, 3, ka, kb)) (hr : en_fr ka kb = none) (hn : en_cnt ka = n) (hk : ka < 16) : en_R cs y d post pc lo (.inr (ka, i) :: st) f = (i < n ∧ en_R cs y d post (pc + 3) lo (.inl (f.1 ka i kb) :: st) f) := by
  subst hn
  exact en_R_g (by
    rw [en_stp_c h]
    show ((if ka = ka then if i < en_cnt ka then some (.inl (pc + 3, lo, en_rd f ka i kb :: st, f)) else none else none) : Option en_Rs) = _
    rw [if_pos rfl]; unfold en_rd; rw [hr]; unfold en_gt; rw [if_pos hk])
theorem ru_getM {idx n : Nat} (h : en_cd y pc = some (.getfield idx, 3, ka, kb)) (hr : en_fr ka kb = none) (hn : en_cnt ka = n) (hk : ¬ ka < 16) : en_R cs y d post pc lo (.inr (ka, i) :: st) f = (i < n ∧ en_R cs y d post (pc + 3) lo (.inl (f.2 ka i kb) :: st) f) := by
  subst hn
  exact en_R_g (by
    rw [en_stp_c h]
    show ((if ka = ka then if i < en_cnt ka then some (.inl (pc + 3, lo, en_rd f ka i kb :: st, f)) else none else none) : Option en_Rs) = _
    rw [if_pos rfl]; unfold en_rd; rw [hr]; unfold en_gt; rw [if_neg hk])
theorem ru_putI {idx n : Nat} (h : en_cd y pc = some (.putfield idx, 3, ka, kb)) (hr : en_pw ka kb = 1) (hn : en_cnt ka = n) (hk : ka < 16) : en_R cs y d post pc lo (.inl x :: .inr (ka, i) :: st) f = (i < n ∧ en_R cs y d post (pc + 3) lo st (en_up f.1 ka i kb x, f.2)) := by
  subst hn
  exact en_R_g (by
    rw [en_stp_c h]
    show ((if ka = ka then if i < en_cnt ka then if en_pw ka kb = 1 then some (.inl (pc + 3, lo, st, en_st f ka i kb x)) else _ else none else none) : Option en_Rs) = _
    rw [if_pos rfl, if_pos hr]; unfold en_st; rw [if_pos hk])
theorem ru_putM {idx n : Nat} (h : en_cd y pc = some (.putfield idx, 3, ka, kb)) (hr : en_pw ka kb = 1) (hn : en_cnt ka = n) (hk : ¬ ka < 16) : en_R cs y d post pc lo (.inl x :: .inr (ka, i) :: st) f = (i < n ∧ en_R cs y d post (pc + 3) lo st (f.1, en_up f.2 ka i kb x)) := by
  subst hn
  exact en_R_g (by
    rw [en_stp_c h]
    show ((if ka = ka then if i < en_cnt ka then if en_pw ka kb = 1 then some (.inl (pc + 3, lo, st, en_st f ka i kb x)) else _ else none else none) : Option en_Rs) = _
    rw [if_pos rfl, if_pos hr]; unfold en_st; rw [if_neg hk])
theorem en_R_g2 {pc' : Nat} {lo' : en_L} {st' : List en_V} {f' : en_T} {c e : Prop} {hc : Decidable c} {he : Decidable e} (h : en_stp cs y pc lo st f = @ite _ c hc (@ite _ e he (some (.inl (pc', lo', st', f'))) none) none) : en_R cs y d post pc lo st f = (c ∧ e ∧ en_R cs y d post pc' lo' st' f') := by
  rw [en_R_sx, en_Sx, h]
  by_cases hx : c
  · rw [if_pos hx]
    by_cases hz : e
    · rw [if_pos hz]; simp [hx, hz]
    · rw [if_neg hz]; simp [hz]
  · rw [if_neg hx]; simp [hx]
theorem en_R_g3 {pc' : Nat} {lo' : en_L} {st' : List en_V} {f' : en_T} {c e g : Prop} {hc : Decidable c} {he : Decidable e} {hg : Decidable g} (h : en_stp cs y pc lo st f = @ite _ c hc (@ite _ e he (@ite _ g hg (some (.inl (pc', lo', st', f'))) none) none) none) : en_R cs y d post pc lo st f = (c ∧ e ∧ g ∧ en_R cs y d post pc' lo' st' f') := by
  by_cases hx : c
  · rw [if_pos hx] at h
    rw [en_R_g2 h]; simp [hx]
  · rw [if_neg hx] at h
    rw [en_R_sx, en_Sx, h]; simp [hx]
theorem ru_putZ {idx n : Nat} (h : en_cd y pc = some (.putfield idx, 3, ka, kb)) (hr : en_pw ka kb = 2) (hn : en_cnt ka = n) (hk : ka < 16) : en_R cs y d post pc lo (.inl x :: .inr (ka, i) :: st) f = (i < n ∧ en_isz x = true ∧ en_R cs y d post (pc + 3) lo st (en_up f.1 ka i kb x, f.2)) := by
  subst hn
  exact en_R_g2 (by
    rw [en_stp_c h]
    show ((if ka = ka then if i < en_cnt ka then if en_pw ka kb = 1 then some (.inl (pc + 3, lo, st, en_st f ka i kb x)) else if en_pw ka kb = 2 then if en_isz x = true then some (.inl (pc + 3, lo, st, en_st f ka i kb x)) else none else none else none else none) : Option en_Rs) = _
    rw [if_pos rfl, if_neg (show ¬ en_pw ka kb = 1 by rw [hr]; decide), if_pos hr]; unfold en_st; rw [if_pos hk])
/-- arrays -/
theorem ru_iald {n m : Nat} (h : en_cd y pc = some (.iaload, 1, ka, kb)) (h63 : ¬ k = 63) (hkt : en_kt k = 1) (hn : en_cnt k = n) (hm : en_ln k = m) (hk : k < 16) : en_R cs y d post pc lo (.inl x :: .inr (k, i) :: st) f = (i < n ∧ en_inr x m = true ∧ en_R cs y d post (pc + 1) lo (.inl (f.1 k i x.toNatClampNeg) :: st) f) := by
  subst hn; subst hm
  exact en_R_g2 (by
    rw [en_stp_c h]
    show en_g 1 1 (if k = 63 then _ else if en_kt k = 1 then if i < en_cnt k then if en_inr x (en_ln k) = true then some (.inl (pc + 1, lo, .inl (en_gt f k i x.toNatClampNeg) :: st, f)) else none else none else none) = _
    rw [if_neg h63, if_pos hkt]; unfold en_gt; rw [if_pos hk]; rfl)
theorem ru_ialdM {n m : Nat} (h : en_cd y pc = some (.iaload, 1, ka, kb)) (h63 : ¬ k = 63) (hkt : en_kt k = 1) (hn : en_cnt k = n) (hm : en_ln k = m) (hk : ¬ k < 16) : en_R cs y d post pc lo (.inl x :: .inr (k, i) :: st) f = (i < n ∧ en_inr x m = true ∧ en_R cs y d post (pc + 1) lo (.inl (f.2 k i x.toNatClampNeg) :: st) f) := by
  subst hn; subst hm
  exact en_R_g2 (by
    rw [en_stp_c h]
    show en_g 1 1 (if k = 63 then _ else if en_kt k = 1 then if i < en_cnt k then if en_inr x (en_ln k) = true then some (.inl (pc + 1, lo, .inl (en_gt f k i x.toNatClampNeg) :: st, f)) else none else none else none) = _
    rw [if_neg h63, if_pos hkt]; unfold en_gt; rw [if_neg hk]; rfl)
theorem ru_zaldM {n m : Nat} (h : en_cd y pc = some (.baload, 1, ka, kb)) (hkt : en_kt k = 2) (hn : en_cnt k = n) (hm : en_ln k = m) (hk : ¬ k < 16) : en_R cs y d post pc lo (.inl x :: .inr (k, i) :: st) f = (i < n ∧ en_inr x m = true ∧ en_R cs y d post (pc + 1) lo (.inl (f.2 k i x.toNatClampNeg) :: st) f) := by
  subst hn; subst hm
  exact en_R_g2 (by
    rw [en_stp_c h]
    show en_g 1 1 (if en_kt k = 2 then if i < en_cnt k then if en_inr x (en_ln k) = true then some (.inl (pc + 1, lo, .inl (en_gt f k i x.toNatClampNeg) :: st, f)) else none else none else none) = _
    rw [if_pos hkt]; unfold en_gt; rw [if_neg hk]; rfl)
theorem ru_iast {n m : Nat} (h : en_cd y pc = some (.iastore, 1, ka, kb)) (hkt : en_kt k = 1) (hn : en_cnt k = n) (hm : en_ln k = m) (hk : k < 16) : en_R cs y d post pc lo (.inl v :: .inl x :: .inr (k, i) :: st) f = (i < n ∧ en_inr x m = true ∧ en_R cs y d post (pc + 1) lo st (en_up f.1 k i x.toNatClampNeg v, f.2)) := by
  subst hn; subst hm
  exact en_R_g2 (by
    rw [en_stp_c h]
    show en_g 1 1 (if en_kt k = 1 then if i < en_cnt k then if en_inr x (en_ln k) = true then some (.inl (pc + 1, lo, st, en_st f k i x.toNatClampNeg v)) else none else none else none) = _
    rw [if_pos hkt]; unfold en_st; rw [if_pos hk]; rfl)
theorem ru_iastM {n m : Nat} (h : en_cd y pc = some (.iastore, 1, ka, kb)) (hkt : en_kt k = 1) (hn : en_cnt k = n) (hm : en_ln k = m) (hk : ¬ k < 16) : en_R cs y d post pc lo (.inl v :: .inl x :: .inr (k, i) :: st) f = (i < n ∧ en_inr x m = true ∧ en_R cs y d post (pc + 1) lo st (f.1, en_up f.2 k i x.toNatClampNeg v)) := by
  subst hn; subst hm
  exact en_R_g2 (by
    rw [en_stp_c h]
    show en_g 1 1 (if en_kt k = 1 then if i < en_cnt k then if en_inr x (en_ln k) = true then some (.inl (pc + 1, lo, st, en_st f k i x.toNatClampNeg v)) else none else none else none) = _
    rw [if_pos hkt]; unfold en_st; rw [if_neg hk]; rfl)
theorem ru_zastM {n m : Nat} (h : en_cd y pc = some (.bastore, 1, ka, kb)) (hkt : en_kt k = 2) (hn : en_cnt k = n) (hm : en_ln k = m) (hk : ¬ k < 16) : en_R cs y d post pc lo (.inl v :: .inl x :: .inr (k, i) :: st) f = (i < n ∧ en_inr x m = true ∧ en_isz v = true ∧ en_R cs y d post (pc + 1) lo st (f.1, en_up f.2 k i x.toNatClampNeg v)) := by
  subst hn; subst hm
  exact en_R_g3 (by
    rw [en_stp_c h]
    show en_g 1 1 (if en_kt k = 2 then if i < en_cnt k then if en_inr x (en_ln k) = true then if en_isz v = true then some (.inl (pc + 1, lo, st, en_st f k i x.toNatClampNeg v)) else none else none else none else none) = _
    rw [if_pos hkt]; unfold en_st; rw [if_neg hk]; rfl)
theorem ru_aald {n m k2 : Nat} (h : en_cd y pc = some (.aaload, 1, ka, kb)) (hkt : en_kt k = 3) (hn : en_cnt k = n) (hm : en_ln k = m) (h2 : en_tk k = k2) : en_R cs y d post pc lo (.inl x :: .inr (k, i) :: st) f = (i < n ∧ en_inr x m = true ∧ en_R cs y d post (pc + 1) lo (.inr (k2, x.toNatClampNeg) :: st) f) := by
  subst hn; subst hm; subst h2
  exact en_R_g2 (by
    rw [en_stp_c h]
    show en_g 1 1 (if en_kt k = 3 then if i < en_cnt k then if en_inr x (en_ln k) = true then some (.inl (pc + 1, lo, .inr (en_tk k, x.toNatClampNeg) :: st, f)) else none else none else none) = _
    rw [if_pos hkt]; rfl)
/-- the script -/
theorem ru_sald (h : en_cd y pc = some (.iaload, 1, ka, kb)) : en_R cs y d post pc lo (.inl x :: .inr (63, i) :: st) f = (i < cs.1 ∧ en_inr x cs.2.1 = true ∧ en_R cs y d post (pc + 1) lo (.inl (cs.2.2 x.toNatClampNeg) :: st) f) := en_R_g2 (by rw [en_stp_c h]; rfl)
theorem ru_slen (h : en_cd y pc = some (.arraylength, 1, ka, kb)) : en_R cs y d post pc lo (.inr (63, i) :: st) f = (i < cs.1 ∧ en_R cs y d post (pc + 1) lo (.inl (Int32.ofNat cs.2.1) :: st) f) := en_R_g (by rw [en_stp_c h]; rfl)
/-- answers -/
theorem ru_ire1 (h : en_cd y pc = some (.ireturn, 1, ka, kb)) (hr : en_rt y = 1) : en_R cs y d post pc lo [.inl x] f = post (some (.inl x)) f :=
  en_R_r (by rw [en_stp_c h]; show ((if en_rt y = 1 then some (.inr (.inl (some (.inl x)))) else _) : Option en_Rs) = _; rw [if_pos hr])
theorem ru_ire2 (h : en_cd y pc = some (.ireturn, 1, ka, kb)) (hr : en_rt y = 2) : en_R cs y d post pc lo [.inl x] f = (en_isz x = true ∧ post (some (.inl x)) f) := by
  have e : en_stp cs y pc lo [.inl x] f = if en_isz x = true then some (.inr (.inl (some (.inl x)))) else none := by
    rw [en_stp_c h]
    show ((if en_rt y = 1 then _ else if en_rt y = 2 then if en_isz x = true then some (.inr (.inl (some (.inl x)))) else none else none) : Option en_Rs) = _
    rw [if_neg (by rw [hr]; decide), if_pos hr]
  rw [en_R_sx, en_Sx, e]
  by_cases hx : en_isz x = true
  · rw [if_pos hx]; simp [hx]
  · rw [if_neg hx]; simp [hx]
theorem ru_vre (h : en_cd y pc = some (.return_, 1, ka, kb)) (hr : en_rt y = 0) : en_R cs y d post pc lo [] f = post none f :=
  en_R_r (by rw [en_stp_c h]; show ((if en_rt y = 0 then some (.inr (.inl none)) else none) : Option en_Rs) = _; rw [if_pos hr])
theorem ru_tsw {dflt low high : Int} {offs : Array Int} {len : Nat} (h : en_cd y pc = some (.tableswitch dflt low high offs, len, ka, kb)) {t : Int32 → Nat} (he : en_tsw pc lo (.inl x :: st) f dflt low high offs = some (.inl (t x, lo, st, f))) : en_R cs y d post pc lo (.inl x :: st) f = en_R cs y d post (t x) lo st f :=
  en_R_n (by rw [en_stp_c h]; exact he)
/-- calls -/
theorem ru_iv {idx n : Nat} {al rest : List en_V} (h : en_cd y pc = some (.invokevirtual idx, 3, ka, kb)) (hs : en_ms ka = false) (hn : en_np ka = al.length) (hk : en_cnt (en_mk ka) = n) (hst : st = al.reverse ++ .inr (en_mk ka, i) :: rest) : en_R cs y d post pc lo st f = (rest.length ≤ 8 ∧ i < n ∧ en_Ev d ka (.inr (en_mk ka, i) :: al) f (fun r g => en_R cs y d post (pc + 3) lo (r.toList ++ rest) g)) := by
  subst hk
  have e1 : st.take (en_np ka + 1) = al.reverse ++ [.inr (en_mk ka, i)] := by
    rw [hst, hn, show al.reverse ++ .inr (en_mk ka, i) :: rest = (al.reverse ++ [.inr (en_mk ka, i)]) ++ rest by simp]
    exact List.take_left' (by simp)
  have e2 : st.drop (en_np ka + 1) = rest := by
    rw [hst, hn, show al.reverse ++ .inr (en_mk ka, i) :: rest = (al.reverse ++ [.inr (en_mk ka, i)]) ++ rest by simp]
    exact List.drop_left' (by simp)
  have e3 : en_np ka + 1 ≤ st.length := by rw [hst, hn]; simp
  have e : en_stp cs y pc lo st f = if rest.length ≤ 8 then if i < en_cnt (en_mk ka) then some (.inr (.inr (ka, .inr (en_mk ka, i) :: al, rest, pc + 3))) else none else none := by
    rw [en_stp_c h]
    show en_g 3 3 (en_iv (pc + 3) st ka) = _
    unfold en_g en_iv
    rw [if_pos rfl, if_pos hs, if_pos e3, e2, e1]
    simp
  rw [en_R_sx, en_Sx, e]
  by_cases hx : rest.length ≤ 8
  · rw [if_pos hx]
    by_cases hz : i < en_cnt (en_mk ka)
    · rw [if_pos hz]; simp [hx, hz]
    · rw [if_neg hz]; simp [hz]
  · rw [if_neg hx]; simp [hx]
theorem ru_is {idx : Nat} {al rest : List en_V} (h : en_cd y pc = some (.invokestatic idx, 3, ka, kb)) (hs : en_ms ka = true) (hn : en_np ka = al.length) (hst : st = al.reverse ++ rest) : en_R cs y d post pc lo st f = (rest.length ≤ 8 ∧ en_Ev d ka al f (fun r g => en_R cs y d post (pc + 3) lo (r.toList ++ rest) g)) := by
  have e1 : st.take (en_np ka) = al.reverse := by rw [hst, hn]; exact List.take_left' (by simp)
  have e2 : st.drop (en_np ka) = rest := by rw [hst, hn]; exact List.drop_left' (by simp)
  have e3 : en_np ka ≤ st.length := by rw [hst, hn]; simp
  have e : en_stp cs y pc lo st f = if rest.length ≤ 8 then some (.inr (.inr (ka, al, rest, pc + 3))) else none := by
    rw [en_stp_c h]
    show en_g 3 3 (en_is (pc + 3) st ka) = _
    unfold en_g en_is
    rw [if_pos rfl, if_pos hs, if_pos e3, e2, e1]
    simp
  rw [en_R_sx, en_Sx, e]
  by_cases hx : rest.length ≤ 8
  · rw [if_pos hx]; simp [hx]
  · rw [if_neg hx]; simp [hx]
end EnRules
