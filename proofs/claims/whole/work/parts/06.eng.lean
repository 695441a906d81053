/-! THE ENGINE, second part: a step of a method, its runs, its calls; it speaks of the tables of the part before -/
def en_rd (f : en_T) (k i j : Nat) : en_V := match en_fr k j with
  | some k' => .inr (k', i)
  | none => .inl (en_gt f k i j)
def en_gf (pc : Nat) (lo : en_L) (st : List en_V) (f : en_T) (k j : Nat) : Option en_Rs := match st with
  | .inr c :: r => if c.1 = k then if c.2 < en_cnt k then some (.inl (pc, lo, en_rd f k c.2 j :: r, f)) else none else none
  | _ => none
def en_pf (pc : Nat) (lo : en_L) (st : List en_V) (f : en_T) (k j : Nat) : Option en_Rs := match st with
  | .inl x :: .inr c :: r => if c.1 = k then if c.2 < en_cnt k then
      if en_pw k j = 1 then some (.inl (pc, lo, r, en_st f k c.2 j x)) else if en_pw k j = 2 then if en_isz x = true then some (.inl (pc, lo, r, en_st f k c.2 j x)) else none else none
    else none else none
  | _ => none
def en_iald (cs : en_S) (pc : Nat) (lo : en_L) (st : List en_V) (f : en_T) : Option en_Rs := match st with
  | .inl x :: .inr c :: r => if c.1 = 63 then if c.2 < cs.1 then if en_inr x cs.2.1 = true then some (.inl (pc, lo, .inl (cs.2.2 x.toNatClampNeg) :: r, f)) else none else none else
    if en_kt c.1 = 1 then if c.2 < en_cnt c.1 then if en_inr x (en_ln c.1) = true then some (.inl (pc, lo, .inl (en_gt f c.1 c.2 x.toNatClampNeg) :: r, f)) else none else none else none
  | _ => none
def en_zald (pc : Nat) (lo : en_L) (st : List en_V) (f : en_T) : Option en_Rs := match st with
  | .inl x :: .inr c :: r => if en_kt c.1 = 2 then if c.2 < en_cnt c.1 then if en_inr x (en_ln c.1) = true then some (.inl (pc, lo, .inl (en_gt f c.1 c.2 x.toNatClampNeg) :: r, f)) else none else none else none
  | _ => none
def en_iast (pc : Nat) (lo : en_L) (st : List en_V) (f : en_T) : Option en_Rs := match st with
  | .inl v :: .inl x :: .inr c :: r => if en_kt c.1 = 1 then if c.2 < en_cnt c.1 then if en_inr x (en_ln c.1) = true then some (.inl (pc, lo, r, en_st f c.1 c.2 x.toNatClampNeg v)) else none else none else none
  | _ => none
def en_zast (pc : Nat) (lo : en_L) (st : List en_V) (f : en_T) : Option en_Rs := match st with
  | .inl v :: .inl x :: .inr c :: r => if en_kt c.1 = 2 then if c.2 < en_cnt c.1 then if en_inr x (en_ln c.1) = true then if en_isz v = true then some (.inl (pc, lo, r, en_st f c.1 c.2 x.toNatClampNeg v)) else none else none else none else none
  | _ => none
def en_aald (pc : Nat) (lo : en_L) (st : List en_V) (f : en_T) : Option en_Rs := match st with
  | .inl x :: .inr c :: r => if en_kt c.1 = 3 then if c.2 < en_cnt c.1 then if en_inr x (en_ln c.1) = true then some (.inl (pc, lo, .inr (en_tk c.1, x.toNatClampNeg) :: r, f)) else none else none else none
  | _ => none
def en_alen (cs : en_S) (pc : Nat) (lo : en_L) (st : List en_V) (f : en_T) : Option en_Rs := match st with
  | .inr c :: r => if c.1 = 63 then if c.2 < cs.1 then some (.inl (pc, lo, .inl (Int32.ofNat cs.2.1) :: r, f)) else none else none
  | _ => none
def en_iv (pc : Nat) (st : List en_V) (y' : Nat) : Option en_Rs := if en_ms y' = false then if en_np y' + 1 ≤ st.length then if (st.drop (en_np y' + 1)).length ≤ 8 then
      match (st.take (en_np y' + 1)).reverse with
      | .inr c :: a => if c.1 = en_mk y' then if c.2 < en_cnt c.1 then some (.inr (.inr (y', .inr c :: a, st.drop (en_np y' + 1), pc))) else none else none
      | _ => none
      else none else none else none
def en_is (pc : Nat) (st : List en_V) (y' : Nat) : Option en_Rs := if en_ms y' = true then if en_np y' ≤ st.length then if (st.drop (en_np y')).length ≤ 8 then
      some (.inr (.inr (y', (st.take (en_np y')).reverse, st.drop (en_np y'), pc))) else none else none else none
def en_ire (y : Nat) (st : List en_V) : Option en_Rs := match st with
  | .inl x :: r => if r.length = 0 then if en_rt y = 1 then some (.inr (.inl (some (.inl x)))) else if en_rt y = 2 then if en_isz x = true then some (.inr (.inl (some (.inl x)))) else none else none else none
  | _ => none
def en_vre (y : Nat) (st : List en_V) : Option en_Rs := match st with
  | [] => if en_rt y = 0 then some (.inr (.inl none)) else none
  | _ => none
def en_tsw (pc : Nat) (lo : en_L) (st : List en_V) (f : en_T) (dflt low high : Int) (offs : Array Int) : Option en_Rs := match st with
  | .inl x :: r => if x.toInt < low then en_jp pc dflt lo r f else if high < x.toInt then en_jp pc dflt lo r f else match offs[(x.toInt - low).toNat]? with
    | some o => en_jp pc o lo r f
    | none => none
  | _ => none

def en_ex (cs : en_S) (y : Nat) (ins : Instr) (len ka kb pc : Nat) (lo : en_L) (st : List en_V) (f : en_T) : Option en_Rs := match ins with
  | .iconst n => en_g len 1 (en_nx (pc + 1) lo (.inl (Int32.ofInt n) :: st) f)
  | .bipush n => en_g len 2 (en_nx (pc + 2) lo (.inl (Int8.ofInt n).toInt32 :: st) f)
  | .sipush n => en_g len 3 (en_nx (pc + 3) lo (.inl (Int16.ofInt n).toInt32 :: st) f)
  | .iload_n k => en_g len 1 (en_ild (pc + 1) lo st f k)
  | .iload k => en_g len 2 (en_ild (pc + 2) lo st f k)
  | .aload_n k => en_g len 1 (en_ald (pc + 1) lo st f k)
  | .aload k => en_g len 2 (en_ald (pc + 2) lo st f k)
  | .istore_n k => en_g len 1 (en_ist (pc + 1) lo st f k)
  | .istore k => en_g len 2 (en_ist (pc + 2) lo st f k)
  | .astore_n k => en_g len 1 (en_ast (pc + 1) lo st f k)
  | .astore k => en_g len 2 (en_ast (pc + 2) lo st f k)
  | .iinc k n => en_g len 3 (en_inc (pc + 3) lo st f k n)
  | .iadd => en_g len 1 (en_b2 (pc + 1) lo st f (fun a b => a + b))
  | .isub => en_g len 1 (en_b2 (pc + 1) lo st f (fun a b => a - b))
  | .imul => en_g len 1 (en_b2 (pc + 1) lo st f (fun a b => a * b))
  | .iand => en_g len 1 (en_b2 (pc + 1) lo st f (fun a b => a &&& b))
  | .ior => en_g len 1 (en_b2 (pc + 1) lo st f (fun a b => a ||| b))
  | .ixor => en_g len 1 (en_b2 (pc + 1) lo st f (fun a b => a ^^^ b))
  | .ishl => en_g len 1 (en_b2 (pc + 1) lo st f (fun a b => a <<< (b &&& 31)))
  | .ishr => en_g len 1 (en_b2 (pc + 1) lo st f (fun a b => a >>> (b &&& 31)))
  | .idiv => en_g len 1 (en_bd (pc + 1) lo st f (fun a b => a / b))
  | .irem => en_g len 1 (en_bd (pc + 1) lo st f (fun a b => a - a / b * b))
  | .dup => en_g len 1 (en_dup (pc + 1) lo st f)
  | .dup_x1 => en_g len 1 (en_dupx (pc + 1) lo st f)
  | .dup2 => en_g len 1 (en_dup2 (pc + 1) lo st f)
  | .pop => en_g len 1 (en_pop (pc + 1) lo st f)
  | .ifCond .eq o => en_g len 3 (en_if pc o lo st f (fun a x z => if a = 0 then x else z))
  | .ifCond .ne o => en_g len 3 (en_if pc o lo st f (fun a x z => if a = 0 then z else x))
  | .ifCond .lt o => en_g len 3 (en_if pc o lo st f (fun a x z => if a < 0 then x else z))
  | .ifCond .ge o => en_g len 3 (en_if pc o lo st f (fun a x z => if 0 ≤ a then x else z))
  | .ifCond .gt o => en_g len 3 (en_if pc o lo st f (fun a x z => if 0 < a then x else z))
  | .ifCond .le o => en_g len 3 (en_if pc o lo st f (fun a x z => if a ≤ 0 then x else z))
  | .if_icmp .eq o => en_g len 3 (en_ic pc o lo st f (fun a b x z => if a = b then x else z))
  | .if_icmp .ne o => en_g len 3 (en_ic pc o lo st f (fun a b x z => if a = b then z else x))
  | .if_icmp .lt o => en_g len 3 (en_ic pc o lo st f (fun a b x z => if a < b then x else z))
  | .if_icmp .ge o => en_g len 3 (en_ic pc o lo st f (fun a b x z => if b ≤ a then x else z))
  | .if_icmp .gt o => en_g len 3 (en_ic pc o lo st f (fun a b x z => if b < a then x else z))
  | .if_icmp .le o => en_g len 3 (en_ic pc o lo st f (fun a b x z => if a ≤ b then x else z))
  | .goto o => en_g len 3 (en_jp pc o lo st f)
  | .getfield _ => en_g len 3 (en_gf (pc + 3) lo st f ka kb)
  | .putfield _ => en_g len 3 (en_pf (pc + 3) lo st f ka kb)
  | .iaload => en_g len 1 (en_iald cs (pc + 1) lo st f)
  | .baload => en_g len 1 (en_zald (pc + 1) lo st f)
  | .iastore => en_g len 1 (en_iast (pc + 1) lo st f)
  | .bastore => en_g len 1 (en_zast (pc + 1) lo st f)
  | .aaload => en_g len 1 (en_aald (pc + 1) lo st f)
  | .arraylength => en_g len 1 (en_alen cs (pc + 1) lo st f)
  | .invokevirtual _ => en_g len 3 (en_iv (pc + 3) st ka)
  | .invokestatic _ => en_g len 3 (en_is (pc + 3) st ka)
  | .ireturn => en_g len 1 (en_ire y st)
  | .return_ => en_g len 1 (en_vre y st)
  | .tableswitch d lw hg os => en_tsw pc lo st f d lw hg os
  | _ => none
def en_stp (cs : en_S) (y pc : Nat) (lo : en_L) (st : List en_V) (f : en_T) : Option en_Rs := match en_cd y pc with
  | some q => en_ex cs y q.1 q.2.1 q.2.2.1 q.2.2.2 pc lo st f
  | none => none

abbrev en_Q : Type := Option en_V → en_T → Prop
abbrev en_C : Type := Nat → List en_V → en_T → en_Q → Prop
abbrev en_K : Type := Nat → en_L → List en_V → en_T → Prop
def en_Sx (cs : en_S) (y : Nat) (call : en_C) (K : en_K) (post : en_Q) (pc : Nat) (lo : en_L) (st : List en_V) (f : en_T) : Prop := match en_stp cs y pc lo st f with
  | none => False
  | some (.inl q) => K q.1 q.2.1 q.2.2.1 q.2.2.2
  | some (.inr (.inl r)) => post r f
  | some (.inr (.inr q)) => call q.1 q.2.1 f (fun r g => K q.2.2.2 lo (r.toList ++ q.2.2.1) g)
/-- the least K that a step leads into: the run ends, with post -/
def en_Go (cs : en_S) (y : Nat) (call : en_C) (post : en_Q) (pc : Nat) (lo : en_L) (st : List en_V) (f : en_T) : Prop :=
  ∀ P : en_K, (∀ pc lo st f, en_Sx cs y call P post pc lo st f → P pc lo st f) → P pc lo st f
def en_Ev : Nat → en_C
  | 0 => fun _ _ _ _ => False
  | d + 1 => fun y a f Q => a.length ≤ en_mL y ∧ en_Go en_s0 y (en_Ev d) Q 0 (a.map some ++ List.replicate (en_mL y - a.length) none) [] f
def en_mono (call : en_C) : Prop := ∀ (y : Nat) (a : List en_V) (f : en_T) (Q Q' : en_Q), (∀ r g, Q r g → Q' r g) → call y a f Q → call y a f Q'
def en_det (call : en_C) : Prop := ∀ (y : Nat) (a : List en_V) (f : en_T) (Q Q' : en_Q), call y a f Q → call y a f Q' → ∃ r g, Q r g ∧ Q' r g
theorem en_Sx_mono {cs : en_S} {y : Nat} {call : en_C} (hc : en_mono call) {K K' : en_K} {post post' : en_Q} (hK : ∀ pc lo st f, K pc lo st f → K' pc lo st f) (hp : ∀ r g, post r g → post' r g) {pc : Nat} {lo : en_L} {st : List en_V} {f : en_T}
    (h : en_Sx cs y call K post pc lo st f) : en_Sx cs y call K' post' pc lo st f := by
  unfold en_Sx at h ⊢
  cases hs : en_stp cs y pc lo st f with
  | none => rw [hs] at h; exact h
  | some q =>
    rw [hs] at h
    cases q with
    | inl q => exact hK _ _ _ _ h
    | inr q =>
      cases q with
      | inl r => exact hp _ _ h
      | inr q => exact hc _ _ _ _ _ (fun r g => hK _ _ _ _) h
theorem en_Go_fold {cs : en_S} {y : Nat} {call : en_C} (hc : en_mono call) {post : en_Q} {pc : Nat} {lo : en_L} {st : List en_V} {f : en_T}
    (h : en_Sx cs y call (en_Go cs y call post) post pc lo st f) : en_Go cs y call post pc lo st f :=
  fun P hP => hP _ _ _ _ (en_Sx_mono hc (fun _ _ _ _ hg => hg P hP) (fun _ _ q => q) h)
theorem en_Go_unfold {cs : en_S} {y : Nat} {call : en_C} (hc : en_mono call) {post : en_Q} {pc : Nat} {lo : en_L} {st : List en_V} {f : en_T}
    (h : en_Go cs y call post pc lo st f) : en_Sx cs y call (en_Go cs y call post) post pc lo st f :=
  h (fun pc lo st f => en_Sx cs y call (en_Go cs y call post) post pc lo st f) (fun _ _ _ _ hs => en_Sx_mono hc (fun _ _ _ _ hg => en_Go_fold hc hg) (fun _ _ q => q) hs)
theorem en_Go_mono {cs : en_S} {y : Nat} {call : en_C} (hc : en_mono call) {post post' : en_Q} (hp : ∀ r g, post r g → post' r g) {pc : Nat} {lo : en_L} {st : List en_V} {f : en_T}
    (h : en_Go cs y call post pc lo st f) : en_Go cs y call post' pc lo st f :=
  fun P hP => h P (fun _ _ _ _ hs => hP _ _ _ _ (en_Sx_mono hc (fun _ _ _ _ q => q) hp hs))
theorem en_Ev_mono (d : Nat) : en_mono (en_Ev d) := by
  induction d with
  | zero => intro y a f Q Q' _ h; exact h
  | succ d ih => intro y a f Q Q' hq h; exact ⟨h.1, en_Go_mono ih hq h.2⟩
theorem en_Go_det {cs : en_S} {y : Nat} {call : en_C} (hc : en_mono call) (hd : en_det call) {post post' : en_Q} {pc : Nat} {lo : en_L} {st : List en_V} {f : en_T}
    (h : en_Go cs y call post pc lo st f) : en_Go cs y call post' pc lo st f → ∃ r g, post r g ∧ post' r g := by
  refine h (fun pc lo st f => en_Go cs y call post' pc lo st f → ∃ r g, post r g ∧ post' r g) ?_
  intro pc lo st f h1 h2
  have h3 := en_Go_unfold hc h2
  unfold en_Sx at h1 h3
  cases hs : en_stp cs y pc lo st f with
  | none => rw [hs] at h1; exact h1.elim
  | some q =>
    rw [hs] at h1 h3
    cases q with
    | inl q => exact h1 h3
    | inr q =>
      cases q with
      | inl r => exact ⟨r, f, h1, h3⟩
      | inr q =>
        obtain ⟨r, g, k1, k2⟩ := hd _ _ _ _ _ h1 h3
        exact k1 k2
theorem en_Ev_det (d : Nat) : en_det (en_Ev d) := by
  induction d with
  | zero => intro y a f Q Q' h; exact h.elim
  | succ d ih => intro y a f Q Q' h h'; exact en_Go_det (en_Ev_mono d) ih h.2 h'.2
/-- a method's runs are all alike: an answer for every Q says what the method is -/
theorem en_ev_eq {d y : Nat} {a : List en_V} {f g : en_T} {r : Option en_V} (h : ∀ Q : en_Q, Q r g → en_Ev d y a f Q) (Q : en_Q) : en_Ev d y a f Q = Q r g := by
  apply propext
  constructor
  · intro h1
    obtain ⟨r', g', k1, k2⟩ := en_Ev_det d y a f Q (fun r' g' => r' = r ∧ g' = g) h1 (h _ ⟨rfl, rfl⟩)
    rw [k2.1, k2.2] at k1
    exact k1
  · exact h Q
/-- a run at depth d -/
def en_R (cs : en_S) (y d : Nat) (post : en_Q) (pc : Nat) (lo : en_L) (st : List en_V) (f : en_T) : Prop := en_Go cs y (en_Ev d) post pc lo st f
theorem en_R_sx {cs : en_S} {y d : Nat} {post : en_Q} {pc : Nat} {lo : en_L} {st : List en_V} {f : en_T} : en_R cs y d post pc lo st f = en_Sx cs y (en_Ev d) (en_R cs y d post) post pc lo st f :=
  propext ⟨fun h => en_Go_unfold (en_Ev_mono d) h, fun h => en_Go_fold (en_Ev_mono d) h⟩
theorem en_R_n {cs : en_S} {y d : Nat} {post : en_Q} {pc pc' : Nat} {lo lo' : en_L} {st st' : List en_V} {f f' : en_T} (h : en_stp cs y pc lo st f = some (.inl (pc', lo', st', f'))) : en_R cs y d post pc lo st f = en_R cs y d post pc' lo' st' f' := by
  rw [en_R_sx, en_Sx, h]
theorem en_R_b {cs : en_S} {y d : Nat} {post : en_Q} {pc p1 p2 : Nat} {lo : en_L} {st st' : List en_V} {f : en_T} {c : Prop} {hc : Decidable c} (h : en_stp cs y pc lo st f = @ite _ c hc (some (.inl (p1, lo, st', f))) (some (.inl (p2, lo, st', f)))) : en_R cs y d post pc lo st f = @ite _ c hc (en_R cs y d post p1 lo st' f) (en_R cs y d post p2 lo st' f) := by
  rw [en_R_sx, en_Sx, h]
  by_cases hx : c
  · rw [if_pos hx, if_pos hx]
  · rw [if_neg hx, if_neg hx]
theorem en_R_r {cs : en_S} {y d : Nat} {post : en_Q} {pc : Nat} {lo : en_L} {st : List en_V} {f : en_T} {r : Option en_V} (h : en_stp cs y pc lo st f = some (.inr (.inl r))) : en_R cs y d post pc lo st f = post r f := by
  rw [en_R_sx, en_Sx, h]
theorem en_R_c {cs : en_S} {y d : Nat} {post : en_Q} {pc y' nx : Nat} {lo : en_L} {st rest a : List en_V} {f : en_T} (h : en_stp cs y pc lo st f = some (.inr (.inr (y', a, rest, nx)))) : en_R cs y d post pc lo st f = en_Ev d y' a f (fun r g => en_R cs y d post nx lo (r.toList ++ rest) g) := by
  rw [en_R_sx, en_Sx, h]
/-- a method, begun -/
theorem en_Ev_s {d y : Nat} {a : List en_V} {f : en_T} {Q : en_Q} (h : a.length ≤ en_mL y) : en_Ev (d + 1) y a f Q = en_R en_s0 y d Q 0 (a.map some ++ List.replicate (en_mL y - a.length) none) [] f :=
  propext ⟨fun q => q.2, fun q => ⟨h, q⟩⟩
