/-! THE ENGINE, third part: what a step's result says of the step -/
section EnInv
variable {pc pc' len L : Nat} {lo lo' : en_L} {st st' : List en_V} {f f' : en_T} {i y : Nat} {X : en_Rs}
theorem en_g_i {x : Option en_Rs} (h : en_g len L x = some X) : len = L ∧ x = some X := by
  unfold en_g at h
  split at h
  · exact ⟨by assumption, h⟩
  · cases h
theorem en_nx_i (h : en_nx pc lo st f = some (.inl (pc', lo', st', f'))) : pc' = pc ∧ lo' = lo ∧ st' = st ∧ f' = f := by
  unfold en_nx at h
  cases h
  exact ⟨rfl, rfl, rfl, rfl⟩
theorem en_jp_i {off : Int} (h : en_jp pc off lo st f = some (.inl (pc', lo', st', f'))) : (pc : Int) + off = (pc' : Int) ∧ lo' = lo ∧ st' = st ∧ f' = f := by
  unfold en_jp at h
  split at h
  next hx =>
    cases h
    exact ⟨(Int.toNat_of_nonneg hx).symm, rfl, rfl, rfl⟩
  next => cases h
theorem en_ild_i (h : en_ild pc lo st f i = some (.inl (pc', lo', st', f'))) : ∃ x : Int32, lo[i]? = some (some (.inl x)) ∧ pc' = pc ∧ lo' = lo ∧ st' = .inl x :: st ∧ f' = f := by
  unfold en_ild at h
  split at h
  next x hx => cases h; exact ⟨x, hx, rfl, rfl, rfl, rfl⟩
  next => cases h
theorem en_ald_i (h : en_ald pc lo st f i = some (.inl (pc', lo', st', f'))) : ∃ q : Nat × Nat, lo[i]? = some (some (.inr q)) ∧ pc' = pc ∧ lo' = lo ∧ st' = .inr q :: st ∧ f' = f := by
  unfold en_ald at h
  split at h
  next x hx => cases h; exact ⟨x, hx, rfl, rfl, rfl, rfl⟩
  next => cases h
theorem en_ist_i (h : en_ist pc lo st f i = some (.inl (pc', lo', st', f'))) : ∃ (x : Int32) (r : List en_V), st = .inl x :: r ∧ i < lo.length ∧ pc' = pc ∧ lo' = lo.set i (some (.inl x)) ∧ st' = r ∧ f' = f := by
  unfold en_ist at h
  split at h
  next x r =>
    split at h
    next hx => cases h; exact ⟨x, _, rfl, hx, rfl, rfl, rfl, rfl⟩
    next => cases h
  next => cases h
theorem en_ast_i (h : en_ast pc lo st f i = some (.inl (pc', lo', st', f'))) : ∃ (x : Nat × Nat) (r : List en_V), st = .inr x :: r ∧ i < lo.length ∧ pc' = pc ∧ lo' = lo.set i (some (.inr x)) ∧ st' = r ∧ f' = f := by
  unfold en_ast at h
  split at h
  next x r =>
    split at h
    next hx => cases h; exact ⟨x, _, rfl, hx, rfl, rfl, rfl, rfl⟩
    next => cases h
  next => cases h
theorem en_inc_i {n : Int} (h : en_inc pc lo st f i n = some (.inl (pc', lo', st', f'))) : ∃ x : Int32, lo[i]? = some (some (.inl x)) ∧ pc' = pc ∧ lo' = lo.set i (some (.inl (x + Int32.ofInt n))) ∧ st' = st ∧ f' = f := by
  unfold en_inc at h
  split at h
  next x hx => cases h; exact ⟨x, hx, rfl, rfl, rfl, rfl⟩
  next => cases h
theorem en_b2_i {op : Int32 → Int32 → Int32} (h : en_b2 pc lo st f op = some (.inl (pc', lo', st', f'))) : ∃ (a b : Int32) (r : List en_V), st = .inl b :: .inl a :: r ∧ pc' = pc ∧ lo' = lo ∧ st' = .inl (op a b) :: r ∧ f' = f := by
  unfold en_b2 at h
  split at h
  next b a r => cases h; exact ⟨a, b, _, rfl, rfl, rfl, rfl, rfl⟩
  next => cases h
theorem en_bd_i {op : Int32 → Int32 → Int32} (h : en_bd pc lo st f op = some (.inl (pc', lo', st', f'))) : ∃ (a b : Int32) (r : List en_V), st = .inl b :: .inl a :: r ∧ ¬ b = 0 ∧ pc' = pc ∧ lo' = lo ∧ st' = .inl (op a b) :: r ∧ f' = f := by
  unfold en_bd at h
  split at h
  next b a r =>
    split at h
    next => cases h
    next hx => cases h; exact ⟨a, b, _, rfl, hx, rfl, rfl, rfl, rfl⟩
  next => cases h
theorem en_if_i {off : Int} {q : Int32 → Option en_Rs → Option en_Rs → Option en_Rs} (h : en_if pc off lo st f q = some X) : ∃ (a : Int32) (r : List en_V) (t : Nat), st = .inl a :: r ∧ (pc : Int) + off = (t : Int) ∧ q a (en_nx t lo r f) (en_nx (pc + 3) lo r f) = some X := by
  unfold en_if at h
  split at h
  next a r =>
    split at h
    next hx => exact ⟨a, r, _, rfl, (Int.toNat_of_nonneg hx).symm, h⟩
    next => cases h
  next => cases h
theorem en_ic_i {off : Int} {q : Int32 → Int32 → Option en_Rs → Option en_Rs → Option en_Rs} (h : en_ic pc off lo st f q = some X) : ∃ (a b : Int32) (r : List en_V) (t : Nat), st = .inl b :: .inl a :: r ∧ (pc : Int) + off = (t : Int) ∧ q a b (en_nx t lo r f) (en_nx (pc + 3) lo r f) = some X := by
  unfold en_ic at h
  split at h
  next b a r =>
    split at h
    next hx => exact ⟨a, b, r, _, rfl, (Int.toNat_of_nonneg hx).symm, h⟩
    next => cases h
  next => cases h
theorem en_dup_i (h : en_dup pc lo st f = some (.inl (pc', lo', st', f'))) : ∃ (a : en_V) (r : List en_V), st = a :: r ∧ pc' = pc ∧ lo' = lo ∧ st' = a :: a :: r ∧ f' = f := by
  unfold en_dup at h
  split at h
  next a r => cases h; exact ⟨a, _, rfl, rfl, rfl, rfl, rfl⟩
  next => cases h
theorem en_dupx_i (h : en_dupx pc lo st f = some (.inl (pc', lo', st', f'))) : ∃ (a b : en_V) (r : List en_V), st = a :: b :: r ∧ pc' = pc ∧ lo' = lo ∧ st' = a :: b :: a :: r ∧ f' = f := by
  unfold en_dupx at h
  split at h
  next a b r => cases h; exact ⟨a, b, _, rfl, rfl, rfl, rfl, rfl⟩
  next => cases h
theorem en_dup2_i (h : en_dup2 pc lo st f = some (.inl (pc', lo', st', f'))) : ∃ (a b : en_V) (r : List en_V), st = a :: b :: r ∧ pc' = pc ∧ lo' = lo ∧ st' = a :: b :: a :: b :: r ∧ f' = f := by
  unfold en_dup2 at h
  split at h
  next a b r => cases h; exact ⟨a, b, _, rfl, rfl, rfl, rfl, rfl⟩
  next => cases h
theorem en_pop_i (h : en_pop pc lo st f = some (.inl (pc', lo', st', f'))) : ∃ (a : en_V) (r : List en_V), st = a :: r ∧ pc' = pc ∧ lo' = lo ∧ st' = r ∧ f' = f := by
  unfold en_pop at h
  split at h
  next a r => cases h; exact ⟨a, _, rfl, rfl, rfl, rfl, rfl⟩
  next => cases h
theorem en_gf_i {k j : Nat} (h : en_gf pc lo st f k j = some (.inl (pc', lo', st', f'))) : ∃ (n : Nat) (r : List en_V), st = .inr (k, n) :: r ∧ n < en_cnt k ∧ pc' = pc ∧ lo' = lo ∧ st' = en_rd f k n j :: r ∧ f' = f := by
  unfold en_gf at h
  split at h
  next c r =>
    obtain ⟨k2, n⟩ := c
    dsimp only at h
    split at h
    next hx =>
      split at h
      next hy =>
        cases h
        subst hx
        exact ⟨n, r, rfl, hy, rfl, rfl, rfl, rfl⟩
      next => cases h
    next => cases h
  next => cases h
theorem en_pf_i {k j : Nat} (h : en_pf pc lo st f k j = some (.inl (pc', lo', st', f'))) : ∃ (n : Nat) (x : Int32) (r : List en_V), st = .inl x :: .inr (k, n) :: r ∧ n < en_cnt k ∧ (en_pw k j = 1 ∨ en_pw k j = 2 ∧ en_isz x = true) ∧ pc' = pc ∧ lo' = lo ∧ st' = r ∧ f' = en_st f k n j x := by
  unfold en_pf at h
  split at h
  next x c r =>
    obtain ⟨k2, n⟩ := c
    dsimp only at h
    split at h
    next hx =>
      subst hx
      split at h
      next hy =>
        split at h
        next hz => cases h; exact ⟨n, x, _, rfl, hy, Or.inl hz, rfl, rfl, rfl, rfl⟩
        next =>
          split at h
          next hz =>
            split at h
            next hv => cases h; exact ⟨n, x, _, rfl, hy, Or.inr ⟨hz, hv⟩, rfl, rfl, rfl, rfl⟩
            next => cases h
          next => cases h
      next => cases h
    next => cases h
  next => cases h
theorem en_iald_i {cs : en_S} (h : en_iald cs pc lo st f = some (.inl (pc', lo', st', f'))) : ∃ (k n : Nat) (x v : Int32) (r : List en_V), st = .inl x :: .inr (k, n) :: r ∧ pc' = pc ∧ lo' = lo ∧ st' = .inl v :: r ∧ f' = f ∧
    ((k = 63 ∧ n < cs.1 ∧ en_inr x cs.2.1 = true ∧ v = cs.2.2 x.toNatClampNeg) ∨ (en_kt k = 1 ∧ n < en_cnt k ∧ en_inr x (en_ln k) = true ∧ v = en_gt f k n x.toNatClampNeg)) := by
  unfold en_iald at h
  split at h
  next x c r =>
    obtain ⟨k, n⟩ := c
    dsimp only at h
    split at h
    next h1 =>
      split at h
      next h2 =>
        split at h
        next h3 => cases h; exact ⟨k, n, x, _, _, rfl, rfl, rfl, rfl, rfl, Or.inl ⟨h1, h2, h3, rfl⟩⟩
        next => cases h
      next => cases h
    next =>
      split at h
      next h1 =>
        split at h
        next h2 =>
          split at h
          next h3 => cases h; exact ⟨k, n, x, _, _, rfl, rfl, rfl, rfl, rfl, Or.inr ⟨h1, h2, h3, rfl⟩⟩
          next => cases h
        next => cases h
      next => cases h
  next => cases h
theorem en_zald_i (h : en_zald pc lo st f = some (.inl (pc', lo', st', f'))) : ∃ (k n : Nat) (x : Int32) (r : List en_V), st = .inl x :: .inr (k, n) :: r ∧ pc' = pc ∧ lo' = lo ∧ st' = .inl (en_gt f k n x.toNatClampNeg) :: r ∧ f' = f ∧ en_kt k = 2 ∧ n < en_cnt k ∧ en_inr x (en_ln k) = true := by
  unfold en_zald at h
  split at h
  next x c r =>
    obtain ⟨k, n⟩ := c
    dsimp only at h
    split at h
    next h1 =>
      split at h
      next h2 =>
        split at h
        next h3 => cases h; exact ⟨k, n, x, _, rfl, rfl, rfl, rfl, rfl, h1, h2, h3⟩
        next => cases h
      next => cases h
    next => cases h
  next => cases h
theorem en_aald_i (h : en_aald pc lo st f = some (.inl (pc', lo', st', f'))) : ∃ (k n : Nat) (x : Int32) (r : List en_V), st = .inl x :: .inr (k, n) :: r ∧ pc' = pc ∧ lo' = lo ∧ st' = .inr (en_tk k, x.toNatClampNeg) :: r ∧ f' = f ∧ en_kt k = 3 ∧ n < en_cnt k ∧ en_inr x (en_ln k) = true := by
  unfold en_aald at h
  split at h
  next x c r =>
    obtain ⟨k, n⟩ := c
    dsimp only at h
    split at h
    next h1 =>
      split at h
      next h2 =>
        split at h
        next h3 => cases h; exact ⟨k, n, x, _, rfl, rfl, rfl, rfl, rfl, h1, h2, h3⟩
        next => cases h
      next => cases h
    next => cases h
  next => cases h
theorem en_iast_i (h : en_iast pc lo st f = some (.inl (pc', lo', st', f'))) : ∃ (k n : Nat) (x v : Int32) (r : List en_V), st = .inl v :: .inl x :: .inr (k, n) :: r ∧ pc' = pc ∧ lo' = lo ∧ st' = r ∧ f' = en_st f k n x.toNatClampNeg v ∧ en_kt k = 1 ∧ n < en_cnt k ∧ en_inr x (en_ln k) = true := by
  unfold en_iast at h
  split at h
  next v x c r =>
    obtain ⟨k, n⟩ := c
    dsimp only at h
    split at h
    next h1 =>
      split at h
      next h2 =>
        split at h
        next h3 => cases h; exact ⟨k, n, x, v, _, rfl, rfl, rfl, rfl, rfl, h1, h2, h3⟩
        next => cases h
      next => cases h
    next => cases h
  next => cases h
theorem en_zast_i (h : en_zast pc lo st f = some (.inl (pc', lo', st', f'))) : ∃ (k n : Nat) (x v : Int32) (r : List en_V), st = .inl v :: .inl x :: .inr (k, n) :: r ∧ pc' = pc ∧ lo' = lo ∧ st' = r ∧ f' = en_st f k n x.toNatClampNeg v ∧ en_kt k = 2 ∧ n < en_cnt k ∧ en_inr x (en_ln k) = true ∧ en_isz v = true := by
  unfold en_zast at h
  split at h
  next v x c r =>
    obtain ⟨k, n⟩ := c
    dsimp only at h
    split at h
    next h1 =>
      split at h
      next h2 =>
        split at h
        next h3 =>
          split at h
          next h4 => cases h; exact ⟨k, n, x, v, _, rfl, rfl, rfl, rfl, rfl, h1, h2, h3, h4⟩
          next => cases h
        next => cases h
      next => cases h
    next => cases h
  next => cases h
theorem en_alen_i {cs : en_S} (h : en_alen cs pc lo st f = some (.inl (pc', lo', st', f'))) : ∃ (n : Nat) (r : List en_V), st = .inr (63, n) :: r ∧ pc' = pc ∧ lo' = lo ∧ st' = .inl (Int32.ofNat cs.2.1) :: r ∧ f' = f ∧ n < cs.1 := by
  unfold en_alen at h
  split at h
  next c r =>
    obtain ⟨k, n⟩ := c
    dsimp only at h
    split at h
    next h1 =>
      split at h
      next h2 => cases h; subst h1; exact ⟨n, _, rfl, rfl, rfl, rfl, rfl, h2⟩
      next => cases h
    next => cases h
  next => cases h
theorem en_iv_n (h : en_iv pc st y = some (.inl (pc', lo', st', f'))) : False := by
  unfold en_iv at h
  repeat' split at h
  all_goals cases h
theorem en_is_n (h : en_is pc st y = some (.inl (pc', lo', st', f'))) : False := by
  unfold en_is at h
  repeat' split at h
  all_goals cases h
theorem en_ire_n (h : en_ire y st = some (.inl (pc', lo', st', f'))) : False := by
  unfold en_ire at h
  repeat' split at h
  all_goals cases h
theorem en_vre_n (h : en_vre y st = some (.inl (pc', lo', st', f'))) : False := by
  unfold en_vre at h
  repeat' split at h
  all_goals cases h
end EnInv
