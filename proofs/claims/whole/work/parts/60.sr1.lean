/-! THE TWO STATES SIDE BY SIDE, 1: the relation -/
section Sr1
variable {p k n m q i j : Nat} {f g f' g' : en_F} {v w a b x : Int32}
def sr_bt (x : Int32) : Prop := x = 0 ∨ x = 1
def sr_f3 (x : Int32) : Prop := x = 0 ∨ x = 1 ∨ x = 2
def sr_b3 (x : Int32) : Prop := x = 0 ∨ x = 1 ∨ x = 2 ∨ x = 3
def sr_n4 (x : Int32) : Prop := x = 1 ∨ x = 2 ∨ x = 3 ∨ x = 4
def sr_s6 (x : Int32) : Prop := x = 0 ∨ x = 1 ∨ x = 2 ∨ x = 3 ∨ x = 4 ∨ x = 5
def sr_hb (x : Int32) : Prop := x = 1 ∨ x = 3 ∨ x = 4 ∨ x = 5 ∨ x = 7 ∨ x = 12 ∨ x = 13 ∨ x = 15
def sr_ki (k c : Int32) : Prop := (k = 0 ∧ c = 0) ∨ (k = 1 ∧ c = 0) ∨ (k = 2 ∧ 0 < c) ∨ (k = 3 ∧ 0 < c)
/-- what is plugged: kind, first, second; interval, cost, size, delay -/
def sr_dev (k a b u c s d : Int32) : Prop := k = 0 ∨ (k = 1 ∧ s = a ∧ d = b ∧ c = 0 ∧ sr_b3 b) ∨ (k = 2 ∧ u = a ∧ c = b ∧ s = 0 ∧ 0 < a ∧ 0 < b) ∨ (k = 3 ∧ c = 4 ∧ s = 0)
abbrev sr_has (g : en_F) (p : Nat) : Prop := g 36 0 p = 2 ∨ g 36 0 p = 3
/-- enumeration: step, listens, setupAt, number, known, kind -/
def sr_J5 (st l s n kn kd : Int32) : Prop := (st = 0 ∧ (l = 0 ∨ l = n) ∧ (s = -1 ∨ s = 0)) ∨ (st = 1 ∧ l = n ∧ s = 0) ∨ (st = 2 ∧ l = n ∧ (s = 0 ∨ s = n)) ∨ (st = 3 ∧ l = n ∧ s = n) ∨ ((st = 4 ∨ st = 5) ∧ l = n ∧ s = n ∧ kn = kd)
def sr_GO (g : en_F) (p : Nat) : Prop := g 42 0 p = g 25 0 p ∧ g 43 0 p = g 26 0 p ∧ g 30 0 p = 0 ∧ g 28 0 p = 0 ∧ (¬ g 17 0 p = 0 → sr_J5 (g 16 0 28) (g 22 0 p) (g 23 0 p) (g 37 0 p) (g 38 0 p) (g 17 0 p))
def sr_OD (f g : en_F) (p : Nat) : Prop := (f 4 p 6 = g 22 0 p) ∧ (f 4 p 7 = g 23 0 p ∨ (g 23 0 p = -1 ∧ f 4 p 7 = 0 ∧ g 22 0 p = 0)) ∧ (f 4 p 9 = g 25 0 p) ∧ (f 4 p 10 = g 26 0 p) ∧ (sr_bt (g 25 0 p)) ∧ (sr_bt (g 26 0 p)) ∧ (f 4 p 11 = g 28 0 p) ∧ (¬ g 28 0 p = 0 → f 4 p 12 = g 29 0 p) ∧ (f 5 p 3 = g 27 0 p) ∧ (sr_b3 (g 27 0 p)) ∧ (f 5 p 4 = g 30 0 p) ∧ (sr_f3 (g 30 0 p)) ∧ (¬ g 30 0 p = 0 → f 5 p 5 = g 31 0 p ∧ f 5 p 6 = g 32 0 p) ∧ (g 17 0 p = 3 → ¬ g 28 0 p = 0 → sr_hb (g 29 0 p))
theorem sr_OD_ow (h : sr_OD f g p) : f 4 p 6 = g 22 0 p := h.1
theorem sr_OD_su (h : sr_OD f g p) : f 4 p 7 = g 23 0 p ∨ (g 23 0 p = -1 ∧ f 4 p 7 = 0 ∧ g 22 0 p = 0) := h.2.1
theorem sr_OD_it (h : sr_OD f g p) : f 4 p 9 = g 25 0 p := h.2.2.1
theorem sr_OD_ot (h : sr_OD f g p) : f 4 p 10 = g 26 0 p := h.2.2.2.1
theorem sr_OD_b1 (h : sr_OD f g p) : sr_bt (g 25 0 p) := h.2.2.2.2.1
theorem sr_OD_b2 (h : sr_OD f g p) : sr_bt (g 26 0 p) := h.2.2.2.2.2.1
theorem sr_OD_hd (h : sr_OD f g p) : f 4 p 11 = g 28 0 p := h.2.2.2.2.2.2.1
theorem sr_OD_pk (h : sr_OD f g p) : ¬ g 28 0 p = 0 → f 4 p 12 = g 29 0 p := h.2.2.2.2.2.2.2.1
theorem sr_OD_bu (h : sr_OD f g p) : f 5 p 3 = g 27 0 p := h.2.2.2.2.2.2.2.2.1
theorem sr_OD_b3 (h : sr_OD f g p) : sr_b3 (g 27 0 p) := h.2.2.2.2.2.2.2.2.2.1
theorem sr_OD_wk (h : sr_OD f g p) : f 5 p 4 = g 30 0 p := h.2.2.2.2.2.2.2.2.2.2.1
theorem sr_OD_w3 (h : sr_OD f g p) : sr_f3 (g 30 0 p) := h.2.2.2.2.2.2.2.2.2.2.2.1
theorem sr_OD_al (h : sr_OD f g p) : ¬ g 30 0 p = 0 → f 5 p 5 = g 31 0 p ∧ f 5 p 6 = g 32 0 p := h.2.2.2.2.2.2.2.2.2.2.2.2.1
theorem sr_OD_hb (h : sr_OD f g p) : g 17 0 p = 3 → ¬ g 28 0 p = 0 → sr_hb (g 29 0 p) := h.2.2.2.2.2.2.2.2.2.2.2.2.2
theorem sr_OD_mk (ow : f 4 p 6 = g 22 0 p) (su : f 4 p 7 = g 23 0 p ∨ (g 23 0 p = -1 ∧ f 4 p 7 = 0 ∧ g 22 0 p = 0)) (it : f 4 p 9 = g 25 0 p) (ot : f 4 p 10 = g 26 0 p) (b1 : sr_bt (g 25 0 p)) (b2 : sr_bt (g 26 0 p)) (hd : f 4 p 11 = g 28 0 p) (pk : ¬ g 28 0 p = 0 → f 4 p 12 = g 29 0 p) (bu : f 5 p 3 = g 27 0 p) (b3 : sr_b3 (g 27 0 p)) (wk : f 5 p 4 = g 30 0 p) (w3 : sr_f3 (g 30 0 p)) (al : ¬ g 30 0 p = 0 → f 5 p 5 = g 31 0 p ∧ f 5 p 6 = g 32 0 p) (hb : g 17 0 p = 3 → ¬ g 28 0 p = 0 → sr_hb (g 29 0 p)) : sr_OD f g p := ⟨ow, su, it, ot, b1, b2, hd, pk, bu, b3, wk, w3, al, hb⟩

def sr_PR (f g : en_F) (p : Nat) : Prop := (f 3 p 3 = g 36 0 p) ∧ (f 4 p 3 = g 17 0 p) ∧ (f 3 p 1 = g 20 0 p) ∧ (f 3 p 2 = g 21 0 p) ∧ (sr_bt (g 21 0 p)) ∧ (f 4 p 8 = g 24 0 p) ∧ (f 4 p 2 = g 34 0 p) ∧ (f 3 p 9 = g 38 0 p) ∧ (f 3 p 10 = g 39 0 p) ∧ (f 3 p 12 = g 41 0 p) ∧ (f 3 p 5 = g 42 0 p) ∧ (f 3 p 6 = g 43 0 p) ∧ (f 3 p 7 = g 44 0 p) ∧ (sr_bt (g 42 0 p)) ∧ (sr_bt (g 43 0 p)) ∧ (g 38 0 p = 2 → f 3 p 11 = g 40 0 p ∧ 0 < g 40 0 p) ∧ (sr_has g p → f 3 p 4 = g 37 0 p) ∧ (¬ sr_has g p → f 3 p 4 = 0) ∧ (sr_has g p → sr_n4 (g 37 0 p)) ∧ (sr_has g p → sr_f3 (g 44 0 p)) ∧ (sr_ki (g 38 0 p) (g 41 0 p)) ∧ (sr_dev (g 17 0 p) (g 18 0 p) (g 19 0 p) (f 4 p 4) (f 4 p 5) (f 5 p 1) (f 5 p 2)) ∧ (¬ g 20 0 p = 0 → sr_has g p) ∧ (g 36 0 p = 2 → sr_s6 (g 16 0 28) ∧ f 3 p 8 = g 16 0 28) ∧ (¬ g 20 0 p = 0 → sr_OD f g p) ∧ (¬ g 20 0 p = 0 → g 36 0 p = 2 → sr_GO g p) ∧ (¬ g 20 0 p = 0 → g 36 0 p = 3 → ¬ g 17 0 p = 0 → g 22 0 p = g 37 0 p ∧ g 23 0 p = g 37 0 p ∧ g 38 0 p = g 17 0 p)
theorem sr_PR_vw (h : sr_PR f g p) : f 3 p 3 = g 36 0 p := h.1
theorem sr_PR_kd (h : sr_PR f g p) : f 4 p 3 = g 17 0 p := h.2.1
theorem sr_PR_op (h : sr_PR f g p) : f 3 p 1 = g 20 0 p := h.2.2.1
theorem sr_PR_ch (h : sr_PR f g p) : f 3 p 2 = g 21 0 p := h.2.2.2.1
theorem sr_PR_cb (h : sr_PR f g p) : sr_bt (g 21 0 p) := h.2.2.2.2.1
theorem sr_PR_cf (h : sr_PR f g p) : f 4 p 8 = g 24 0 p := h.2.2.2.2.2.1
theorem sr_PR_cc (h : sr_PR f g p) : f 4 p 2 = g 34 0 p := h.2.2.2.2.2.2.1
theorem sr_PR_kn (h : sr_PR f g p) : f 3 p 9 = g 38 0 p := h.2.2.2.2.2.2.2.1
theorem sr_PR_bk (h : sr_PR f g p) : f 3 p 10 = g 39 0 p := h.2.2.2.2.2.2.2.2.1
theorem sr_PR_co (h : sr_PR f g p) : f 3 p 12 = g 41 0 p := h.2.2.2.2.2.2.2.2.2.1
theorem sr_PR_hi (h : sr_PR f g p) : f 3 p 5 = g 42 0 p := h.2.2.2.2.2.2.2.2.2.2.1
theorem sr_PR_ho (h : sr_PR f g p) : f 3 p 6 = g 43 0 p := h.2.2.2.2.2.2.2.2.2.2.2.1
theorem sr_PR_fa (h : sr_PR f g p) : f 3 p 7 = g 44 0 p := h.2.2.2.2.2.2.2.2.2.2.2.2.1
theorem sr_PR_bi (h : sr_PR f g p) : sr_bt (g 42 0 p) := h.2.2.2.2.2.2.2.2.2.2.2.2.2.1
theorem sr_PR_bo (h : sr_PR f g p) : sr_bt (g 43 0 p) := h.2.2.2.2.2.2.2.2.2.2.2.2.2.2.1
theorem sr_PR_iv (h : sr_PR f g p) : g 38 0 p = 2 → f 3 p 11 = g 40 0 p ∧ 0 < g 40 0 p := h.2.2.2.2.2.2.2.2.2.2.2.2.2.2.2.1
theorem sr_PR_ah (h : sr_PR f g p) : sr_has g p → f 3 p 4 = g 37 0 p := h.2.2.2.2.2.2.2.2.2.2.2.2.2.2.2.2.1
theorem sr_PR_an (h : sr_PR f g p) : ¬ sr_has g p → f 3 p 4 = 0 := h.2.2.2.2.2.2.2.2.2.2.2.2.2.2.2.2.2.1
theorem sr_PR_nu (h : sr_PR f g p) : sr_has g p → sr_n4 (g 37 0 p) := h.2.2.2.2.2.2.2.2.2.2.2.2.2.2.2.2.2.2.1
theorem sr_PR_fl (h : sr_PR f g p) : sr_has g p → sr_f3 (g 44 0 p) := h.2.2.2.2.2.2.2.2.2.2.2.2.2.2.2.2.2.2.2.1
theorem sr_PR_ki (h : sr_PR f g p) : sr_ki (g 38 0 p) (g 41 0 p) := h.2.2.2.2.2.2.2.2.2.2.2.2.2.2.2.2.2.2.2.2.1
theorem sr_PR_dv (h : sr_PR f g p) : sr_dev (g 17 0 p) (g 18 0 p) (g 19 0 p) (f 4 p 4) (f 4 p 5) (f 5 p 1) (f 5 p 2) := h.2.2.2.2.2.2.2.2.2.2.2.2.2.2.2.2.2.2.2.2.2.1
theorem sr_PR_oh (h : sr_PR f g p) : ¬ g 20 0 p = 0 → sr_has g p := h.2.2.2.2.2.2.2.2.2.2.2.2.2.2.2.2.2.2.2.2.2.2.1
theorem sr_PR_gs (h : sr_PR f g p) : g 36 0 p = 2 → sr_s6 (g 16 0 28) ∧ f 3 p 8 = g 16 0 28 := h.2.2.2.2.2.2.2.2.2.2.2.2.2.2.2.2.2.2.2.2.2.2.2.1
theorem sr_PR_od (h : sr_PR f g p) : ¬ g 20 0 p = 0 → sr_OD f g p := h.2.2.2.2.2.2.2.2.2.2.2.2.2.2.2.2.2.2.2.2.2.2.2.2.1
theorem sr_PR_go (h : sr_PR f g p) : ¬ g 20 0 p = 0 → g 36 0 p = 2 → sr_GO g p := h.2.2.2.2.2.2.2.2.2.2.2.2.2.2.2.2.2.2.2.2.2.2.2.2.2.1
theorem sr_PR_rd (h : sr_PR f g p) : ¬ g 20 0 p = 0 → g 36 0 p = 3 → ¬ g 17 0 p = 0 → g 22 0 p = g 37 0 p ∧ g 23 0 p = g 37 0 p ∧ g 38 0 p = g 17 0 p := h.2.2.2.2.2.2.2.2.2.2.2.2.2.2.2.2.2.2.2.2.2.2.2.2.2.2
theorem sr_PR_mk (vw : f 3 p 3 = g 36 0 p) (kd : f 4 p 3 = g 17 0 p) (op : f 3 p 1 = g 20 0 p) (ch : f 3 p 2 = g 21 0 p) (cb : sr_bt (g 21 0 p)) (cf : f 4 p 8 = g 24 0 p) (cc : f 4 p 2 = g 34 0 p) (kn : f 3 p 9 = g 38 0 p) (bk : f 3 p 10 = g 39 0 p) (co : f 3 p 12 = g 41 0 p) (hi : f 3 p 5 = g 42 0 p) (ho : f 3 p 6 = g 43 0 p) (fa : f 3 p 7 = g 44 0 p) (bi : sr_bt (g 42 0 p)) (bo : sr_bt (g 43 0 p)) (iv : g 38 0 p = 2 → f 3 p 11 = g 40 0 p ∧ 0 < g 40 0 p) (ah : sr_has g p → f 3 p 4 = g 37 0 p) (an : ¬ sr_has g p → f 3 p 4 = 0) (nu : sr_has g p → sr_n4 (g 37 0 p)) (fl : sr_has g p → sr_f3 (g 44 0 p)) (ki : sr_ki (g 38 0 p) (g 41 0 p)) (dv : sr_dev (g 17 0 p) (g 18 0 p) (g 19 0 p) (f 4 p 4) (f 4 p 5) (f 5 p 1) (f 5 p 2)) (oh : ¬ g 20 0 p = 0 → sr_has g p) (gs : g 36 0 p = 2 → sr_s6 (g 16 0 28) ∧ f 3 p 8 = g 16 0 28) (od : ¬ g 20 0 p = 0 → sr_OD f g p) (go : ¬ g 20 0 p = 0 → g 36 0 p = 2 → sr_GO g p) (rd : ¬ g 20 0 p = 0 → g 36 0 p = 3 → ¬ g 17 0 p = 0 → g 22 0 p = g 37 0 p ∧ g 23 0 p = g 37 0 p ∧ g 38 0 p = g 17 0 p) : sr_PR f g p := ⟨vw, kd, op, ch, cb, cf, cc, kn, bk, co, hi, ho, fa, bi, bo, iv, ah, an, nu, fl, ki, dv, oh, gs, od, go, rd⟩

/-- the order in hand -/
def sr_hand (g : en_F) (p : Nat) : Option Nat := cx_fo (md_ohp g (nI p)) (md_oc g) 0
def sr_hst (g : en_F) (p : Nat) : Int32 := match sr_hand g p with
  | none => 0
  | some k => g 55 0 k
abbrev sr_E (g : en_F) (p : Nat) : Prop := g 43 0 p = g 26 0 p
abbrev sr_I (g : en_F) (p : Nat) : Prop := g 42 0 p = g 25 0 p
abbrev sr_H (g : en_F) (p : Nat) : Prop := ¬ g 28 0 p = 0
def sr_dw (w : Int32) : Int32 := if w = 0 then 1 else 2
def sr_IVs (g : en_F) (p : Nat) (w : Int32) (s c : Nat) : Prop :=
  (s = 0 ∧ (sr_H g p → ¬ sr_I g p) ∧ ((sr_E g p ∧ g 30 0 p = 0) ∨ (¬ sr_E g p ∧ g 30 0 p = sr_dw w ∧ g 32 0 p = nI c))) ∨
  (1 ≤ s ∧ s ≤ c ∧ ¬ w = 0 ∧ (sr_H g p → ¬ sr_I g p) ∧ g 30 0 p = 2 ∧ ((sr_E g p ∧ g 32 0 p = nI (c + 1 - s)) ∨ (¬ sr_E g p ∧ g 32 0 p = nI (c - s)))) ∨
  (1 ≤ s ∧ s ≤ c ∧ w = 0 ∧ sr_E g p ∧ g 30 0 p = 1 ∧ ((sr_I g p ∧ sr_H g p ∧ g 32 0 p = nI (c - s)) ∨ (¬ (sr_I g p ∧ sr_H g p) ∧ g 32 0 p = nI (c + 1 - s)))) ∨
  (s = c + 1 ∧ sr_E g p ∧ ((sr_I g p ∧ sr_H g p ∧ g 30 0 p = 0) ∨ (¬ (sr_I g p ∧ sr_H g p) ∧ g 30 0 p = sr_dw w ∧ g 32 0 p = 0)))
def sr_IV (g : en_F) (p : Nat) : Prop := (¬ sr_I g p → sr_H g p) ∧ match sr_hand g p with
  | none => sr_E g p ∧ g 30 0 p = 0 ∧ (sr_H g p → ¬ sr_I g p)
  | some k => ∃ s c : Nat, g 55 0 k = nI s ∧ g 52 0 k = nI c ∧ 1 ≤ c ∧ c ≤ 4 ∧ sr_IVs g p (g 50 0 k) s c
def sr_DP (f g : en_F) (p : Nat) : Prop := g 36 0 p = 3 → g 38 0 p = 1 → f 3 p 8 = sr_hst g p ∧ (¬ g 20 0 p = 0 → ¬ g 17 0 p = 0 → sr_IV g p)
/-- the losses ahead: a ring of 40 and a ring of 64 -/
def sr_t (g : en_F) : Nat := (g 16 0 44).toBitVec.toNat
def sr_LS (f g : en_F) : Prop := (∀ j, 1 ≤ j → j ≤ 40 → f 11 0 ((cx_ln f + j - 1) % 40) = g 60 0 ((sr_t g + j) % 64)) ∧ ∀ j, 41 ≤ j → j ≤ 64 → g 60 0 ((sr_t g + j) % 64) = 0
def sr_GR (f g : en_F) : Prop := (f 0 0 4 = g 16 0 31) ∧ (f 0 0 5 = g 16 0 30) ∧ (f 0 0 6 = g 16 0 29) ∧ (f 0 0 7 = g 16 0 46) ∧ (f 10 0 2 = g 16 0 44) ∧ (f 12 0 2 = g 16 0 41) ∧ (f 12 0 1 = g 16 0 41 &&& 7) ∧ (∀ i, i < 8 → f 13 0 i = g 59 0 i) ∧ (sr_LS f g) ∧ (∀ p, p < 6 → ∀ i, i < 8 → f 6 p i = g 33 0 (8 * p + i)) ∧ (∀ p, p < 6 → ∀ i, i < 4 → f 7 p i = g 35 0 (4 * p + i))
theorem sr_GR_oc (h : sr_GR f g) : f 0 0 4 = g 16 0 31 := h.1
theorem sr_GR_fr (h : sr_GR f g) : f 0 0 5 = g 16 0 30 := h.2.1
theorem sr_GR_sl (h : sr_GR f g) : f 0 0 6 = g 16 0 29 := h.2.2.1
theorem sr_GR_hp (h : sr_GR f g) : f 0 0 7 = g 16 0 46 := h.2.2.2.1
theorem sr_GR_tr (h : sr_GR f g) : f 10 0 2 = g 16 0 44 := h.2.2.2.2.1
theorem sr_GR_ky (h : sr_GR f g) : f 12 0 2 = g 16 0 41 := h.2.2.2.2.2.1
theorem sr_GR_kx (h : sr_GR f g) : f 12 0 1 = g 16 0 41 &&& 7 := h.2.2.2.2.2.2.1
theorem sr_GR_la (h : sr_GR f g) : ∀ i, i < 8 → f 13 0 i = g 59 0 i := h.2.2.2.2.2.2.2.1
theorem sr_GR_ls (h : sr_GR f g) : sr_LS f g := h.2.2.2.2.2.2.2.2.1
theorem sr_GR_ct (h : sr_GR f g) : ∀ p, p < 6 → ∀ i, i < 8 → f 6 p i = g 33 0 (8 * p + i) := h.2.2.2.2.2.2.2.2.2.1
theorem sr_GR_cd (h : sr_GR f g) : ∀ p, p < 6 → ∀ i, i < 4 → f 7 p i = g 35 0 (4 * p + i) := h.2.2.2.2.2.2.2.2.2.2
theorem sr_GR_mk (oc : f 0 0 4 = g 16 0 31) (fr : f 0 0 5 = g 16 0 30) (sl : f 0 0 6 = g 16 0 29) (hp : f 0 0 7 = g 16 0 46) (tr : f 10 0 2 = g 16 0 44) (ky : f 12 0 2 = g 16 0 41) (kx : f 12 0 1 = g 16 0 41 &&& 7) (la : ∀ i, i < 8 → f 13 0 i = g 59 0 i) (ls : sr_LS f g) (ct : ∀ p, p < 6 → ∀ i, i < 8 → f 6 p i = g 33 0 (8 * p + i)) (cd : ∀ p, p < 6 → ∀ i, i < 4 → f 7 p i = g 35 0 (4 * p + i)) : sr_GR f g := ⟨oc, fr, sl, hp, tr, ky, kx, la, ls, ct, cd⟩

def sr_OR (f g : en_F) (k : Nat) : Prop := (k < md_oc g → f 8 k 2 = g 49 0 k ∧ f 8 k 3 = g 51 0 k ∧ f 8 k 4 = g 52 0 k ∧ f 8 k 5 = g 50 0 k ∧ f 8 k 6 = g 53 0 k ∧ f 8 k 7 = g 54 0 k) ∧ (f 8 k 1 = g 56 0 k) ∧ (∀ i, i < 4 → f 9 k i = g 57 0 (4 * k + i)) ∧ (md_oc g ≤ k → f 8 k 7 = 0) ∧ (k < md_oc g → g 54 0 k = 0 → ∃ p, p < 6 ∧ g 49 0 k = nI p ∧ g 36 0 p = 3 ∧ g 38 0 p = 1 ∧ (g 55 0 k = 0 ∨ sr_hand g p = some k)) ∧ (k < md_oc g → g 54 0 k = 0 → ∃ s c : Nat, g 55 0 k = nI s ∧ g 52 0 k = nI c ∧ s ≤ c + 1 ∧ 1 ≤ c ∧ c ≤ 4)
theorem sr_OR_ol (h : sr_OR f g k) : k < md_oc g → f 8 k 2 = g 49 0 k ∧ f 8 k 3 = g 51 0 k ∧ f 8 k 4 = g 52 0 k ∧ f 8 k 5 = g 50 0 k ∧ f 8 k 6 = g 53 0 k ∧ f 8 k 7 = g 54 0 k := h.1
theorem sr_OR_tk (h : sr_OR f g k) : f 8 k 1 = g 56 0 k := h.2.1
theorem sr_OR_nn (h : sr_OR f g k) : ∀ i, i < 4 → f 9 k i = g 57 0 (4 * k + i) := h.2.2.1
theorem sr_OR_nw (h : sr_OR f g k) : md_oc g ≤ k → f 8 k 7 = 0 := h.2.2.2.1
theorem sr_OR_lv (h : sr_OR f g k) : k < md_oc g → g 54 0 k = 0 → ∃ p, p < 6 ∧ g 49 0 k = nI p ∧ g 36 0 p = 3 ∧ g 38 0 p = 1 ∧ (g 55 0 k = 0 ∨ sr_hand g p = some k) := h.2.2.2.2.1
theorem sr_OR_sc (h : sr_OR f g k) : k < md_oc g → g 54 0 k = 0 → ∃ s c : Nat, g 55 0 k = nI s ∧ g 52 0 k = nI c ∧ s ≤ c + 1 ∧ 1 ≤ c ∧ c ≤ 4 := h.2.2.2.2.2
theorem sr_OR_mk (ol : k < md_oc g → f 8 k 2 = g 49 0 k ∧ f 8 k 3 = g 51 0 k ∧ f 8 k 4 = g 52 0 k ∧ f 8 k 5 = g 50 0 k ∧ f 8 k 6 = g 53 0 k ∧ f 8 k 7 = g 54 0 k) (tk : f 8 k 1 = g 56 0 k) (nn : ∀ i, i < 4 → f 9 k i = g 57 0 (4 * k + i)) (nw : md_oc g ≤ k → f 8 k 7 = 0) (lv : k < md_oc g → g 54 0 k = 0 → ∃ p, p < 6 ∧ g 49 0 k = nI p ∧ g 36 0 p = 3 ∧ g 38 0 p = 1 ∧ (g 55 0 k = 0 ∨ sr_hand g p = some k)) (sc : k < md_oc g → g 54 0 k = 0 → ∃ s c : Nat, g 55 0 k = nI s ∧ g 52 0 k = nI c ∧ s ≤ c + 1 ∧ 1 ≤ c ∧ c ≤ 4) : sr_OR f g k := ⟨ol, tk, nn, nw, lv, sc⟩

def sr_SR (f g : en_F) : Prop := (sr_GR f g) ∧ (∀ k, k < 16 → sr_OR f g k) ∧ (∀ p, p < 6 → sr_PR f g p) ∧ (∀ p, p < 6 → sr_DP f g p) ∧ (∀ p q, p < 6 → q < 6 → ¬ p = q → sr_has g p → sr_has g q → ¬ g 37 0 p = g 37 0 q) ∧ (∀ p q, p < 6 → q < 6 → g 36 0 p = 2 → g 36 0 q = 2 → p = q)
theorem sr_SR_gr (h : sr_SR f g) : sr_GR f g := h.1
theorem sr_SR_ors (h : sr_SR f g) : ∀ k, k < 16 → sr_OR f g k := h.2.1
theorem sr_SR_prs (h : sr_SR f g) : ∀ p, p < 6 → sr_PR f g p := h.2.2.1
theorem sr_SR_dps (h : sr_SR f g) : ∀ p, p < 6 → sr_DP f g p := h.2.2.2.1
theorem sr_SR_num (h : sr_SR f g) : ∀ p q, p < 6 → q < 6 → ¬ p = q → sr_has g p → sr_has g q → ¬ g 37 0 p = g 37 0 q := h.2.2.2.2.1
theorem sr_SR_one (h : sr_SR f g) : ∀ p q, p < 6 → q < 6 → g 36 0 p = 2 → g 36 0 q = 2 → p = q := h.2.2.2.2.2
theorem sr_SR_mk (gr : sr_GR f g) (ors : ∀ k, k < 16 → sr_OR f g k) (prs : ∀ p, p < 6 → sr_PR f g p) (dps : ∀ p, p < 6 → sr_DP f g p) (num : ∀ p q, p < 6 → q < 6 → ¬ p = q → sr_has g p → sr_has g q → ¬ g 37 0 p = g 37 0 q) (one : ∀ p q, p < 6 → q < 6 → g 36 0 p = 2 → g 36 0 q = 2 → p = q) : sr_SR f g := ⟨gr, ors, prs, dps, num, one⟩

abbrev sr_dk (k : Nat) : Prop := k = 17 ∨ k = 20 ∨ k = 25 ∨ k = 26 ∨ k = 28 ∨ k = 30 ∨ k = 32 ∨ k = 36 ∨ k = 38 ∨ k = 42 ∨ k = 43
abbrev sr_pk (k : Nat) : Prop := 17 ≤ k ∧ k ≤ 44 ∧ k ≠ 33 ∧ k ≠ 35
-- what a part of the relation reads
theorem sr_OD_o (h3 : ∀ j, f' 4 p j = f 4 p j) (h5 : ∀ j, f' 5 p j = f 5 p j) (hg : ∀ k, sr_pk k → g' k 0 p = g k 0 p) (h : sr_OD f g p) : sr_OD f' g' p := by
  unfold sr_OD at h ⊢
  simp only [h3, h5, hg 22 (by omega), hg 23 (by omega), hg 25 (by omega), hg 26 (by omega), hg 28 (by omega), hg 29 (by omega), hg 27 (by omega), hg 30 (by omega), hg 31 (by omega), hg 32 (by omega), hg 17 (by omega)]
  exact h
theorem sr_PR_o (h3 : ∀ j, f' 3 p j = f 3 p j) (h4 : ∀ j, f' 4 p j = f 4 p j) (h5 : ∀ j, f' 5 p j = f 5 p j) (hg : ∀ k, sr_pk k → g' k 0 p = g k 0 p) (hs : g' 16 0 28 = g 16 0 28 ∨ ¬ g 36 0 p = 2) (h : sr_PR f g p) : sr_PR f' g' p := by
  have hod := sr_PR_od h
  have hgo := sr_PR_go h
  have hgs := sr_PR_gs h
  have e36 := hg 36 (by omega)
  have e20 := hg 20 (by omega)
  have e17 := hg 17 (by omega)
  refine sr_PR_mk (by rw [h3, e36]; exact sr_PR_vw h) (by rw [h4, e17]; exact sr_PR_kd h) (by rw [h3, e20]; exact sr_PR_op h) (by rw [h3, hg 21 (by omega)]; exact sr_PR_ch h) (by rw [hg 21 (by omega)]; exact sr_PR_cb h) (by rw [h4, hg 24 (by omega)]; exact sr_PR_cf h) (by rw [h4, hg 34 (by omega)]; exact sr_PR_cc h) (by rw [h3, hg 38 (by omega)]; exact sr_PR_kn h) (by rw [h3, hg 39 (by omega)]; exact sr_PR_bk h) (by rw [h3, hg 41 (by omega)]; exact sr_PR_co h) (by rw [h3, hg 42 (by omega)]; exact sr_PR_hi h) (by rw [h3, hg 43 (by omega)]; exact sr_PR_ho h) (by rw [h3, hg 44 (by omega)]; exact sr_PR_fa h) (by rw [hg 42 (by omega)]; exact sr_PR_bi h) (by rw [hg 43 (by omega)]; exact sr_PR_bo h) (by rw [h3, hg 38 (by omega), hg 40 (by omega)]; exact sr_PR_iv h) (by unfold sr_has; rw [h3, e36, hg 37 (by omega)]; exact sr_PR_ah h) (by unfold sr_has; rw [h3, e36]; exact sr_PR_an h) (by unfold sr_has; rw [e36, hg 37 (by omega)]; exact sr_PR_nu h) (by unfold sr_has; rw [e36, hg 44 (by omega)]; exact sr_PR_fl h) (by rw [hg 38 (by omega), hg 41 (by omega)]; exact sr_PR_ki h) (by rw [e17, hg 18 (by omega), hg 19 (by omega), h4, h4, h5, h5]; exact sr_PR_dv h) (by unfold sr_has; rw [e20, e36]; exact sr_PR_oh h) ?_ (by rw [e20]; exact fun z => sr_OD_o h4 h5 hg (hod z)) ?_ (by rw [e20, e36, e17, hg 22 (by omega), hg 23 (by omega), hg 37 (by omega), hg 38 (by omega)]; exact sr_PR_rd h)
  · rw [e36, h3]
    intro z
    rcases hs with y | y
    · rw [y]; exact hgs z
    · exact absurd z y
  · rw [e20, e36]
    intro z1 z
    rcases hs with y | y
    · unfold sr_GO
      rw [y, hg 42 (by omega), hg 43 (by omega), hg 25 (by omega), hg 26 (by omega), hg 30 (by omega), hg 28 (by omega), e17, hg 22 (by omega), hg 23 (by omega), hg 37 (by omega), hg 38 (by omega)]
      exact hgo z1 z
    · exact absurd z y
theorem sr_hand_o (e9 : ∀ j, g' 49 0 j = g 49 0 j) (e4 : ∀ j, g' 54 0 j = g 54 0 j) (ec : g' 16 0 31 = g 16 0 31) : sr_hand g' p = sr_hand g p := by
  have e1 : md_ohp g' (nI p) = md_ohp g (nI p) := by
    funext k
    unfold md_ohp
    rw [e9, e4]
  unfold sr_hand md_oc
  rw [e1, ec]
theorem sr_hst_o (e9 : ∀ j, g' 49 0 j = g 49 0 j) (e4 : ∀ j, g' 54 0 j = g 54 0 j) (e5 : ∀ j, g' 55 0 j = g 55 0 j) (ec : g' 16 0 31 = g 16 0 31) : sr_hst g' p = sr_hst g p := by
  unfold sr_hst
  rw [sr_hand_o e9 e4 ec]
  cases sr_hand g p with
  | none => rfl
  | some k => exact e5 k
theorem sr_IVs_o {s c : Nat} (hg : ∀ k, sr_dk k → g' k 0 p = g k 0 p) (h : sr_IVs g p w s c) : sr_IVs g' p w s c := by
  unfold sr_IVs sr_H sr_I sr_E at h ⊢
  simp only [hg 28 (by omega), hg 42 (by omega), hg 25 (by omega), hg 43 (by omega), hg 26 (by omega), hg 30 (by omega), hg 32 (by omega)]
  exact h
theorem sr_IV_o (hg : ∀ k, sr_dk k → g' k 0 p = g k 0 p) (eo : ∀ k j, 49 ≤ k → k ≤ 57 → g' k 0 j = g k 0 j) (ec : g' 16 0 31 = g 16 0 31) (h : sr_IV g p) : sr_IV g' p := by
  unfold sr_IV at h ⊢
  rw [sr_hand_o (eo 49 · (by omega) (by omega)) (eo 54 · (by omega) (by omega)) ec]
  refine ⟨?_, ?_⟩
  · unfold sr_H sr_I
    rw [hg 28 (by omega), hg 42 (by omega), hg 25 (by omega)]
    exact h.1
  · have h2 := h.2
    cases hh : sr_hand g p with
    | none =>
      rw [hh] at h2
      dsimp only at h2 ⊢
      unfold sr_H sr_I sr_E
      rw [hg 28 (by omega), hg 42 (by omega), hg 25 (by omega), hg 43 (by omega), hg 26 (by omega), hg 30 (by omega)]
      exact h2
    | some k =>
      rw [hh] at h2
      dsimp only at h2 ⊢
      obtain ⟨s, c, h3, h4, h5, h6, h7⟩ := h2
      exact ⟨s, c, by rw [eo 55 k (by omega) (by omega)]; exact h3, by rw [eo 52 k (by omega) (by omega)]; exact h4, h5, h6, by rw [eo 50 k (by omega) (by omega)]; exact sr_IVs_o hg h7⟩
theorem sr_DP_o (h3 : f' 3 p 8 = f 3 p 8) (hg : ∀ k, sr_dk k → g' k 0 p = g k 0 p) (eo : ∀ k j, 49 ≤ k → k ≤ 57 → g' k 0 j = g k 0 j) (ec : g' 16 0 31 = g 16 0 31) (h : sr_DP f g p) : sr_DP f' g' p := by
  unfold sr_DP at h ⊢
  rw [hg 36 (by omega), hg 38 (by omega), hg 20 (by omega), hg 17 (by omega), h3, sr_hst_o (eo 49 · (by omega) (by omega)) (eo 54 · (by omega) (by omega)) (eo 55 · (by omega) (by omega)) ec]
  exact fun z1 z2 => ⟨(h z1 z2).1, fun z3 z4 => sr_IV_o hg eo ec ((h z1 z2).2 z3 z4)⟩
theorem sr_OR_o (h8 : ∀ j, f' 8 k j = f 8 k j) (h9 : ∀ j, f' 9 k j = f 9 k j) (eo : ∀ k j, 49 ≤ k → k ≤ 57 → g' k 0 j = g k 0 j) (ec : g' 16 0 31 = g 16 0 31) (hv : ∀ p, p < 6 → g 49 0 k = nI p → g 36 0 p = 3 → g 38 0 p = 1 → k < md_oc g → g 54 0 k = 0 → g' 36 0 p = 3 ∧ g' 38 0 p = 1) (h : sr_OR f g k) : sr_OR f' g' k := by
  have hoc : md_oc g' = md_oc g := by unfold md_oc; rw [ec]
  refine sr_OR_mk ?_ ?_ ?_ ?_ ?_ ?_
  · rw [hoc, h8, h8, h8, h8, h8, h8, eo 49 k (by omega) (by omega), eo 50 k (by omega) (by omega), eo 51 k (by omega) (by omega), eo 52 k (by omega) (by omega), eo 53 k (by omega) (by omega), eo 54 k (by omega) (by omega)]
    exact sr_OR_ol h
  · rw [h8, eo 56 k (by omega) (by omega)]; exact sr_OR_tk h
  · intro i hi
    rw [h9, eo 57 _ (by omega) (by omega)]; exact sr_OR_nn h i hi
  · rw [hoc, h8]; exact sr_OR_nw h
  · rw [hoc, eo 54 k (by omega) (by omega)]
    intro z1 z2
    obtain ⟨p, hp, h1, h2, h3, h4⟩ := sr_OR_lv h z1 z2
    obtain ⟨y1, y2⟩ := hv p hp h1 h2 h3 z1 z2
    refine ⟨p, hp, by rw [eo 49 k (by omega) (by omega)]; exact h1, y1, y2, ?_⟩
    rw [eo 55 k (by omega) (by omega), sr_hand_o (eo 49 · (by omega) (by omega)) (eo 54 · (by omega) (by omega)) ec]
    exact h4
  · rw [hoc, eo 54 k (by omega) (by omega), eo 55 k (by omega) (by omega), eo 52 k (by omega) (by omega)]
    exact sr_OR_sc h
theorem sr_LS_o (h11 : ∀ j, f' 11 0 j = f 11 0 j) (h10 : f' 10 0 1 = f 10 0 1) (h60 : ∀ j, g' 60 0 j = g 60 0 j) (h44 : g' 16 0 44 = g 16 0 44) (h : sr_LS f g) : sr_LS f' g' := by
  unfold sr_LS sr_t cx_ln at h ⊢
  rw [h44, h10]
  simp only [h11, h60]
  exact h
/-- one port changes -/
theorem sr_port (R : sr_SR f g) (hq : q < 6) (ef : ∀ k i j, ¬ ((k = 3 ∨ k = 4 ∨ k = 5) ∧ i = q) → f' k i j = f k i j) (eg : ∀ k j, ¬ (sr_pk k ∧ j = q) → ¬ (k = 16 ∧ j = 28) → g' k 0 j = g k 0 j) (es : g' 16 0 28 = g 16 0 28 ∨ ∀ p, p < 6 → ¬ p = q → ¬ g 36 0 p = 2) (hp : sr_PR f' g' q) (hd : sr_DP f' g' q) (hn : sr_has g' q → ∀ p, p < 6 → ¬ p = q → sr_has g p → ¬ g 37 0 p = g' 37 0 q) (hg : g' 36 0 q = 2 → ∀ p, p < 6 → ¬ p = q → ¬ g 36 0 p = 2) (ho : (g' 36 0 q = 3 ∧ g' 38 0 q = 1) ∨ ∀ k, k < md_oc g → g 54 0 k = 0 → ¬ g 49 0 k = nI q) : sr_SR f' g' := by
  have G := sr_SR_gr R
  have eo : ∀ k j, 49 ≤ k → k ≤ 57 → g' k 0 j = g k 0 j := fun k j h1 h2 => eg k j (by omega) (by omega)
  have ec : g' 16 0 31 = g 16 0 31 := eg _ _ (by omega) (by omega)
  have ev : ∀ p, ¬ p = q → ∀ k, sr_pk k → g' k 0 p = g k 0 p := fun p h k hk => eg k p (fun z => h z.2) (by omega)
  refine sr_SR_mk (sr_GR_mk ?_ ?_ ?_ ?_ ?_ ?_ ?_ ?_ ?_ ?_ ?_) (fun k hk => ?_) (fun p h6 => ?_) (fun p h6 => ?_) ?_ ?_
  · rw [ef _ _ _ (by omega), ec]; exact sr_GR_oc G
  · rw [ef _ _ _ (by omega), eg _ _ (by omega) (by omega)]; exact sr_GR_fr G
  · rw [ef _ _ _ (by omega), eg _ _ (by omega) (by omega)]; exact sr_GR_sl G
  · rw [ef _ _ _ (by omega), eg _ _ (by omega) (by omega)]; exact sr_GR_hp G
  · rw [ef _ _ _ (by omega), eg _ _ (by omega) (by omega)]; exact sr_GR_tr G
  · rw [ef _ _ _ (by omega), eg _ _ (by omega) (by omega)]; exact sr_GR_ky G
  · rw [ef _ _ _ (by omega), eg _ _ (by omega) (by omega)]; exact sr_GR_kx G
  · intro i hi; rw [ef _ _ _ (by omega), eg _ _ (by omega) (by omega)]; exact sr_GR_la G i hi
  · exact sr_LS_o (fun j => ef _ _ _ (by omega)) (ef _ _ _ (by omega)) (fun j => eg _ _ (by omega) (by omega)) (eg _ _ (by omega) (by omega)) (sr_GR_ls G)
  · intro p h6 i hi; rw [ef _ _ _ (by omega), eg _ _ (by omega) (by omega)]; exact sr_GR_ct G p h6 i hi
  · intro p h6 i hi; rw [ef _ _ _ (by omega), eg _ _ (by omega) (by omega)]; exact sr_GR_cd G p h6 i hi
  · refine sr_OR_o (fun j => ef _ _ _ (by omega)) (fun j => ef _ _ _ (by omega)) eo ec (fun p h6 h1 h2 h3 h4 h5 => ?_) (sr_SR_ors R k hk)
    by_cases hpq : p = q
    · subst hpq
      rcases ho with y | y
      · exact y
      · exact absurd h1 (y k h4 h5)
    · rw [ev p hpq 36 (by omega), ev p hpq 38 (by omega)]; exact ⟨h2, h3⟩
  · by_cases hpq : p = q
    · subst hpq; exact hp
    · refine sr_PR_o (fun j => ef _ _ _ (by omega)) (fun j => ef _ _ _ (by omega)) (fun j => ef _ _ _ (by omega)) (ev p hpq) ?_ (sr_SR_prs R p h6)
      rcases es with y | y
      · exact Or.inl y
      · exact Or.inr (y p h6 hpq)
  · by_cases hpq : p = q
    · subst hpq; exact hd
    · exact sr_DP_o (ef _ _ _ (by omega)) (fun k hk => ev p hpq k (by omega)) eo ec (sr_SR_dps R p h6)
  · intro p r h6 h7 hne h1 h2
    by_cases hpq : p = q
    · subst hpq
      have hr : ¬ r = p := fun z => hne z.symm
      unfold sr_has at h2
      rw [ev r hr 36 (by omega)] at h2
      rw [ev r hr 37 (by omega)]
      exact fun z => hn h1 r h7 hr h2 z.symm
    · unfold sr_has at h1
      rw [ev p hpq 36 (by omega)] at h1
      rw [ev p hpq 37 (by omega)]
      by_cases hrq : r = q
      · subst hrq; exact hn h2 p h6 hpq h1
      · unfold sr_has at h2
        rw [ev r hrq 36 (by omega)] at h2
        rw [ev r hrq 37 (by omega)]
        exact sr_SR_num R p r h6 h7 hne h1 h2
  · intro p r h6 h7 h1 h2
    by_cases hpq : p = q
    · by_cases hrq : r = q
      · omega
      · subst hpq
        rw [ev r hrq 36 (by omega)] at h2
        exact absurd h2 (hg h1 r h7 hrq)
    · rw [ev p hpq 36 (by omega)] at h1
      by_cases hrq : r = q
      · subst hrq; exact absurd h1 (hg h2 p h6 hpq)
      · rw [ev r hrq 36 (by omega)] at h2
        exact sr_SR_one R p r h6 h7 h1 h2
/-- nothing of ports and orders changes -/
theorem sr_glob (R : sr_SR f g) (ef : ∀ k i j, (k = 3 ∨ k = 4 ∨ k = 5 ∨ k = 8 ∨ k = 9) → f' k i j = f k i j) (eg : ∀ k j, (sr_pk k ∨ (49 ≤ k ∧ k ≤ 57) ∨ (k = 16 ∧ (j = 28 ∨ j = 31))) → g' k 0 j = g k 0 j) (G : sr_GR f' g') : sr_SR f' g' := by
  have eo : ∀ k j, 49 ≤ k → k ≤ 57 → g' k 0 j = g k 0 j := fun k j h1 h2 => eg k j (by omega)
  have ec : g' 16 0 31 = g 16 0 31 := eg _ _ (by omega)
  have ev : ∀ p, ∀ k, sr_pk k → g' k 0 p = g k 0 p := fun p k hk => eg k p (Or.inl hk)
  refine sr_SR_mk G (fun k hk => ?_) (fun p h6 => ?_) (fun p h6 => ?_) ?_ ?_
  · exact sr_OR_o (fun j => ef _ _ _ (by omega)) (fun j => ef _ _ _ (by omega)) eo ec (fun p h6 h1 h2 h3 _ _ => by rw [ev p 36 (by omega), ev p 38 (by omega)]; exact ⟨h2, h3⟩) (sr_SR_ors R k hk)
  · exact sr_PR_o (fun j => ef _ _ _ (by omega)) (fun j => ef _ _ _ (by omega)) (fun j => ef _ _ _ (by omega)) (ev p) (Or.inl (eg _ _ (by omega))) (sr_SR_prs R p h6)
  · exact sr_DP_o (ef _ _ _ (by omega)) (fun k hk => ev p k (by omega)) eo ec (sr_SR_dps R p h6)
  · intro p r h6 h7 hne h1 h2
    unfold sr_has at h1 h2
    rw [ev p 36 (by omega)] at h1
    rw [ev r 36 (by omega)] at h2
    rw [ev p 37 (by omega), ev r 37 (by omega)]
    exact sr_SR_num R p r h6 h7 hne h1 h2
  · intro p r h6 h7 h1 h2
    rw [ev p 36 (by omega)] at h1
    rw [ev r 36 (by omega)] at h2
    exact sr_SR_one R p r h6 h7 h1 h2
end Sr1
