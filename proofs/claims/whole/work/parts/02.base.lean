/-! THE ENGINE, first part: a small machine of numbers. A value is an int or a cell (kind, place); a state is two tables of ints (kinds below 16: the class; the others: the reference). -/
abbrev en_V : Type := Int32 ⊕ (Nat × Nat)
abbrev en_F : Type := Nat → Nat → Nat → Int32
abbrev en_T : Type := en_F × en_F
abbrev en_L : Type := List (Option en_V)
/-- scripts that are there (0 or 1), the script's length, its ints -/
abbrev en_S : Type := Nat × Nat × (Nat → Int32)
def en_s0 : en_S := (0, 0, fun _ => 0)
def en_up (f : en_F) (k i j : Nat) (x : Int32) : en_F := fun k' i' j' => if k' = k ∧ i' = i ∧ j' = j then x else f k' i' j'
def en_gt (f : en_T) (k i j : Nat) : Int32 := if k < 16 then f.1 k i j else f.2 k i j
def en_st (f : en_T) (k i j : Nat) (x : Int32) : en_T := if k < 16 then (en_up f.1 k i j x, f.2) else (f.1, en_up f.2 k i j x)
/-- what a step gives: the next point; an answer; a call (method, arguments, rest of the stack, where it goes on) -/
abbrev en_Rs : Type := (Nat × en_L × List en_V × en_T) ⊕ (Option en_V ⊕ (Nat × List en_V × List en_V × Nat))
def en_isz (x : Int32) : Bool := x == 0 || x == 1
def en_inr (x : Int32) (n : Nat) : Bool := !(decide (x < 0)) && !(decide (n ≤ x.toNatClampNeg))

def en_g (len L : Nat) (x : Option en_Rs) : Option en_Rs := if len = L then x else none
def en_nx (pc : Nat) (lo : en_L) (st : List en_V) (f : en_T) : Option en_Rs := some (.inl (pc, lo, st, f))
def en_jp (pc : Nat) (off : Int) (lo : en_L) (st : List en_V) (f : en_T) : Option en_Rs :=
  if 0 ≤ (pc : Int) + off then some (.inl (((pc : Int) + off).toNat, lo, st, f)) else none
def en_ild (pc : Nat) (lo : en_L) (st : List en_V) (f : en_T) (i : Nat) : Option en_Rs := match lo[i]? with
  | some (some (.inl x)) => some (.inl (pc, lo, .inl x :: st, f))
  | _ => none
def en_ald (pc : Nat) (lo : en_L) (st : List en_V) (f : en_T) (i : Nat) : Option en_Rs := match lo[i]? with
  | some (some (.inr q)) => some (.inl (pc, lo, .inr q :: st, f))
  | _ => none
def en_ist (pc : Nat) (lo : en_L) (st : List en_V) (f : en_T) (i : Nat) : Option en_Rs := match st with
  | .inl x :: r => if i < lo.length then some (.inl (pc, lo.set i (some (.inl x)), r, f)) else none
  | _ => none
def en_ast (pc : Nat) (lo : en_L) (st : List en_V) (f : en_T) (i : Nat) : Option en_Rs := match st with
  | .inr q :: r => if i < lo.length then some (.inl (pc, lo.set i (some (.inr q)), r, f)) else none
  | _ => none
def en_inc (pc : Nat) (lo : en_L) (st : List en_V) (f : en_T) (i : Nat) (n : Int) : Option en_Rs := match lo[i]? with
  | some (some (.inl x)) => some (.inl (pc, lo.set i (some (.inl (x + Int32.ofInt n))), st, f))
  | _ => none
def en_b2 (pc : Nat) (lo : en_L) (st : List en_V) (f : en_T) (op : Int32 → Int32 → Int32) : Option en_Rs := match st with
  | .inl b :: .inl a :: r => some (.inl (pc, lo, .inl (op a b) :: r, f))
  | _ => none
def en_bd (pc : Nat) (lo : en_L) (st : List en_V) (f : en_T) (op : Int32 → Int32 → Int32) : Option en_Rs := match st with
  | .inl b :: .inl a :: r => if b = 0 then none else some (.inl (pc, lo, .inl (op a b) :: r, f))
  | _ => none
def en_u1 (pc : Nat) (lo : en_L) (st : List en_V) (f : en_T) (op : Int32 → Int32) : Option en_Rs := match st with
  | .inl a :: r => some (.inl (pc, lo, .inl (op a) :: r, f))
  | _ => none
def en_if (pc : Nat) (off : Int) (lo : en_L) (st : List en_V) (f : en_T) (q : Int32 → Option en_Rs → Option en_Rs → Option en_Rs) : Option en_Rs := match st with
  | .inl a :: r => if 0 ≤ (pc : Int) + off then q a (en_nx ((pc : Int) + off).toNat lo r f) (en_nx (pc + 3) lo r f) else none
  | _ => none
def en_ic (pc : Nat) (off : Int) (lo : en_L) (st : List en_V) (f : en_T) (q : Int32 → Int32 → Option en_Rs → Option en_Rs → Option en_Rs) : Option en_Rs := match st with
  | .inl b :: .inl a :: r => if 0 ≤ (pc : Int) + off then q a b (en_nx ((pc : Int) + off).toNat lo r f) (en_nx (pc + 3) lo r f) else none
  | _ => none
def en_dup (pc : Nat) (lo : en_L) (st : List en_V) (f : en_T) : Option en_Rs := match st with
  | a :: r => some (.inl (pc, lo, a :: a :: r, f))
  | _ => none
def en_dupx (pc : Nat) (lo : en_L) (st : List en_V) (f : en_T) : Option en_Rs := match st with
  | a :: b :: r => some (.inl (pc, lo, a :: b :: a :: r, f))
  | _ => none
def en_dup2 (pc : Nat) (lo : en_L) (st : List en_V) (f : en_T) : Option en_Rs := match st with
  | a :: b :: r => some (.inl (pc, lo, a :: b :: a :: b :: r, f))
  | _ => none
def en_pop (pc : Nat) (lo : en_L) (st : List en_V) (f : en_T) : Option en_Rs := match st with
  | _ :: r => some (.inl (pc, lo, r, f))
  | _ => none

/-! THE TABLES (by program out of the listing): classes, fields, kinds of cells, methods and their code, and the places of the words in lw_tbl -/
abbrev en_I : Type := Instr × Nat × Nat × Nat
def en_cn : Nat → String := fun o => ["PluggedBus", "PluggedBus$Port", "PluggedBus$Device", "PluggedBus$Disk", "PluggedBus$Order", "PluggedBus$Line", "PluggedBus$KeyLog", "PluggedBusModel", "PluggedBusLaw"].getD o ""
def en_Ft0 : u_T := fun k => [("PluggedBus", "ports", "[LPluggedBus$Port;", true), ("PluggedBus", "orders", "[LPluggedBus$Order;", true), ("PluggedBus", "line", "LPluggedBus$Line;", true), ("PluggedBus", "keyLog", "LPluggedBus$KeyLog;", true), ("PluggedBus", "orderCount", "I", false), ("PluggedBus", "frameNumber", "I", false), ("PluggedBus", "servedLast", "I", false), ("PluggedBus", "heardPacket", "I", false)].getD k ("", "", "", true)
def en_ty0 : Nat → FieldType := fun k => [.array (.object "PluggedBus$Port"), .array (.object "PluggedBus$Order"), .object "PluggedBus$Line", .object "PluggedBus$KeyLog", .int, .int, .int, .int].getD k .int
def en_Ft1 : u_T := fun k => [("PluggedBus$Port", "device", "LPluggedBus$Device;", true), ("PluggedBus$Port", "open", "Z", false), ("PluggedBus$Port", "changed", "Z", false), ("PluggedBus$Port", "view", "I", false), ("PluggedBus$Port", "address", "I", false), ("PluggedBus$Port", "inToggle", "I", false), ("PluggedBus$Port", "outToggle", "I", false), ("PluggedBus$Port", "faults", "I", false), ("PluggedBus$Port", "step", "I", false), ("PluggedBus$Port", "kind", "I", false), ("PluggedBus$Port", "blocks", "I", false), ("PluggedBus$Port", "interval", "I", false), ("PluggedBus$Port", "cost", "I", false)].getD k ("", "", "", true)
def en_ty1 : Nat → FieldType := fun k => [.object "PluggedBus$Device", .boolean, .boolean, .int, .int, .int, .int, .int, .int, .int, .int, .int, .int].getD k .int
def en_Ft2 : u_T := fun k => [("PluggedBus$Device", "disk", "LPluggedBus$Disk;", true), ("PluggedBus$Device", "codes", "[I", true), ("PluggedBus$Device", "codeCount", "I", false), ("PluggedBus$Device", "kind", "I", false), ("PluggedBus$Device", "interval", "I", false), ("PluggedBus$Device", "cost", "I", false), ("PluggedBus$Device", "ownAddress", "I", false), ("PluggedBus$Device", "setupAddress", "I", false), ("PluggedBus$Device", "configured", "Z", false), ("PluggedBus$Device", "inToggle", "I", false), ("PluggedBus$Device", "outToggle", "I", false), ("PluggedBus$Device", "holds", "Z", false), ("PluggedBus$Device", "packet", "I", false)].getD k ("", "", "", true)
def en_ty2 : Nat → FieldType := fun k => [.object "PluggedBus$Disk", .array .int, .int, .int, .int, .int, .int, .int, .boolean, .int, .int, .boolean, .int].getD k .int
def en_Ft3 : u_T := fun k => [("PluggedBus$Disk", "content", "[I", true), ("PluggedBus$Disk", "size", "I", false), ("PluggedBus$Disk", "delay", "I", false), ("PluggedBus$Disk", "busy", "I", false), ("PluggedBus$Disk", "work", "I", false), ("PluggedBus$Disk", "at", "I", false), ("PluggedBus$Disk", "left", "I", false)].getD k ("", "", "", true)
def en_ty3 : Nat → FieldType := fun k => [.array .int, .int, .int, .int, .int, .int, .int].getD k .int
def en_Ft4 : u_T := fun k => [("PluggedBus$Order", "numbers", "[I", true), ("PluggedBus$Order", "taken", "I", false), ("PluggedBus$Order", "port", "I", false), ("PluggedBus$Order", "block", "I", false), ("PluggedBus$Order", "count", "I", false), ("PluggedBus$Order", "writes", "Z", false), ("PluggedBus$Order", "value", "I", false), ("PluggedBus$Order", "state", "I", false)].getD k ("", "", "", true)
def en_ty4 : Nat → FieldType := fun k => [.array .int, .int, .int, .int, .int, .boolean, .int, .int].getD k .int
def en_Ft5 : u_T := fun k => [("PluggedBus$Line", "losses", "[I", true), ("PluggedBus$Line", "nextAt", "I", false), ("PluggedBus$Line", "made", "I", false)].getD k ("", "", "", true)
def en_ty5 : Nat → FieldType := fun k => [.array .int, .int, .int].getD k .int
def en_Ft6 : u_T := fun k => [("PluggedBus$KeyLog", "recentKeys", "[I", true), ("PluggedBus$KeyLog", "nextAt", "I", false), ("PluggedBus$KeyLog", "count", "I", false)].getD k ("", "", "", true)
def en_ty6 : Nat → FieldType := fun k => [.array .int, .int, .int].getD k .int
def en_Ft7 : u_T := fun k => [("PluggedBusModel", "kind", "[I", true), ("PluggedBusModel", "first", "[I", true), ("PluggedBusModel", "second", "[I", true), ("PluggedBusModel", "open", "[Z", true), ("PluggedBusModel", "changed", "[Z", true), ("PluggedBusModel", "listens", "[I", true), ("PluggedBusModel", "setupAt", "[I", true), ("PluggedBusModel", "configured", "[Z", true), ("PluggedBusModel", "inSide", "[I", true), ("PluggedBusModel", "outSide", "[I", true), ("PluggedBusModel", "busy", "[I", true), ("PluggedBusModel", "holds", "[Z", true), ("PluggedBusModel", "held", "[I", true), ("PluggedBusModel", "doing", "[I", true), ("PluggedBusModel", "next", "[I", true), ("PluggedBusModel", "left", "[I", true), ("PluggedBusModel", "block", "[I", true), ("PluggedBusModel", "codes", "[I", true), ("PluggedBusModel", "code", "[I", true), ("PluggedBusModel", "view", "[I", true), ("PluggedBusModel", "number", "[I", true), ("PluggedBusModel", "known", "[I", true), ("PluggedBusModel", "blocks", "[I", true), ("PluggedBusModel", "interval", "[I", true), ("PluggedBusModel", "cost", "[I", true), ("PluggedBusModel", "hostIn", "[I", true), ("PluggedBusModel", "hostOut", "[I", true), ("PluggedBusModel", "faults", "[I", true), ("PluggedBusModel", "step", "I", false), ("PluggedBusModel", "served", "I", false), ("PluggedBusModel", "frame", "I", false), ("PluggedBusModel", "orders", "I", false), ("PluggedBusModel", "orderPort", "[I", true), ("PluggedBusModel", "writes", "[Z", true), ("PluggedBusModel", "orderBlock", "[I", true), ("PluggedBusModel", "orderCount", "[I", true), ("PluggedBusModel", "orderValue", "[I", true), ("PluggedBusModel", "orderEnd", "[I", true), ("PluggedBusModel", "orderStep", "[I", true), ("PluggedBusModel", "taken", "[I", true), ("PluggedBusModel", "numbers", "[I", true), ("PluggedBusModel", "keys", "I", false), ("PluggedBusModel", "latest", "[I", true), ("PluggedBusModel", "losses", "[I", true), ("PluggedBusModel", "transactions", "I", false), ("PluggedBusModel", "lost", "I", false), ("PluggedBusModel", "packet", "I", false)].getD k ("", "", "", true)
def en_ty7 : Nat → FieldType := fun k => [.array .int, .array .int, .array .int, .array .boolean, .array .boolean, .array .int, .array .int, .array .boolean, .array .int, .array .int, .array .int, .array .boolean, .array .int, .array .int, .array .int, .array .int, .array .int, .array .int, .array .int, .array .int, .array .int, .array .int, .array .int, .array .int, .array .int, .array .int, .array .int, .array .int, .int, .int, .int, .int, .array .int, .array .boolean, .array .int, .array .int, .array .int, .array .int, .array .int, .array .int, .array .int, .int, .array .int, .array .int, .int, .int, .int].getD k .int
def en_Ft : Nat → u_T := fun c => [en_Ft0, en_Ft1, en_Ft2, en_Ft3, en_Ft4, en_Ft5, en_Ft6, en_Ft7].getD c (fun _ => ("", "", "", true))
def en_ty : Nat → Nat → FieldType := fun c => [en_ty0, en_ty1, en_ty2, en_ty3, en_ty4, en_ty5, en_ty6, en_ty7].getD c (fun _ => .int)
def en_N : Nat → Nat := fun c => [8, 13, 13, 7, 8, 3, 3, 47].getD c 0
def en_cl : List vw_C := [(en_cn 0, en_Ft 0, en_N 0), (en_cn 1, en_Ft 1, en_N 1), (en_cn 2, en_Ft 2, en_N 2), (en_cn 3, en_Ft 3, en_N 3), (en_cn 4, en_Ft 4, en_N 4), (en_cn 5, en_Ft 5, en_N 5), (en_cn 6, en_Ft 6, en_N 6), (en_cn 7, en_Ft 7, en_N 7)]
def en_kt : Nat → Nat := fun k => [0, 3, 3, 0, 0, 0, 1, 1, 0, 1, 0, 1, 0, 1, 9, 9, 0, 1, 1, 1, 2, 2, 1, 1, 2, 1, 1, 1, 2, 1, 1, 1, 1, 1, 1, 1, 1, 1, 1, 1, 1, 1, 1, 1, 1, 9, 9, 9, 9, 1, 2, 1, 1, 1, 1, 1, 1, 1, 9, 1, 1].getD k 9
def en_cntL : List Nat := [1, 1, 1, 6, 6, 6, 6, 6, 16, 16, 1, 1, 1, 1, 0, 0, 1, 1, 1, 1, 1, 1, 1, 1, 1, 1, 1, 1, 1, 1, 1, 1, 1, 1, 1, 1, 1, 1, 1, 1, 1, 1, 1, 1, 1, 0, 0, 0, 0, 1, 1, 1, 1, 1, 1, 1, 1, 1, 0, 1, 1]
def en_cnt : Nat → Nat := fun k => en_cntL.getD k 0
def en_ln : Nat → Nat := fun k => [0, 6, 16, 0, 0, 0, 8, 4, 0, 4, 0, 40, 0, 8, 0, 0, 0, 6, 6, 6, 6, 6, 6, 6, 6, 6, 6, 6, 6, 6, 6, 6, 6, 48, 6, 24, 6, 6, 6, 6, 6, 6, 6, 6, 6, 0, 0, 0, 0, 16, 16, 16, 16, 16, 16, 16, 16, 64, 0, 8, 64].getD k 0
def en_kc : Nat → Nat := fun k => [0, 0, 0, 1, 2, 3, 0, 0, 4, 0, 5, 0, 6, 0, 0, 0, 7].getD k 0
def en_tk : Nat → Nat := fun k => [0, 3, 8].getD k 0
def en_to : Nat → String := fun k => ["", "PluggedBus$Port", "PluggedBus$Order"].getD k ""
def en_frL : List (List (Option Nat)) := [[some 1, some 2, some 10, some 12, none, none, none, none], [], [], [some 4, none, none, none, none, none, none, none, none, none, none, none, none], [some 5, some 7, none, none, none, none, none, none, none, none, none, none, none], [some 6, none, none, none, none, none, none], [], [], [some 9, none, none, none, none, none, none, none], [], [some 11, none, none], [], [some 13, none, none], [], [], [], [some 17, some 18, some 19, some 20, some 21, some 22, some 23, some 24, some 25, some 26, some 27, some 28, some 29, some 30, some 31, some 32, some 33, some 34, some 35, some 36, some 37, some 38, some 39, some 40, some 41, some 42, some 43, some 44, none, none, none, none, some 49, some 50, some 51, some 52, some 53, some 54, some 55, some 56, some 57, none, some 59, some 60, none, none, none]]
def en_fr (k j : Nat) : Option Nat := ((en_frL.getD k []).getD j none)
def en_pwL : List (List Nat) := [[0, 0, 0, 0, 1, 1, 1, 1], [], [], [0, 2, 2, 1, 1, 1, 1, 1, 1, 1, 1, 1, 1], [0, 0, 1, 1, 1, 1, 1, 1, 2, 1, 1, 2, 1], [0, 1, 1, 1, 1, 1, 1], [], [], [0, 1, 1, 1, 1, 2, 1, 1], [], [0, 1, 1], [], [0, 1, 1], [], [], [], [0, 0, 0, 0, 0, 0, 0, 0, 0, 0, 0, 0, 0, 0, 0, 0, 0, 0, 0, 0, 0, 0, 0, 0, 0, 0, 0, 0, 1, 1, 1, 1, 0, 0, 0, 0, 0, 0, 0, 0, 0, 1, 0, 0, 1, 1, 1]]
def en_pw (k j : Nat) : Nat := (en_pwL.getD k []).getD j 0
def en_allc : List (Nat × Nat) := (List.range 63).flatMap fun k => (List.range (en_cnt k)).map fun i => (k, i)
abbrev en_Me : Type := MethodName × ByteArray × (Nat × Nat × Nat × Bool × Nat × Nat) × List (Nat × en_I)
