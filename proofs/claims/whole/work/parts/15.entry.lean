/-! ENTRIES of the methods (by program), and rows for running -/
theorem en_Ev_e {d y n : Nat} {a : List en_V} {f : en_T} {Q : en_Q} (hm : en_mL y = n) (h : a.length ≤ n) : en_Ev (d + 1) y a f Q = en_R en_s0 y d Q 0 (a.map some ++ List.replicate (n - a.length) none) [] f := by
  subst hm
  exact en_Ev_s h
section EnEntry
variable {d : Nat} {f : en_T} {Q : en_Q} {u0 u1 u2 u3 u4 u5 : en_V}
theorem e0 : en_Ev (d + 1) 0 [u0, u1, u2] f Q = en_R en_s0 0 d Q 0 [some u0, some u1, some u2, none] [] f := en_Ev_e (a := [u0, u1, u2]) (show en_mL 0 = 4 by decide +kernel) (show 3 ≤ 4 by decide)
theorem e1 : en_Ev (d + 1) 1 [u0] f Q = en_R en_s0 1 d Q 0 [some u0] [] f := en_Ev_e (a := [u0]) (show en_mL 1 = 1 by decide +kernel) (show 1 ≤ 1 by decide)
theorem e2 : en_Ev (d + 1) 2 [u0, u1] f Q = en_R en_s0 2 d Q 0 [some u0, some u1] [] f := en_Ev_e (a := [u0, u1]) (show en_mL 2 = 2 by decide +kernel) (show 2 ≤ 2 by decide)
theorem e3 : en_Ev (d + 1) 3 [u0] f Q = en_R en_s0 3 d Q 0 [some u0] [] f := en_Ev_e (a := [u0]) (show en_mL 3 = 1 by decide +kernel) (show 1 ≤ 1 by decide)
theorem e4 : en_Ev (d + 1) 4 [u0] f Q = en_R en_s0 4 d Q 0 [some u0] [] f := en_Ev_e (a := [u0]) (show en_mL 4 = 1 by decide +kernel) (show 1 ≤ 1 by decide)
theorem e5 : en_Ev (d + 1) 5 [u0, u1] f Q = en_R en_s0 5 d Q 0 [some u0, some u1] [] f := en_Ev_e (a := [u0, u1]) (show en_mL 5 = 2 by decide +kernel) (show 2 ≤ 2 by decide)
theorem e6 : en_Ev (d + 1) 6 [u0, u1] f Q = en_R en_s0 6 d Q 0 [some u0, some u1] [] f := en_Ev_e (a := [u0, u1]) (show en_mL 6 = 2 by decide +kernel) (show 2 ≤ 2 by decide)
theorem e7 : en_Ev (d + 1) 7 [u0] f Q = en_R en_s0 7 d Q 0 [some u0, none] [] f := en_Ev_e (a := [u0]) (show en_mL 7 = 2 by decide +kernel) (show 1 ≤ 2 by decide)
theorem e8 : en_Ev (d + 1) 8 [u0, u1] f Q = en_R en_s0 8 d Q 0 [some u0, some u1] [] f := en_Ev_e (a := [u0, u1]) (show en_mL 8 = 2 by decide +kernel) (show 2 ≤ 2 by decide)
theorem e9 : en_Ev (d + 1) 9 [u0, u1] f Q = en_R en_s0 9 d Q 0 [some u0, some u1] [] f := en_Ev_e (a := [u0, u1]) (show en_mL 9 = 2 by decide +kernel) (show 2 ≤ 2 by decide)
theorem e10 : en_Ev (d + 1) 10 [u0, u1] f Q = en_R en_s0 10 d Q 0 [some u0, some u1] [] f := en_Ev_e (a := [u0, u1]) (show en_mL 10 = 2 by decide +kernel) (show 2 ≤ 2 by decide)
theorem e11 : en_Ev (d + 1) 11 [u0, u1] f Q = en_R en_s0 11 d Q 0 [some u0, some u1] [] f := en_Ev_e (a := [u0, u1]) (show en_mL 11 = 2 by decide +kernel) (show 2 ≤ 2 by decide)
theorem e12 : en_Ev (d + 1) 12 [u0, u1] f Q = en_R en_s0 12 d Q 0 [some u0, some u1] [] f := en_Ev_e (a := [u0, u1]) (show en_mL 12 = 2 by decide +kernel) (show 2 ≤ 2 by decide)
theorem e13 : en_Ev (d + 1) 13 [u0, u1, u2] f Q = en_R en_s0 13 d Q 0 [some u0, some u1, some u2] [] f := en_Ev_e (a := [u0, u1, u2]) (show en_mL 13 = 3 by decide +kernel) (show 3 ≤ 3 by decide)
theorem e14 : en_Ev (d + 1) 14 [u0] f Q = en_R en_s0 14 d Q 0 [some u0, none] [] f := en_Ev_e (a := [u0]) (show en_mL 14 = 2 by decide +kernel) (show 1 ≤ 2 by decide)
theorem e15 : en_Ev (d + 1) 15 [u0, u1] f Q = en_R en_s0 15 d Q 0 [some u0, some u1] [] f := en_Ev_e (a := [u0, u1]) (show en_mL 15 = 2 by decide +kernel) (show 2 ≤ 2 by decide)
theorem e16 : en_Ev (d + 1) 16 [u0, u1] f Q = en_R en_s0 16 d Q 0 [some u0, some u1] [] f := en_Ev_e (a := [u0, u1]) (show en_mL 16 = 2 by decide +kernel) (show 2 ≤ 2 by decide)
theorem e17 : en_Ev (d + 1) 17 [u0, u1, u2, u3] f Q = en_R en_s0 17 d Q 0 [some u0, some u1, some u2, some u3] [] f := en_Ev_e (a := [u0, u1, u2, u3]) (show en_mL 17 = 4 by decide +kernel) (show 4 ≤ 4 by decide)
theorem e18 : en_Ev (d + 1) 18 [u0] f Q = en_R en_s0 18 d Q 0 [some u0] [] f := en_Ev_e (a := [u0]) (show en_mL 18 = 1 by decide +kernel) (show 1 ≤ 1 by decide)
theorem e19 : en_Ev (d + 1) 19 [u0, u1] f Q = en_R en_s0 19 d Q 0 [some u0, some u1] [] f := en_Ev_e (a := [u0, u1]) (show en_mL 19 = 2 by decide +kernel) (show 2 ≤ 2 by decide)
theorem e20 : en_Ev (d + 1) 20 [u0, u1] f Q = en_R en_s0 20 d Q 0 [some u0, some u1] [] f := en_Ev_e (a := [u0, u1]) (show en_mL 20 = 2 by decide +kernel) (show 2 ≤ 2 by decide)
theorem e21 : en_Ev (d + 1) 21 [u0, u1, u2] f Q = en_R en_s0 21 d Q 0 [some u0, some u1, some u2] [] f := en_Ev_e (a := [u0, u1, u2]) (show en_mL 21 = 3 by decide +kernel) (show 3 ≤ 3 by decide)
theorem e22 : en_Ev (d + 1) 22 [u0, u1] f Q = en_R en_s0 22 d Q 0 [some u0, some u1] [] f := en_Ev_e (a := [u0, u1]) (show en_mL 22 = 2 by decide +kernel) (show 2 ≤ 2 by decide)
theorem e23 : en_Ev (d + 1) 23 [u0] f Q = en_R en_s0 23 d Q 0 [some u0] [] f := en_Ev_e (a := [u0]) (show en_mL 23 = 1 by decide +kernel) (show 1 ≤ 1 by decide)
theorem e24 : en_Ev (d + 1) 24 [u0] f Q = en_R en_s0 24 d Q 0 [some u0, none] [] f := en_Ev_e (a := [u0]) (show en_mL 24 = 2 by decide +kernel) (show 1 ≤ 2 by decide)
theorem e25 : en_Ev (d + 1) 25 [u0] f Q = en_R en_s0 25 d Q 0 [some u0] [] f := en_Ev_e (a := [u0]) (show en_mL 25 = 1 by decide +kernel) (show 1 ≤ 1 by decide)
theorem e26 : en_Ev (d + 1) 26 [u0] f Q = en_R en_s0 26 d Q 0 [some u0] [] f := en_Ev_e (a := [u0]) (show en_mL 26 = 1 by decide +kernel) (show 1 ≤ 1 by decide)
theorem e27 : en_Ev (d + 1) 27 [u0, u1] f Q = en_R en_s0 27 d Q 0 [some u0, some u1] [] f := en_Ev_e (a := [u0, u1]) (show en_mL 27 = 2 by decide +kernel) (show 2 ≤ 2 by decide)
theorem e28 : en_Ev (d + 1) 28 [u0] f Q = en_R en_s0 28 d Q 0 [some u0] [] f := en_Ev_e (a := [u0]) (show en_mL 28 = 1 by decide +kernel) (show 1 ≤ 1 by decide)
theorem e29 : en_Ev (d + 1) 29 [u0, u1] f Q = en_R en_s0 29 d Q 0 [some u0, some u1] [] f := en_Ev_e (a := [u0, u1]) (show en_mL 29 = 2 by decide +kernel) (show 2 ≤ 2 by decide)
theorem e30 : en_Ev (d + 1) 30 [u0, u1] f Q = en_R en_s0 30 d Q 0 [some u0, some u1] [] f := en_Ev_e (a := [u0, u1]) (show en_mL 30 = 2 by decide +kernel) (show 2 ≤ 2 by decide)
theorem e31 : en_Ev (d + 1) 31 [u0, u1] f Q = en_R en_s0 31 d Q 0 [some u0, some u1] [] f := en_Ev_e (a := [u0, u1]) (show en_mL 31 = 2 by decide +kernel) (show 2 ≤ 2 by decide)
theorem e32 : en_Ev (d + 1) 32 [u0, u1] f Q = en_R en_s0 32 d Q 0 [some u0, some u1] [] f := en_Ev_e (a := [u0, u1]) (show en_mL 32 = 2 by decide +kernel) (show 2 ≤ 2 by decide)
theorem e33 : en_Ev (d + 1) 33 [u0, u1, u2, u3, u4] f Q = en_R en_s0 33 d Q 0 [some u0, some u1, some u2, some u3, some u4] [] f := en_Ev_e (a := [u0, u1, u2, u3, u4]) (show en_mL 33 = 5 by decide +kernel) (show 5 ≤ 5 by decide)
theorem e34 : en_Ev (d + 1) 34 [u0, u1] f Q = en_R en_s0 34 d Q 0 [some u0, some u1, none, none, none] [] f := en_Ev_e (a := [u0, u1]) (show en_mL 34 = 5 by decide +kernel) (show 2 ≤ 5 by decide)
theorem e35 : en_Ev (d + 1) 35 [u0, u1, u2] f Q = en_R en_s0 35 d Q 0 [some u0, some u1, some u2] [] f := en_Ev_e (a := [u0, u1, u2]) (show en_mL 35 = 3 by decide +kernel) (show 3 ≤ 3 by decide)
theorem e36 : en_Ev (d + 1) 36 [u0, u1, u2] f Q = en_R en_s0 36 d Q 0 [some u0, some u1, some u2] [] f := en_Ev_e (a := [u0, u1, u2]) (show en_mL 36 = 3 by decide +kernel) (show 3 ≤ 3 by decide)
theorem e37 : en_Ev (d + 1) 37 [u0, u1, u2, u3] f Q = en_R en_s0 37 d Q 0 [some u0, some u1, some u2, some u3] [] f := en_Ev_e (a := [u0, u1, u2, u3]) (show en_mL 37 = 4 by decide +kernel) (show 4 ≤ 4 by decide)
theorem e38 : en_Ev (d + 1) 38 [u0, u1, u2, u3, u4] f Q = en_R en_s0 38 d Q 0 [some u0, some u1, some u2, some u3, some u4] [] f := en_Ev_e (a := [u0, u1, u2, u3, u4]) (show en_mL 38 = 5 by decide +kernel) (show 5 ≤ 5 by decide)
theorem e39 : en_Ev (d + 1) 39 [u0, u1] f Q = en_R en_s0 39 d Q 0 [some u0, some u1, none, none, none] [] f := en_Ev_e (a := [u0, u1]) (show en_mL 39 = 5 by decide +kernel) (show 2 ≤ 5 by decide)
theorem e40 : en_Ev (d + 1) 40 [u0, u1] f Q = en_R en_s0 40 d Q 0 [some u0, some u1] [] f := en_Ev_e (a := [u0, u1]) (show en_mL 40 = 2 by decide +kernel) (show 2 ≤ 2 by decide)
theorem e41 : en_Ev (d + 1) 41 [u0, u1] f Q = en_R en_s0 41 d Q 0 [some u0, some u1] [] f := en_Ev_e (a := [u0, u1]) (show en_mL 41 = 2 by decide +kernel) (show 2 ≤ 2 by decide)
theorem e42 : en_Ev (d + 1) 42 [u0, u1] f Q = en_R en_s0 42 d Q 0 [some u0, some u1] [] f := en_Ev_e (a := [u0, u1]) (show en_mL 42 = 2 by decide +kernel) (show 2 ≤ 2 by decide)
theorem e43 : en_Ev (d + 1) 43 [u0, u1, u2] f Q = en_R en_s0 43 d Q 0 [some u0, some u1, some u2] [] f := en_Ev_e (a := [u0, u1, u2]) (show en_mL 43 = 3 by decide +kernel) (show 3 ≤ 3 by decide)
theorem e44 : en_Ev (d + 1) 44 [u0, u1, u2] f Q = en_R en_s0 44 d Q 0 [some u0, some u1, some u2] [] f := en_Ev_e (a := [u0, u1, u2]) (show en_mL 44 = 3 by decide +kernel) (show 3 ≤ 3 by decide)
theorem e45 : en_Ev (d + 1) 45 [u0] f Q = en_R en_s0 45 d Q 0 [some u0] [] f := en_Ev_e (a := [u0]) (show en_mL 45 = 1 by decide +kernel) (show 1 ≤ 1 by decide)
theorem e46 : en_Ev (d + 1) 46 [u0, u1] f Q = en_R en_s0 46 d Q 0 [some u0, some u1] [] f := en_Ev_e (a := [u0, u1]) (show en_mL 46 = 2 by decide +kernel) (show 2 ≤ 2 by decide)
theorem e47 : en_Ev (d + 1) 47 [u0] f Q = en_R en_s0 47 d Q 0 [some u0] [] f := en_Ev_e (a := [u0]) (show en_mL 47 = 1 by decide +kernel) (show 1 ≤ 1 by decide)
theorem e48 : en_Ev (d + 1) 48 [u0] f Q = en_R en_s0 48 d Q 0 [some u0] [] f := en_Ev_e (a := [u0]) (show en_mL 48 = 1 by decide +kernel) (show 1 ≤ 1 by decide)
theorem e49 : en_Ev (d + 1) 49 [u0] f Q = en_R en_s0 49 d Q 0 [some u0] [] f := en_Ev_e (a := [u0]) (show en_mL 49 = 1 by decide +kernel) (show 1 ≤ 1 by decide)
theorem e50 : en_Ev (d + 1) 50 [u0] f Q = en_R en_s0 50 d Q 0 [some u0] [] f := en_Ev_e (a := [u0]) (show en_mL 50 = 1 by decide +kernel) (show 1 ≤ 1 by decide)
theorem e51 : en_Ev (d + 1) 51 [u0] f Q = en_R en_s0 51 d Q 0 [some u0] [] f := en_Ev_e (a := [u0]) (show en_mL 51 = 1 by decide +kernel) (show 1 ≤ 1 by decide)
theorem e52 : en_Ev (d + 1) 52 [u0, u1] f Q = en_R en_s0 52 d Q 0 [some u0, some u1] [] f := en_Ev_e (a := [u0, u1]) (show en_mL 52 = 2 by decide +kernel) (show 2 ≤ 2 by decide)
theorem e53 : en_Ev (d + 1) 53 [u0, u1, u2] f Q = en_R en_s0 53 d Q 0 [some u0, some u1, some u2] [] f := en_Ev_e (a := [u0, u1, u2]) (show en_mL 53 = 3 by decide +kernel) (show 3 ≤ 3 by decide)
theorem e54 : en_Ev (d + 1) 54 [u0, u1] f Q = en_R en_s0 54 d Q 0 [some u0, some u1] [] f := en_Ev_e (a := [u0, u1]) (show en_mL 54 = 2 by decide +kernel) (show 2 ≤ 2 by decide)
theorem e55 : en_Ev (d + 1) 55 [u0] f Q = en_R en_s0 55 d Q 0 [some u0, none] [] f := en_Ev_e (a := [u0]) (show en_mL 55 = 2 by decide +kernel) (show 1 ≤ 2 by decide)
theorem e56 : en_Ev (d + 1) 56 [u0, u1] f Q = en_R en_s0 56 d Q 0 [some u0, some u1, none] [] f := en_Ev_e (a := [u0, u1]) (show en_mL 56 = 3 by decide +kernel) (show 2 ≤ 3 by decide)
theorem e57 : en_Ev (d + 1) 57 [u0, u1, u2] f Q = en_R en_s0 57 d Q 0 [some u0, some u1, some u2] [] f := en_Ev_e (a := [u0, u1, u2]) (show en_mL 57 = 3 by decide +kernel) (show 3 ≤ 3 by decide)
theorem e58 : en_Ev (d + 1) 58 [u0, u1] f Q = en_R en_s0 58 d Q 0 [some u0, some u1, none] [] f := en_Ev_e (a := [u0, u1]) (show en_mL 58 = 3 by decide +kernel) (show 2 ≤ 3 by decide)
theorem e59 : en_Ev (d + 1) 59 [u0, u1] f Q = en_R en_s0 59 d Q 0 [some u0, some u1, none] [] f := en_Ev_e (a := [u0, u1]) (show en_mL 59 = 3 by decide +kernel) (show 2 ≤ 3 by decide)
theorem e60 : en_Ev (d + 1) 60 [u0, u1] f Q = en_R en_s0 60 d Q 0 [some u0, some u1] [] f := en_Ev_e (a := [u0, u1]) (show en_mL 60 = 2 by decide +kernel) (show 2 ≤ 2 by decide)
theorem e61 : en_Ev (d + 1) 61 [u0] f Q = en_R en_s0 61 d Q 0 [some u0, none, none] [] f := en_Ev_e (a := [u0]) (show en_mL 61 = 3 by decide +kernel) (show 1 ≤ 3 by decide)
theorem e62 : en_Ev (d + 1) 62 [u0, u1, u2] f Q = en_R en_s0 62 d Q 0 [some u0, some u1, some u2, none] [] f := en_Ev_e (a := [u0, u1, u2]) (show en_mL 62 = 4 by decide +kernel) (show 3 ≤ 4 by decide)
theorem e63 : en_Ev (d + 1) 63 [u0, u1] f Q = en_R en_s0 63 d Q 0 [some u0, some u1] [] f := en_Ev_e (a := [u0, u1]) (show en_mL 63 = 2 by decide +kernel) (show 2 ≤ 2 by decide)
theorem e64 : en_Ev (d + 1) 64 [u0, u1, u2] f Q = en_R en_s0 64 d Q 0 [some u0, some u1, some u2, none, none, none] [] f := en_Ev_e (a := [u0, u1, u2]) (show en_mL 64 = 6 by decide +kernel) (show 3 ≤ 6 by decide)
theorem e65 : en_Ev (d + 1) 65 [u0, u1] f Q = en_R en_s0 65 d Q 0 [some u0, some u1, none] [] f := en_Ev_e (a := [u0, u1]) (show en_mL 65 = 3 by decide +kernel) (show 2 ≤ 3 by decide)
theorem e66 : en_Ev (d + 1) 66 [u0, u1, u2] f Q = en_R en_s0 66 d Q 0 [some u0, some u1, some u2, none, none] [] f := en_Ev_e (a := [u0, u1, u2]) (show en_mL 66 = 5 by decide +kernel) (show 3 ≤ 5 by decide)
theorem e67 : en_Ev (d + 1) 67 [u0, u1, u2] f Q = en_R en_s0 67 d Q 0 [some u0, some u1, some u2, none, none, none] [] f := en_Ev_e (a := [u0, u1, u2]) (show en_mL 67 = 6 by decide +kernel) (show 3 ≤ 6 by decide)
theorem e68 : en_Ev (d + 1) 68 [u0, u1] f Q = en_R en_s0 68 d Q 0 [some u0, some u1, none, none, none, none] [] f := en_Ev_e (a := [u0, u1]) (show en_mL 68 = 6 by decide +kernel) (show 2 ≤ 6 by decide)
theorem e69 : en_Ev (d + 1) 69 [u0, u1] f Q = en_R en_s0 69 d Q 0 [some u0, some u1, none, none, none] [] f := en_Ev_e (a := [u0, u1]) (show en_mL 69 = 5 by decide +kernel) (show 2 ≤ 5 by decide)
theorem e70 : en_Ev (d + 1) 70 [u0] f Q = en_R en_s0 70 d Q 0 [some u0, none, none] [] f := en_Ev_e (a := [u0]) (show en_mL 70 = 3 by decide +kernel) (show 1 ≤ 3 by decide)
theorem e71 : en_Ev (d + 1) 71 [u0, u1] f Q = en_R en_s0 71 d Q 0 [some u0, some u1] [] f := en_Ev_e (a := [u0, u1]) (show en_mL 71 = 2 by decide +kernel) (show 2 ≤ 2 by decide)
theorem e72 : en_Ev (d + 1) 72 [u0, u1] f Q = en_R en_s0 72 d Q 0 [some u0, some u1, none, none] [] f := en_Ev_e (a := [u0, u1]) (show en_mL 72 = 4 by decide +kernel) (show 2 ≤ 4 by decide)
theorem e73 : en_Ev (d + 1) 73 [u0, u1] f Q = en_R en_s0 73 d Q 0 [some u0, some u1, none, none] [] f := en_Ev_e (a := [u0, u1]) (show en_mL 73 = 4 by decide +kernel) (show 2 ≤ 4 by decide)
theorem e74 : en_Ev (d + 1) 74 [u0] f Q = en_R en_s0 74 d Q 0 [some u0, none] [] f := en_Ev_e (a := [u0]) (show en_mL 74 = 2 by decide +kernel) (show 1 ≤ 2 by decide)
theorem e75 : en_Ev (d + 1) 75 [u0, u1] f Q = en_R en_s0 75 d Q 0 [some u0, some u1, none] [] f := en_Ev_e (a := [u0, u1]) (show en_mL 75 = 3 by decide +kernel) (show 2 ≤ 3 by decide)
theorem e76 : en_Ev (d + 1) 76 [u0, u1] f Q = en_R en_s0 76 d Q 0 [some u0, some u1, none] [] f := en_Ev_e (a := [u0, u1]) (show en_mL 76 = 3 by decide +kernel) (show 2 ≤ 3 by decide)
theorem e77 : en_Ev (d + 1) 77 [u0, u1] f Q = en_R en_s0 77 d Q 0 [some u0, some u1, none, none, none, none] [] f := en_Ev_e (a := [u0, u1]) (show en_mL 77 = 6 by decide +kernel) (show 2 ≤ 6 by decide)
theorem e78 : en_Ev (d + 1) 78 [u0, u1] f Q = en_R en_s0 78 d Q 0 [some u0, some u1, none] [] f := en_Ev_e (a := [u0, u1]) (show en_mL 78 = 3 by decide +kernel) (show 2 ≤ 3 by decide)
theorem e79 : en_Ev (d + 1) 79 [u0, u1] f Q = en_R en_s0 79 d Q 0 [some u0, some u1, none, none] [] f := en_Ev_e (a := [u0, u1]) (show en_mL 79 = 4 by decide +kernel) (show 2 ≤ 4 by decide)
theorem e80 : en_Ev (d + 1) 80 [u0] f Q = en_R en_s0 80 d Q 0 [some u0, none, none, none] [] f := en_Ev_e (a := [u0]) (show en_mL 80 = 4 by decide +kernel) (show 1 ≤ 4 by decide)
theorem e81 : en_Ev (d + 1) 81 [u0, u1] f Q = en_R en_s0 81 d Q 0 [some u0, some u1, none, none, none] [] f := en_Ev_e (a := [u0, u1]) (show en_mL 81 = 5 by decide +kernel) (show 2 ≤ 5 by decide)
theorem e82 : en_Ev (d + 1) 82 [u0, u1, u2] f Q = en_R en_s0 82 d Q 0 [some u0, some u1, some u2] [] f := en_Ev_e (a := [u0, u1, u2]) (show en_mL 82 = 3 by decide +kernel) (show 3 ≤ 3 by decide)
theorem e83 : en_Ev (d + 1) 83 [u0, u1] f Q = en_R en_s0 83 d Q 0 [some u0, some u1] [] f := en_Ev_e (a := [u0, u1]) (show en_mL 83 = 2 by decide +kernel) (show 2 ≤ 2 by decide)
theorem e84 : en_Ev (d + 1) 84 [u0, u1, u2, u3, u4, u5] f Q = en_R en_s0 84 d Q 0 [some u0, some u1, some u2, some u3, some u4, some u5, none] [] f := en_Ev_e (a := [u0, u1, u2, u3, u4, u5]) (show en_mL 84 = 7 by decide +kernel) (show 6 ≤ 7 by decide)
theorem e85 : en_Ev (d + 1) 85 [u0, u1] f Q = en_R en_s0 85 d Q 0 [some u0, some u1, none] [] f := en_Ev_e (a := [u0, u1]) (show en_mL 85 = 3 by decide +kernel) (show 2 ≤ 3 by decide)
theorem e86 : en_Ev (d + 1) 86 [u0] f Q = en_R en_s0 86 d Q 0 [some u0] [] f := en_Ev_e (a := [u0]) (show en_mL 86 = 1 by decide +kernel) (show 1 ≤ 1 by decide)
theorem e87 : en_Ev (d + 1) 87 [u0] f Q = en_R en_s0 87 d Q 0 [some u0] [] f := en_Ev_e (a := [u0]) (show en_mL 87 = 1 by decide +kernel) (show 1 ≤ 1 by decide)
theorem e88 : en_Ev (d + 1) 88 [u0, u1, u2] f Q = en_R en_s0 88 d Q 0 [some u0, some u1, some u2] [] f := en_Ev_e (a := [u0, u1, u2]) (show en_mL 88 = 3 by decide +kernel) (show 3 ≤ 3 by decide)
theorem e89 : en_Ev (d + 1) 89 [u0, u1] f Q = en_R en_s0 89 d Q 0 [some u0, some u1, none] [] f := en_Ev_e (a := [u0, u1]) (show en_mL 89 = 3 by decide +kernel) (show 2 ≤ 3 by decide)
theorem e90 : en_Ev (d + 1) 90 [u0, u1, u2, u3, u4] f Q = en_R en_s0 90 d Q 0 [some u0, some u1, some u2, some u3, some u4, none, none] [] f := en_Ev_e (a := [u0, u1, u2, u3, u4]) (show en_mL 90 = 7 by decide +kernel) (show 5 ≤ 7 by decide)
theorem e91 : en_Ev (d + 1) 91 [u0, u1] f Q = en_R en_s0 91 d Q 0 [some u0, some u1] [] f := en_Ev_e (a := [u0, u1]) (show en_mL 91 = 2 by decide +kernel) (show 2 ≤ 2 by decide)
theorem e92 : en_Ev (d + 1) 92 [u0, u1] f Q = en_R en_s0 92 d Q 0 [some u0, some u1, none] [] f := en_Ev_e (a := [u0, u1]) (show en_mL 92 = 3 by decide +kernel) (show 2 ≤ 3 by decide)
theorem e93 : en_Ev (d + 1) 93 [u0, u1, u2] f Q = en_R en_s0 93 d Q 0 [some u0, some u1, some u2] [] f := en_Ev_e (a := [u0, u1, u2]) (show en_mL 93 = 3 by decide +kernel) (show 3 ≤ 3 by decide)
theorem e94 : en_Ev (d + 1) 94 [u0, u1, u2] f Q = en_R en_s0 94 d Q 0 [some u0, some u1, some u2] [] f := en_Ev_e (a := [u0, u1, u2]) (show en_mL 94 = 3 by decide +kernel) (show 3 ≤ 3 by decide)
theorem e95 : en_Ev (d + 1) 95 [u0, u1] f Q = en_R en_s0 95 d Q 0 [some u0, some u1, none, none] [] f := en_Ev_e (a := [u0, u1]) (show en_mL 95 = 4 by decide +kernel) (show 2 ≤ 4 by decide)
theorem e96 : en_Ev (d + 1) 96 [u0, u1, u2, u3] f Q = en_R en_s0 96 d Q 0 [some u0, some u1, some u2, some u3, none, none] [] f := en_Ev_e (a := [u0, u1, u2, u3]) (show en_mL 96 = 6 by decide +kernel) (show 4 ≤ 6 by decide)
theorem e97 : en_Ev (d + 1) 97 [u0, u1] f Q = en_R en_s0 97 d Q 0 [some u0, some u1, none, none] [] f := en_Ev_e (a := [u0, u1]) (show en_mL 97 = 4 by decide +kernel) (show 2 ≤ 4 by decide)
theorem e98 : en_Ev (d + 1) 98 [u0, u1] f Q = en_R en_s0 98 d Q 0 [some u0, some u1, none, none] [] f := en_Ev_e (a := [u0, u1]) (show en_mL 98 = 4 by decide +kernel) (show 2 ≤ 4 by decide)
theorem e99 : en_Ev (d + 1) 99 [u0, u1] f Q = en_R en_s0 99 d Q 0 [some u0, some u1, none, none] [] f := en_Ev_e (a := [u0, u1]) (show en_mL 99 = 4 by decide +kernel) (show 2 ≤ 4 by decide)
theorem e100 : en_Ev (d + 1) 100 [u0, u1, u2, u3, u4] f Q = en_R en_s0 100 d Q 0 [some u0, some u1, some u2, some u3, some u4, none, none, none] [] f := en_Ev_e (a := [u0, u1, u2, u3, u4]) (show en_mL 100 = 8 by decide +kernel) (show 5 ≤ 8 by decide)
theorem e101 : en_Ev (d + 1) 101 [u0, u1] f Q = en_R en_s0 101 d Q 0 [some u0, some u1, none, none] [] f := en_Ev_e (a := [u0, u1]) (show en_mL 101 = 4 by decide +kernel) (show 2 ≤ 4 by decide)
theorem e102 : en_Ev (d + 1) 102 [u0, u1] f Q = en_R en_s0 102 d Q 0 [some u0, some u1, none] [] f := en_Ev_e (a := [u0, u1]) (show en_mL 102 = 3 by decide +kernel) (show 2 ≤ 3 by decide)
theorem e103 : en_Ev (d + 1) 103 [u0, u1, u2] f Q = en_R en_s0 103 d Q 0 [some u0, some u1, some u2] [] f := en_Ev_e (a := [u0, u1, u2]) (show en_mL 103 = 3 by decide +kernel) (show 3 ≤ 3 by decide)
theorem e104 : en_Ev (d + 1) 104 [u0, u1, u2] f Q = en_R en_s0 104 d Q 0 [some u0, some u1, some u2] [] f := en_Ev_e (a := [u0, u1, u2]) (show en_mL 104 = 3 by decide +kernel) (show 3 ≤ 3 by decide)
theorem e105 : en_Ev (d + 1) 105 [u0] f Q = en_R en_s0 105 d Q 0 [some u0, none] [] f := en_Ev_e (a := [u0]) (show en_mL 105 = 2 by decide +kernel) (show 1 ≤ 2 by decide)
theorem e106 : en_Ev (d + 1) 106 [u0] f Q = en_R en_s0 106 d Q 0 [some u0, none, none, none, none] [] f := en_Ev_e (a := [u0]) (show en_mL 106 = 5 by decide +kernel) (show 1 ≤ 5 by decide)
theorem e107 : en_Ev (d + 1) 107 [u0, u1, u2] f Q = en_R en_s0 107 d Q 0 [some u0, some u1, some u2] [] f := en_Ev_e (a := [u0, u1, u2]) (show en_mL 107 = 3 by decide +kernel) (show 3 ≤ 3 by decide)
theorem e108 : en_Ev (d + 1) 108 [u0, u1] f Q = en_R en_s0 108 d Q 0 [some u0, some u1, none, none] [] f := en_Ev_e (a := [u0, u1]) (show en_mL 108 = 4 by decide +kernel) (show 2 ≤ 4 by decide)
theorem e109 : en_Ev (d + 1) 109 [u0, u1, u2] f Q = en_R en_s0 109 d Q 0 [some u0, some u1, some u2] [] f := en_Ev_e (a := [u0, u1, u2]) (show en_mL 109 = 3 by decide +kernel) (show 3 ≤ 3 by decide)
theorem e110 : en_Ev (d + 1) 110 [u0] f Q = en_R en_s0 110 d Q 0 [some u0, none, none] [] f := en_Ev_e (a := [u0]) (show en_mL 110 = 3 by decide +kernel) (show 1 ≤ 3 by decide)
theorem e111 : en_Ev (d + 1) 111 [u0, u1] f Q = en_R en_s0 111 d Q 0 [some u0, some u1, none, none, none, none] [] f := en_Ev_e (a := [u0, u1]) (show en_mL 111 = 6 by decide +kernel) (show 2 ≤ 6 by decide)
theorem e112 : en_Ev (d + 1) 112 [u0, u1] f Q = en_R en_s0 112 d Q 0 [some u0, some u1, none] [] f := en_Ev_e (a := [u0, u1]) (show en_mL 112 = 3 by decide +kernel) (show 2 ≤ 3 by decide)
theorem e113 : en_Ev (d + 1) 113 [u0, u1, u2, u3, u4, u5] f Q = en_R en_s0 113 d Q 0 [some u0, some u1, some u2, some u3, some u4, some u5, none] [] f := en_Ev_e (a := [u0, u1, u2, u3, u4, u5]) (show en_mL 113 = 7 by decide +kernel) (show 6 ≤ 7 by decide)
theorem e114 : en_Ev (d + 1) 114 [u0, u1, u2, u3] f Q = en_R en_s0 114 d Q 0 [some u0, some u1, some u2, some u3] [] f := en_Ev_e (a := [u0, u1, u2, u3]) (show en_mL 114 = 4 by decide +kernel) (show 4 ≤ 4 by decide)
theorem e115 : en_Ev (d + 1) 115 [u0, u1, u2, u3, u4] f Q = en_R en_s0 115 d Q 0 [some u0, some u1, some u2, some u3, some u4] [] f := en_Ev_e (a := [u0, u1, u2, u3, u4]) (show en_mL 115 = 5 by decide +kernel) (show 5 ≤ 5 by decide)
theorem e116 : en_Ev (d + 1) 116 [u0, u1] f Q = en_R en_s0 116 d Q 0 [some u0, some u1, none, none, none, none, none] [] f := en_Ev_e (a := [u0, u1]) (show en_mL 116 = 7 by decide +kernel) (show 2 ≤ 7 by decide)
theorem e117 : en_Ev (d + 1) 117 [u0] f Q = en_R en_s0 117 d Q 0 [some u0, none, none] [] f := en_Ev_e (a := [u0]) (show en_mL 117 = 3 by decide +kernel) (show 1 ≤ 3 by decide)
theorem e118 : en_Ev (d + 1) 118 [u0] f Q = en_R en_s0 118 d Q 0 [some u0, none, none, none] [] f := en_Ev_e (a := [u0]) (show en_mL 118 = 4 by decide +kernel) (show 1 ≤ 4 by decide)
theorem e119 : en_Ev (d + 1) 119 [u0, u1] f Q = en_R en_s0 119 d Q 0 [some u0, some u1, none, none] [] f := en_Ev_e (a := [u0, u1]) (show en_mL 119 = 4 by decide +kernel) (show 2 ≤ 4 by decide)
theorem e120 : en_Ev (d + 1) 120 [u0, u1] f Q = en_R en_s0 120 d Q 0 [some u0, some u1] [] f := en_Ev_e (a := [u0, u1]) (show en_mL 120 = 2 by decide +kernel) (show 2 ≤ 2 by decide)
theorem e121 : en_Ev (d + 1) 121 [u0, u1] f Q = en_R en_s0 121 d Q 0 [some u0, some u1] [] f := en_Ev_e (a := [u0, u1]) (show en_mL 121 = 2 by decide +kernel) (show 2 ≤ 2 by decide)
theorem e122 : en_Ev (d + 1) 122 [u0, u1] f Q = en_R en_s0 122 d Q 0 [some u0, some u1] [] f := en_Ev_e (a := [u0, u1]) (show en_mL 122 = 2 by decide +kernel) (show 2 ≤ 2 by decide)
theorem e123 : en_Ev (d + 1) 123 [u0, u1, u2] f Q = en_R en_s0 123 d Q 0 [some u0, some u1, some u2] [] f := en_Ev_e (a := [u0, u1, u2]) (show en_mL 123 = 3 by decide +kernel) (show 3 ≤ 3 by decide)
theorem e124 : en_Ev (d + 1) 124 [u0, u1, u2] f Q = en_R en_s0 124 d Q 0 [some u0, some u1, some u2] [] f := en_Ev_e (a := [u0, u1, u2]) (show en_mL 124 = 3 by decide +kernel) (show 3 ≤ 3 by decide)
theorem e125 : en_Ev (d + 1) 125 [u0] f Q = en_R en_s0 125 d Q 0 [some u0] [] f := en_Ev_e (a := [u0]) (show en_mL 125 = 1 by decide +kernel) (show 1 ≤ 1 by decide)
theorem e126 : en_Ev (d + 1) 126 [u0, u1] f Q = en_R en_s0 126 d Q 0 [some u0, some u1] [] f := en_Ev_e (a := [u0, u1]) (show en_mL 126 = 2 by decide +kernel) (show 2 ≤ 2 by decide)
theorem e127 : en_Ev (d + 1) 127 [u0] f Q = en_R en_s0 127 d Q 0 [some u0] [] f := en_Ev_e (a := [u0]) (show en_mL 127 = 1 by decide +kernel) (show 1 ≤ 1 by decide)
end EnEntry
theorem cb_0 : en_isz 0 = true := rfl
theorem cb_1 : en_isz 1 = true := rfl
theorem cb_i {c : Prop} {h : Decidable c} : en_isz (@ite _ c h 1 0) = true := by by_cases hc : c <;> simp [hc] <;> rfl
theorem cb_j {c : Prop} {h : Decidable c} : en_isz (@ite _ c h 0 1) = true := by by_cases hc : c <;> simp [hc] <;> rfl
theorem cb_01 : (0 : Nat) < 1 := Nat.zero_lt_one
theorem cb_in {j n : Nat} (h : j < n) (hn : n < 2 ^ 31) : en_inr (nI j) n = true := by
  have h1 := nI_in h hn
  unfold en_inr
  simp only [Bool.and_eq_true, Bool.not_eq_true', decide_eq_false_iff_not]
  exact ⟨fun q => h1 (Or.inl q), fun q => h1 (Or.inr q)⟩
theorem cb_c6 {j : Nat} (h : j < 6) : (nI j).toNatClampNeg = j := nI_clamp (by omega)
theorem cb_c16 {j : Nat} (h : j < 16) : (nI j).toNatClampNeg = j := nI_clamp (by omega)
theorem cb_in6 {j : Nat} (h : j < 6) : en_inr (nI j) 6 = true := cb_in h (by omega)
theorem cb_in16 {j : Nat} (h : j < 16) : en_inr (nI j) 16 = true := cb_in h (by omega)
theorem cb_e0 {c : Prop} {h : Decidable c} : (@ite Int32 c h 1 0 = 0) = ¬ c := by by_cases hc : c <;> simp [hc]
theorem cb_e1 {c : Prop} {h : Decidable c} : (@ite Int32 c h 0 1 = 0) = c := by by_cases hc : c <;> simp [hc]
theorem cl_0 : (0 : Int32).toNatClampNeg = 0 := by decide
theorem cl_1 : (1 : Int32).toNatClampNeg = 1 := by decide
theorem cl_2 : (2 : Int32).toNatClampNeg = 2 := by decide
theorem cl_3 : (3 : Int32).toNatClampNeg = 3 := by decide
theorem cl_4 : (4 : Int32).toNatClampNeg = 4 := by decide
theorem cl_5 : (5 : Int32).toNatClampNeg = 5 := by decide
theorem cl_6 : (6 : Int32).toNatClampNeg = 6 := by decide
theorem cl_7 : (7 : Int32).toNatClampNeg = 7 := by decide
theorem cl_8 : (8 : Int32).toNatClampNeg = 8 := by decide
theorem cl_9 : (9 : Int32).toNatClampNeg = 9 := by decide
theorem cl_10 : (10 : Int32).toNatClampNeg = 10 := by decide
theorem cl_11 : (11 : Int32).toNatClampNeg = 11 := by decide
theorem cl_12 : (12 : Int32).toNatClampNeg = 12 := by decide
theorem cl_13 : (13 : Int32).toNatClampNeg = 13 := by decide
theorem cl_14 : (14 : Int32).toNatClampNeg = 14 := by decide
theorem cl_15 : (15 : Int32).toNatClampNeg = 15 := by decide
theorem cl_16 : (16 : Int32).toNatClampNeg = 16 := by decide
theorem ci_6_0 : en_inr (0 : Int32) 6 = true := by decide
theorem ci_6_1 : en_inr (1 : Int32) 6 = true := by decide
theorem ci_6_2 : en_inr (2 : Int32) 6 = true := by decide
theorem ci_6_3 : en_inr (3 : Int32) 6 = true := by decide
theorem ci_6_4 : en_inr (4 : Int32) 6 = true := by decide
theorem ci_6_5 : en_inr (5 : Int32) 6 = true := by decide
theorem ci_8_0 : en_inr (0 : Int32) 8 = true := by decide
theorem ci_8_1 : en_inr (1 : Int32) 8 = true := by decide
theorem ci_8_2 : en_inr (2 : Int32) 8 = true := by decide
theorem ci_8_3 : en_inr (3 : Int32) 8 = true := by decide
theorem ci_8_4 : en_inr (4 : Int32) 8 = true := by decide
theorem ci_8_5 : en_inr (5 : Int32) 8 = true := by decide
theorem ci_8_6 : en_inr (6 : Int32) 8 = true := by decide
theorem ci_8_7 : en_inr (7 : Int32) 8 = true := by decide
theorem ci_16_0 : en_inr (0 : Int32) 16 = true := by decide
theorem ci_16_1 : en_inr (1 : Int32) 16 = true := by decide
theorem ci_16_2 : en_inr (2 : Int32) 16 = true := by decide
theorem ci_16_3 : en_inr (3 : Int32) 16 = true := by decide
theorem ci_16_4 : en_inr (4 : Int32) 16 = true := by decide
theorem ci_16_5 : en_inr (5 : Int32) 16 = true := by decide
theorem ci_16_6 : en_inr (6 : Int32) 16 = true := by decide
theorem ci_16_7 : en_inr (7 : Int32) 16 = true := by decide
theorem ci_16_8 : en_inr (8 : Int32) 16 = true := by decide
theorem ci_16_9 : en_inr (9 : Int32) 16 = true := by decide
theorem ci_16_10 : en_inr (10 : Int32) 16 = true := by decide
theorem ci_16_11 : en_inr (11 : Int32) 16 = true := by decide
theorem ci_16_12 : en_inr (12 : Int32) 16 = true := by decide
theorem ci_16_13 : en_inr (13 : Int32) 16 = true := by decide
theorem ci_16_14 : en_inr (14 : Int32) 16 = true := by decide
theorem ci_16_15 : en_inr (15 : Int32) 16 = true := by decide
theorem ci_4_0 : en_inr (0 : Int32) 4 = true := by decide
theorem ci_4_1 : en_inr (1 : Int32) 4 = true := by decide
theorem ci_4_2 : en_inr (2 : Int32) 4 = true := by decide
theorem ci_4_3 : en_inr (3 : Int32) 4 = true := by decide
theorem ci_40_0 : en_inr (0 : Int32) 40 = true := by decide
theorem ci_40_1 : en_inr (1 : Int32) 40 = true := by decide
theorem ci_40_2 : en_inr (2 : Int32) 40 = true := by decide
theorem ci_40_3 : en_inr (3 : Int32) 40 = true := by decide
theorem ci_40_4 : en_inr (4 : Int32) 40 = true := by decide
theorem ci_40_5 : en_inr (5 : Int32) 40 = true := by decide
theorem ci_40_6 : en_inr (6 : Int32) 40 = true := by decide
theorem ci_40_7 : en_inr (7 : Int32) 40 = true := by decide
theorem ci_40_8 : en_inr (8 : Int32) 40 = true := by decide
theorem ci_40_9 : en_inr (9 : Int32) 40 = true := by decide
theorem ci_40_10 : en_inr (10 : Int32) 40 = true := by decide
theorem ci_40_11 : en_inr (11 : Int32) 40 = true := by decide
theorem ci_40_12 : en_inr (12 : Int32) 40 = true := by decide
theorem ci_40_13 : en_inr (13 : Int32) 40 = true := by decide
theorem ci_40_14 : en_inr (14 : Int32) 40 = true := by decide
theorem ci_40_15 : en_inr (15 : Int32) 40 = true := by decide
theorem cq_m1_0 : ((-1 : Int32) = (0 : Int32)) = False := by decide
theorem cq_m1_1 : ((-1 : Int32) = (1 : Int32)) = False := by decide
theorem cq_m1_2 : ((-1 : Int32) = (2 : Int32)) = False := by decide
theorem cq_m1_3 : ((-1 : Int32) = (3 : Int32)) = False := by decide
theorem cq_m1_4 : ((-1 : Int32) = (4 : Int32)) = False := by decide
theorem cq_m1_5 : ((-1 : Int32) = (5 : Int32)) = False := by decide
theorem cq_m1_6 : ((-1 : Int32) = (6 : Int32)) = False := by decide
theorem cq_m1_7 : ((-1 : Int32) = (7 : Int32)) = False := by decide
theorem cq_m1_8 : ((-1 : Int32) = (8 : Int32)) = False := by decide
theorem cq_0_m1 : ((0 : Int32) = (-1 : Int32)) = False := by decide
theorem cq_0_1 : ((0 : Int32) = (1 : Int32)) = False := by decide
theorem cq_0_2 : ((0 : Int32) = (2 : Int32)) = False := by decide
theorem cq_0_3 : ((0 : Int32) = (3 : Int32)) = False := by decide
theorem cq_0_4 : ((0 : Int32) = (4 : Int32)) = False := by decide
theorem cq_0_5 : ((0 : Int32) = (5 : Int32)) = False := by decide
theorem cq_0_6 : ((0 : Int32) = (6 : Int32)) = False := by decide
theorem cq_0_7 : ((0 : Int32) = (7 : Int32)) = False := by decide
theorem cq_0_8 : ((0 : Int32) = (8 : Int32)) = False := by decide
theorem cq_1_m1 : ((1 : Int32) = (-1 : Int32)) = False := by decide
theorem cq_1_0 : ((1 : Int32) = (0 : Int32)) = False := by decide
theorem cq_1_2 : ((1 : Int32) = (2 : Int32)) = False := by decide
theorem cq_1_3 : ((1 : Int32) = (3 : Int32)) = False := by decide
theorem cq_1_4 : ((1 : Int32) = (4 : Int32)) = False := by decide
theorem cq_1_5 : ((1 : Int32) = (5 : Int32)) = False := by decide
theorem cq_1_6 : ((1 : Int32) = (6 : Int32)) = False := by decide
theorem cq_1_7 : ((1 : Int32) = (7 : Int32)) = False := by decide
theorem cq_1_8 : ((1 : Int32) = (8 : Int32)) = False := by decide
theorem cq_2_m1 : ((2 : Int32) = (-1 : Int32)) = False := by decide
theorem cq_2_0 : ((2 : Int32) = (0 : Int32)) = False := by decide
theorem cq_2_1 : ((2 : Int32) = (1 : Int32)) = False := by decide
theorem cq_2_3 : ((2 : Int32) = (3 : Int32)) = False := by decide
theorem cq_2_4 : ((2 : Int32) = (4 : Int32)) = False := by decide
theorem cq_2_5 : ((2 : Int32) = (5 : Int32)) = False := by decide
theorem cq_2_6 : ((2 : Int32) = (6 : Int32)) = False := by decide
theorem cq_2_7 : ((2 : Int32) = (7 : Int32)) = False := by decide
theorem cq_2_8 : ((2 : Int32) = (8 : Int32)) = False := by decide
theorem cq_3_m1 : ((3 : Int32) = (-1 : Int32)) = False := by decide
theorem cq_3_0 : ((3 : Int32) = (0 : Int32)) = False := by decide
theorem cq_3_1 : ((3 : Int32) = (1 : Int32)) = False := by decide
theorem cq_3_2 : ((3 : Int32) = (2 : Int32)) = False := by decide
theorem cq_3_4 : ((3 : Int32) = (4 : Int32)) = False := by decide
theorem cq_3_5 : ((3 : Int32) = (5 : Int32)) = False := by decide
theorem cq_3_6 : ((3 : Int32) = (6 : Int32)) = False := by decide
theorem cq_3_7 : ((3 : Int32) = (7 : Int32)) = False := by decide
theorem cq_3_8 : ((3 : Int32) = (8 : Int32)) = False := by decide
theorem cq_4_m1 : ((4 : Int32) = (-1 : Int32)) = False := by decide
theorem cq_4_0 : ((4 : Int32) = (0 : Int32)) = False := by decide
theorem cq_4_1 : ((4 : Int32) = (1 : Int32)) = False := by decide
theorem cq_4_2 : ((4 : Int32) = (2 : Int32)) = False := by decide
theorem cq_4_3 : ((4 : Int32) = (3 : Int32)) = False := by decide
theorem cq_4_5 : ((4 : Int32) = (5 : Int32)) = False := by decide
theorem cq_4_6 : ((4 : Int32) = (6 : Int32)) = False := by decide
theorem cq_4_7 : ((4 : Int32) = (7 : Int32)) = False := by decide
theorem cq_4_8 : ((4 : Int32) = (8 : Int32)) = False := by decide
theorem cq_5_m1 : ((5 : Int32) = (-1 : Int32)) = False := by decide
theorem cq_5_0 : ((5 : Int32) = (0 : Int32)) = False := by decide
theorem cq_5_1 : ((5 : Int32) = (1 : Int32)) = False := by decide
theorem cq_5_2 : ((5 : Int32) = (2 : Int32)) = False := by decide
theorem cq_5_3 : ((5 : Int32) = (3 : Int32)) = False := by decide
theorem cq_5_4 : ((5 : Int32) = (4 : Int32)) = False := by decide
theorem cq_5_6 : ((5 : Int32) = (6 : Int32)) = False := by decide
theorem cq_5_7 : ((5 : Int32) = (7 : Int32)) = False := by decide
theorem cq_5_8 : ((5 : Int32) = (8 : Int32)) = False := by decide
theorem cq_6_m1 : ((6 : Int32) = (-1 : Int32)) = False := by decide
theorem cq_6_0 : ((6 : Int32) = (0 : Int32)) = False := by decide
theorem cq_6_1 : ((6 : Int32) = (1 : Int32)) = False := by decide
theorem cq_6_2 : ((6 : Int32) = (2 : Int32)) = False := by decide
theorem cq_6_3 : ((6 : Int32) = (3 : Int32)) = False := by decide
theorem cq_6_4 : ((6 : Int32) = (4 : Int32)) = False := by decide
theorem cq_6_5 : ((6 : Int32) = (5 : Int32)) = False := by decide
theorem cq_6_7 : ((6 : Int32) = (7 : Int32)) = False := by decide
theorem cq_6_8 : ((6 : Int32) = (8 : Int32)) = False := by decide
theorem cq_7_m1 : ((7 : Int32) = (-1 : Int32)) = False := by decide
theorem cq_7_0 : ((7 : Int32) = (0 : Int32)) = False := by decide
theorem cq_7_1 : ((7 : Int32) = (1 : Int32)) = False := by decide
theorem cq_7_2 : ((7 : Int32) = (2 : Int32)) = False := by decide
theorem cq_7_3 : ((7 : Int32) = (3 : Int32)) = False := by decide
theorem cq_7_4 : ((7 : Int32) = (4 : Int32)) = False := by decide
theorem cq_7_5 : ((7 : Int32) = (5 : Int32)) = False := by decide
theorem cq_7_6 : ((7 : Int32) = (6 : Int32)) = False := by decide
theorem cq_7_8 : ((7 : Int32) = (8 : Int32)) = False := by decide
theorem cq_8_m1 : ((8 : Int32) = (-1 : Int32)) = False := by decide
theorem cq_8_0 : ((8 : Int32) = (0 : Int32)) = False := by decide
theorem cq_8_1 : ((8 : Int32) = (1 : Int32)) = False := by decide
theorem cq_8_2 : ((8 : Int32) = (2 : Int32)) = False := by decide
theorem cq_8_3 : ((8 : Int32) = (3 : Int32)) = False := by decide
theorem cq_8_4 : ((8 : Int32) = (4 : Int32)) = False := by decide
theorem cq_8_5 : ((8 : Int32) = (5 : Int32)) = False := by decide
theorem cq_8_6 : ((8 : Int32) = (6 : Int32)) = False := by decide
theorem cq_8_7 : ((8 : Int32) = (7 : Int32)) = False := by decide
theorem cb_rng {x : Int32} {n : Nat} {m : Int32} (hm : m = nI n) (hn : n < 2 ^ 31) (h0 : 0 ≤ x) (h1 : x < m) : en_inr x n = true := by
  subst hm
  have h2 : 0 ≤ x.toInt := Jvm.Kit.i32_nonneg.mp h0
  have h3 := Int32.lt_iff_toInt_lt.mp h1
  rw [nI_toInt hn] at h3
  have h4 := vp_in_iff.mpr ⟨h2, h3⟩
  unfold en_inr
  simp only [Bool.and_eq_true, Bool.not_eq_true', decide_eq_false_iff_not]
  exact ⟨fun q => h4 (Or.inl q), fun q => h4 (Or.inr q)⟩
theorem en_ua {f : en_F} {k i j k' i' j' : Nat} {x : Int32} : en_up f k i j x k' i' j' = if k' = k ∧ i' = i ∧ j' = j then x else f k' i' j' := rfl
theorem cr_rem {a m : Nat} {x y : Int32} (hx : x = nI a) (hy : y = nI m) (ha : a < 2 ^ 31) (h0 : 0 < m) (hm : m < 2 ^ 31) : x - x / y * y = nI (a % m) := by
  subst hx; subst hy; exact pk_rem ha h0 hm
theorem cb_lt {a b : Nat} (ha : a < 2 ^ 31) (hb : b < 2 ^ 31) : (nI a < nI b) = (a < b) := propext (nI_ltI ha hb)
theorem cb_ix (x : Int32) {n : Nat} (hn : n < 2 ^ 31) (h0 : ¬ x < 0) (h1 : x < nI n) : ∃ j : Nat, j < n ∧ x = nI j := by
  rcases pk_ix x hn with h | h | h
  · exact absurd h h0
  · exact absurd h1 (by simpa using h)
  · exact h
theorem cb_le {a b : Int32} : (a ≤ b) = ¬ (b < a) := by simp
theorem cb_nn {c : Prop} : (¬ ¬ c) = c := by simp
theorem cb_rg {x : Int32} {n : Nat} {m : Int32} (hm : m = nI n) (hn : n < 2 ^ 31) (h0 : ¬ x < 0) (h1 : x < m) : en_inr x n = true := cb_rng hm hn (by simpa using h0) h1
theorem cb_nle {a b : Int32} : (¬ a ≤ b) = (b < a) := by simp
theorem cb_nlt {a b : Int32} : (¬ a < b) = (b ≤ a) := by simp
