/-! what each call answers and does, in the words of the reference's own fields -/
def cl (x : Int32) : Nat := x.toNatClampNeg
theorem cl_nI {n : Nat} (h : n < 2 ^ 31) : cl (nI n) = n := nI_clamp h
abbrev zRs : Type := Int32 × (Nat → Int32) × (Nat → Nat → Int32)
def s_family (a : Int32) (sc : Nat → Int32) (ar : Nat → Nat → Int32) : zRs := if 0 ≤ a ∧ a ≤ 20 then (if sc 2 = 8 then (-1, upd sc 1 3, ar) else (sc 2, upd (upd sc 2 (sc 2 + 1)) 1 0, putA ar 11 (cl (sc 2)) a)) else (-1, upd sc 1 2, ar)
def s_garden (f : Int32) (sc : Nat → Int32) (ar : Nat → Nat → Int32) : zRs := if f = -1 ∨ (0 ≤ f ∧ f < sc 2) then (if sc 3 = 12 then (-1, upd sc 1 3, ar) else (sc 3, upd (upd sc 3 (sc 3 + 1)) 1 0, putA ar 15 (cl (sc 3)) f)) else (-1, upd sc 1 1, ar)
def s_set (a b : Int32) (sc : Nat → Int32) (ar : Nat → Nat → Int32) : zRs := if (10 ≤ a ∧ a ≤ 99) ∧ (0 ≤ b ∧ b ≤ 9) then (1, upd (upd (upd sc 9 a) 10 b) 1 0, ar) else (0, upd sc 1 2, ar)
def s_price (g p : Int32) (sc : Nat → Int32) (ar : Nat → Nat → Int32) : zRs := if 1 ≤ g ∧ g ≤ 4 then (if 0 ≤ p ∧ p ≤ 9999 then (1, upd sc 1 0, putA ar 16 (cl g) p) else (0, upd sc 1 2, ar)) else (0, upd sc 1 1, ar)
def s_rain (d b : Int32) (sc : Nat → Int32) (ar : Nat → Nat → Int32) : zRs := if d ≤ sc 8 ∨ 3000 < d then (0, upd sc 1 2, ar) else (1, upd sc 1 0, putA ar 17 (cl d) b)
def s_cut (f g L wd t : Int32) (sc : Nat → Int32) (ar : Nat → Nat → Int32) : zRs := if (0 ≤ f ∧ f < sc 2) ∧ (0 ≤ g ∧ g < sc 3) then (if (1 ≤ L ∧ L ≤ 60) ∧ (1 ≤ wd ∧ wd ≤ 9) ∧ (0 ≤ t ∧ t ≤ 9) then (if ar 15 (cl g) = -1 ∨ ar 15 (cl g) = f then (if sc 4 = 200 then (-1, upd sc 1 3, ar) else (sc 4, upd (upd sc 4 (sc 4 + 1)) 1 0, putA (putA (putA (putA (putA (putA (putA ar 18 (cl (sc 4)) f) 19 (cl (sc 4)) g) 20 (cl (sc 4)) L) 21 (cl (sc 4)) wd) 22 (cl (sc 4)) t) 23 (cl (sc 4)) (sc 8)) 24 (cl (sc 4)) (-2))) else (-1, upd sc 1 4, ar)) else (-1, upd sc 1 2, ar)) else (-1, upd sc 1 1, ar)
/-- the counts, TODAY, SPAN and LAP are small -/
def MN (sc : Nat → Int32) : Prop := ∃ N : Nat → Nat, (∀ j, 2 ≤ j → j ≤ 10 → sc j = nI (N j)) ∧ N 2 ≤ 8 ∧ N 3 ≤ 12 ∧ N 4 ≤ 200 ∧ N 5 ≤ 120 ∧ N 6 ≤ 60 ∧ N 7 ≤ 20 ∧ N 8 ≤ 3000 ∧ (10 ≤ N 9 ∧ N 9 ≤ 99) ∧ N 10 ≤ 9
