/-- the reference's invariant: its numbers stand for things that are there -/
def MI (N : Nat → Nat) (sc : Nat → Int32) (ar : Nat → Nat → Int32) : Prop :=
  ((∀ j, 2 ≤ j → j ≤ 10 → sc j = nI (N j)) ∧ N 2 ≤ 8 ∧ N 3 ≤ 12 ∧ N 4 ≤ 200 ∧ N 5 ≤ 120 ∧ N 6 ≤ 60 ∧ N 7 ≤ 20 ∧ N 8 ≤ 3000 ∧ (10 ≤ N 9 ∧ N 9 ≤ 99) ∧ N 10 ≤ 9) ∧
  (∀ i, i < N 4 → (∃ f, f < N 2 ∧ ar 18 i = nI f) ∧ (∃ g, g < N 3 ∧ ar 19 i = nI g) ∧ (∃ L, 1 ≤ L ∧ L ≤ 60 ∧ ar 20 i = nI L) ∧ (∃ b, 1 ≤ b ∧ b ≤ 9 ∧ ar 21 i = nI b) ∧ (∃ t, t ≤ 9 ∧ ar 22 i = nI t) ∧ (∃ d, d ≤ N 8 ∧ ar 23 i = nI d) ∧ (ar 24 i = -2 ∨ ∃ q, q < N 5 ∧ ar 24 i = nI q)) ∧
  (∀ q, q < N 5 → (∃ f, f < N 2 ∧ ar 25 q = nI f) ∧ (∃ n, 1 ≤ n ∧ n ≤ 4 ∧ ar 28 q = nI n ∧ ∀ k, k < n → ∃ s, s < N 4 ∧ ar 30 (4 * q + k) = nI s) ∧ (ar 29 q = -2 ∨ ∃ b, b < N 6 ∧ ar 29 q = nI b)) ∧
  (∀ b, b < N 6 → ∃ c, c < N 7 ∧ ar 34 b = nI c) ∧
  (∀ c, c < N 7 → ∃ m, 1 ≤ m ∧ m ≤ 6 ∧ ar 37 c = nI m) ∧
  (∀ f, N 2 ≤ f → ar 12 f = 0 ∧ ar 13 f = 0 ∧ ar 14 f = 0)
/-- the day on which so many dry days are through (3001: never) -/
def dryF (rn : Nat → Int32) : Nat → Nat → Nat → Nat
  | 0, _, d => d
  | k + 1, nd, d => if nd = 0 then d else dryF rn k (if d + 1 ≤ 3000 ∧ rn (d + 1) = 0 then nd - 1 else nd) (d + 1)
theorem dryF_le (rn : Nat → Int32) : ∀ (k nd d : Nat), d ≤ dryF rn k nd d ∧ dryF rn k nd d ≤ d + k
  | 0, _, d => ⟨Nat.le_refl _, Nat.le_refl _⟩
  | k + 1, nd, d => by
    unfold dryF
    by_cases h : nd = 0
    · rw [if_pos h]; omega
    · rw [if_neg h]
      have := dryF_le rn k (if d + 1 ≤ 3000 ∧ rn (d + 1) = 0 then nd - 1 else nd) (d + 1)
      omega
def dryD (ar : Nat → Nat → Int32) (i : Nat) : Nat := dryF (ar 17) (3001 - cl (ar 23 i)) (cl (ar 21 i) + 2) (cl (ar 23 i))
def mayB (sc : Nat → Int32) (ar : Nat → Nat → Int32) (f : Int32) (i : Nat) : Bool := decide (ar 18 i = f ∧ ar 24 i = -2 ∧ dryD ar i ≤ cl (sc 8))
def ctN (p : Nat → Bool) : Nat → Nat
  | 0 => 0
  | n + 1 => ctN p n + (if p n then 1 else 0)
theorem ctN_le (p : Nat → Bool) : ∀ n, ctN p n ≤ n
  | 0 => Nat.le_refl 0
  | n + 1 => by have := ctN_le p n; unfold ctN; split <;> omega
def smI (f : Nat → Int32) : Nat → Int32
  | 0 => 0
  | n + 1 => smI f n + f n
def chO (ar : Nat → Nat → Int32) (i : Nat) : Int32 := if ar 24 i < 0 ∨ ar 29 (cl (ar 24 i)) < 0 then -1 else ar 34 (cl (ar 29 (cl (ar 24 i))))
def trF (ar : Nat → Nat → Int32) (g a b : Int32) : Nat → Int32
  | 0 => -2
  | n + 1 => if (ar 19 n = g ∧ (a ≤ ar 23 n ∧ ar 23 n ≤ b) ∧ ¬ chO ar n = -1) ∧ (trF ar g a b n = -2 ∨ chO ar n < trF ar g a b n) then chO ar n else trF ar g a b n
def v_strip (i b : Int32) (sc : Nat → Int32) (ar : Nat → Nat → Int32) : Int32 := if 0 ≤ i ∧ i < sc 4 then (if b = 0 then ar 18 (cl i) else if b = 1 then ar 19 (cl i) else if b = 2 then ar 20 (cl i) else if b = 3 then ar 21 (cl i) else if b = 4 then ar 22 (cl i) else if b = 5 then ar 23 (cl i) else if b = 6 then bI (dryD ar (cl i) ≤ cl (sc 8)) else if b = 7 then ar 24 (cl i) else -1) else -1
def v_ready (f : Int32) (sc : Nat → Int32) (ar : Nat → Nat → Int32) : Int32 := if 0 ≤ f ∧ f < sc 2 then nI (ctN (mayB sc ar f) (cl (sc 4))) else -1
def v_dryOn (i : Int32) (sc : Nat → Int32) (ar : Nat → Nat → Int32) : Int32 := if 0 ≤ i ∧ i < sc 4 then (if dryD ar (cl i) ≤ 3000 then nI (dryD ar (cl i)) else -2) else -1
def v_quill (i b : Int32) (sc : Nat → Int32) (ar : Nat → Nat → Int32) : Int32 := if 0 ≤ i ∧ i < sc 5 then (if b = 0 then ar 25 (cl i) else if b = 1 then ar 26 (cl i) else if b = 2 then ar 28 (cl i) else if b = 3 then ar 27 (cl i) else if b = 4 then ar 29 (cl i) else if b = 5 then smI (fun k => ar 22 (cl (ar 30 (4 * cl i + k)))) (cl (ar 28 (cl i))) else -1) else -1
def v_baleOf (i b : Int32) (sc : Nat → Int32) (ar : Nat → Nat → Int32) : Int32 := if 0 ≤ i ∧ i < sc 6 then (if b = 0 then ar 31 (cl i) else if b = 1 then ar 32 (cl i) else if b = 2 then ar 33 (cl i) else if b = 3 then ar 34 (cl i) else if b = 4 then bI (¬ ar 39 (cl i) = 0) else if b = 5 then ar 35 (cl i) else -1) else -1
def looB (ar : Nat → Nat → Int32) (f : Int32) (q : Nat) : Bool := decide (ar 25 q = f ∧ ar 29 q = -2)
def v_about (f b : Int32) (sc : Nat → Int32) (ar : Nat → Nat → Int32) : Int32 := if 0 ≤ f ∧ f < sc 2 then (if b = 0 then ar 11 (cl f) else if b = 1 then ar 12 (cl f) else if b = 2 then ar 13 (cl f) else if b = 3 then ar 14 (cl f) else if b = 4 then nI (ctN (looB ar f) (cl (sc 5))) else if b = 5 then nI (ctN (fun i => decide (ar 18 i = f)) (cl (sc 4))) else -1) else -1
def v_chest (i b : Int32) (sc : Nat → Int32) (ar : Nat → Nat → Int32) : Int32 := if 0 ≤ i ∧ i < sc 7 then (if b = 0 then ar 36 (cl i) else if b = 1 then ar 37 (cl i) else if b = 2 then ar 38 (cl i) else -1) else -1
def v_share (c g : Int32) (sc : Nat → Int32) (ar : Nat → Nat → Int32) : Int32 := if (0 ≤ c ∧ c < sc 7) ∧ (0 ≤ g ∧ g < sc 3) then smI (fun i => if ar 19 i = g ∧ chO ar i = c then ar 20 i else 0) (cl (sc 4)) else -1
def v_traced (g a b : Int32) (sc : Nat → Int32) (ar : Nat → Nat → Int32) : Int32 := if 0 ≤ g ∧ g < sc 3 then trF ar g a b (cl (sc 4)) else -1
def v_count (b : Int32) (sc : Nat → Int32) : Int32 := if b = 0 then sc 2 else if b = 1 then sc 3 else if b = 2 then sc 4 else if b = 3 then sc 5 else if b = 4 then sc 6 else if b = 5 then sc 7 else if b = 6 then sc 8 else if b = 7 then sc 8 / 60 else -1
/-- part: whether it throws, else the strip -/
def t_part (q k : Int32) (sc : Nat → Int32) (ar : Nat → Nat → Int32) : Prop := ¬ ((0 ≤ q ∧ q < sc 5) ∧ 0 ≤ k ∧ k < ar 28 (cl q))
theorem sw6 (x : Int32) : (x.toInt < 0 ∨ 5 < x.toInt) ∨ x = 0 ∨ x = 1 ∨ x = 2 ∨ x = 3 ∨ x = 4 ∨ x = 5 := by
  by_cases h : x.toInt < 0 ∨ 5 < x.toInt
  · exact Or.inl h
  · right
    have hx : x.toInt = 0 ∨ x.toInt = 1 ∨ x.toInt = 2 ∨ x.toInt = 3 ∨ x.toInt = 4 ∨ x.toInt = 5 := by omega
    rcases hx with h1 | h1 | h1 | h1 | h1 | h1
    · have e : x = 0 := Int32.toInt_inj.mp (h1.trans (by decide)); exact Or.inl e
    · have e : x = 1 := Int32.toInt_inj.mp (h1.trans (by decide)); exact Or.inr (Or.inl e)
    · have e : x = 2 := Int32.toInt_inj.mp (h1.trans (by decide)); exact Or.inr (Or.inr (Or.inl e))
    · have e : x = 3 := Int32.toInt_inj.mp (h1.trans (by decide)); exact Or.inr (Or.inr (Or.inr (Or.inl e)))
    · have e : x = 4 := Int32.toInt_inj.mp (h1.trans (by decide)); exact Or.inr (Or.inr (Or.inr (Or.inr (Or.inl e))))
    · have e : x = 5 := Int32.toInt_inj.mp (h1.trans (by decide)); exact Or.inr (Or.inr (Or.inr (Or.inr (Or.inr (e)))))
theorem swo6 {x : Int32} (h : x.toInt < 0 ∨ 5 < x.toInt) : ¬ x = 0 ∧ ¬ x = 1 ∧ ¬ x = 2 ∧ ¬ x = 3 ∧ ¬ x = 4 ∧ ¬ x = 5 := by
  refine ⟨?_, ?_, ?_, ?_, ?_, ?_⟩ <;> (rintro rfl; revert h; decide)
theorem sw8 (x : Int32) : (x.toInt < 0 ∨ 7 < x.toInt) ∨ x = 0 ∨ x = 1 ∨ x = 2 ∨ x = 3 ∨ x = 4 ∨ x = 5 ∨ x = 6 ∨ x = 7 := by
  by_cases h : x.toInt < 0 ∨ 7 < x.toInt
  · exact Or.inl h
  · right
    have hx : x.toInt = 0 ∨ x.toInt = 1 ∨ x.toInt = 2 ∨ x.toInt = 3 ∨ x.toInt = 4 ∨ x.toInt = 5 ∨ x.toInt = 6 ∨ x.toInt = 7 := by omega
    rcases hx with h1 | h1 | h1 | h1 | h1 | h1 | h1 | h1
    · have e : x = 0 := Int32.toInt_inj.mp (h1.trans (by decide)); exact Or.inl e
    · have e : x = 1 := Int32.toInt_inj.mp (h1.trans (by decide)); exact Or.inr (Or.inl e)
    · have e : x = 2 := Int32.toInt_inj.mp (h1.trans (by decide)); exact Or.inr (Or.inr (Or.inl e))
    · have e : x = 3 := Int32.toInt_inj.mp (h1.trans (by decide)); exact Or.inr (Or.inr (Or.inr (Or.inl e)))
    · have e : x = 4 := Int32.toInt_inj.mp (h1.trans (by decide)); exact Or.inr (Or.inr (Or.inr (Or.inr (Or.inl e))))
    · have e : x = 5 := Int32.toInt_inj.mp (h1.trans (by decide)); exact Or.inr (Or.inr (Or.inr (Or.inr (Or.inr (Or.inl e)))))
    · have e : x = 6 := Int32.toInt_inj.mp (h1.trans (by decide)); exact Or.inr (Or.inr (Or.inr (Or.inr (Or.inr (Or.inr (Or.inl e))))))
    · have e : x = 7 := Int32.toInt_inj.mp (h1.trans (by decide)); exact Or.inr (Or.inr (Or.inr (Or.inr (Or.inr (Or.inr (Or.inr (e)))))))
theorem swo8 {x : Int32} (h : x.toInt < 0 ∨ 7 < x.toInt) : ¬ x = 0 ∧ ¬ x = 1 ∧ ¬ x = 2 ∧ ¬ x = 3 ∧ ¬ x = 4 ∧ ¬ x = 5 ∧ ¬ x = 6 ∧ ¬ x = 7 := by
  refine ⟨?_, ?_, ?_, ?_, ?_, ?_, ?_, ?_⟩ <;> (rintro rfl; revert h; decide)
