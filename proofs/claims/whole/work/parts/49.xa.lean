theorem xA0 {cy : Nat → ClassId} {ad : zA} {sc : Nat → Int32} {ar tau : Nat → Nat → Int32} {js mo : Nat → Int32} {cp cn al : Nat → Nat} {q3 pa : Nat → Nat → Int32} {pn : Nat → Nat} (i : Nat) : xW cy ad sc ar tau js mo cp cn al q3 pa pn 0 i = (if i = 0 then some (.inr (10, [.ref (ad 6 0), .ref (ad 6 1), .ref (ad 6 2), .ref (ad 6 3), .ref (ad 6 4), .ref (ad 6 5), .ref (ad 1 0), .ref (ad 2 0), .ref (ad 3 0), .ref (ad 4 0), .int (sc 9), .int (sc 10), .int (sc 8), .int (sc 1)])) else none) := rfl
theorem xA1 {cy : Nat → ClassId} {ad : zA} {sc : Nat → Int32} {ar tau : Nat → Nat → Int32} {js mo : Nat → Int32} {cp cn al : Nat → Nat} {q3 pa : Nat → Nat → Int32} {pn : Nat → Nat} (i : Nat) : xW cy ad sc ar tau js mo cp cn al q3 pa pn 1 i = (if i = 0 then some (.inr (9, [.ref (ad 5 0)])) else none) := rfl
theorem xA2 {cy : Nat → ClassId} {ad : zA} {sc : Nat → Int32} {ar tau : Nat → Nat → Int32} {js mo : Nat → Int32} {cp cn al : Nat → Nat} {q3 pa : Nat → Nat → Int32} {pn : Nat → Nat} (i : Nat) : xW cy ad sc ar tau js mo cp cn al q3 pa pn 2 i = (if i = 0 then some (.inr (5, [.ref (ad 4 1), .ref (ad 4 2), .ref (ad 4 3), .ref (ad 4 4), .ref (ad 4 5), .ref (ad 4 6), .int (js 0), .int (js 1)])) else none) := rfl
theorem xA3 {cy : Nat → ClassId} {ad : zA} {sc : Nat → Int32} {ar tau : Nat → Nat → Int32} {js mo : Nat → Int32} {cp cn al : Nat → Nat} {q3 pa : Nat → Nat → Int32} {pn : Nat → Nat} (i : Nat) : xW cy ad sc ar tau js mo cp cn al q3 pa pn 3 i = (if i = 0 then some (.inr (6, [.ref (ad 4 7), .ref (ad 4 8), .ref (ad 4 9), .ref (ad 4 10), .int (js 2), .int (js 3), .int (js 4)])) else none) := rfl
theorem xA4 {cy : Nat → ClassId} {ad : zA} {sc : Nat → Int32} {ar tau : Nat → Nat → Int32} {js mo : Nat → Int32} {cp cn al : Nat → Nat} {q3 pa : Nat → Nat → Int32} {pn : Nat → Nat} (i : Nat) : xW cy ad sc ar tau js mo cp cn al q3 pa pn 4 i = (if i < 11 then some (.inl (cy 0, xLen i, .inl (if i = 0 then ar 16 else tau i))) else none) := rfl
theorem xA5 {cy : Nat → ClassId} {ad : zA} {sc : Nat → Int32} {ar tau : Nat → Nat → Int32} {js mo : Nat → Int32} {cp cn al : Nat → Nat} {q3 pa : Nat → Nat → Int32} {pn : Nat → Nat} (i : Nat) : xW cy ad sc ar tau js mo cp cn al q3 pa pn 5 i = (if i = 0 then some (.inl (cy 1, 3001, .inl (ar 17))) else none) := rfl
theorem xA6 {cy : Nat → ClassId} {ad : zA} {sc : Nat → Int32} {ar tau : Nat → Nat → Int32} {js mo : Nat → Int32} {cp cn al : Nat → Nat} {q3 pa : Nat → Nat → Int32} {pn : Nat → Nat} (i : Nat) : xW cy ad sc ar tau js mo cp cn al q3 pa pn 6 i = (if i < 6 then some (.inr (0, [.int (mo i), .ref (ad 7 i), .int (nI (cn i))])) else none) := rfl
theorem xA7 {cy : Nat → ClassId} {ad : zA} {sc : Nat → Int32} {ar tau : Nat → Nat → Int32} {js mo : Nat → Int32} {cp cn al : Nat → Nat} {q3 pa : Nat → Nat → Int32} {pn : Nat → Nat} (i : Nat) : xW cy ad sc ar tau js mo cp cn al q3 pa pn 7 i = (if i < 6 ∧ 0 < cp i then some (.inl (cy 2, cp i, .inr (.inr (.inr (.inr (xEl ad (8 + i) (cn i))))))) else none) := rfl
theorem xA8 {cy : Nat → ClassId} {ad : zA} {sc : Nat → Int32} {ar tau : Nat → Nat → Int32} {js mo : Nat → Int32} {cp cn al : Nat → Nat} {q3 pa : Nat → Nat → Int32} {pn : Nat → Nat} (i : Nat) : xW cy ad sc ar tau js mo cp cn al q3 pa pn 8 i = (if i < al 0 then some (.inr (3, [.int (ar 11 i), .int (ar 12 i), .int (ar 13 i), .int (ar 14 i)])) else none) := rfl
theorem xA9 {cy : Nat → ClassId} {ad : zA} {sc : Nat → Int32} {ar tau : Nat → Nat → Int32} {js mo : Nat → Int32} {cp cn al : Nat → Nat} {q3 pa : Nat → Nat → Int32} {pn : Nat → Nat} (i : Nat) : xW cy ad sc ar tau js mo cp cn al q3 pa pn 9 i = (if i < al 1 then some (.inr (4, [.int (ar 15 i)])) else none) := rfl
theorem xA10 {cy : Nat → ClassId} {ad : zA} {sc : Nat → Int32} {ar tau : Nat → Nat → Int32} {js mo : Nat → Int32} {cp cn al : Nat → Nat} {q3 pa : Nat → Nat → Int32} {pn : Nat → Nat} (i : Nat) : xW cy ad sc ar tau js mo cp cn al q3 pa pn 10 i = (if i < al 2 then some (.inr (8, [.int (ar 18 i), .int (ar 19 i), .int (ar 20 i), .int (ar 21 i), .int (ar 22 i), .int (ar 23 i), .int (ar 24 i)])) else none) := rfl
theorem xA11 {cy : Nat → ClassId} {ad : zA} {sc : Nat → Int32} {ar tau : Nat → Nat → Int32} {js mo : Nat → Int32} {cp cn al : Nat → Nat} {q3 pa : Nat → Nat → Int32} {pn : Nat → Nat} (i : Nat) : xW cy ad sc ar tau js mo cp cn al q3 pa pn 11 i = (if i < al 3 then some (.inr (7, [.int (ar 25 i), .int (ar 27 i), .int (ar 29 i), .int (q3 0 i), .ref (ad 14 i), .int (q3 1 i), .int (q3 2 i), .int (q3 3 i)])) else none) := rfl
theorem xA12 {cy : Nat → ClassId} {ad : zA} {sc : Nat → Int32} {ar tau : Nat → Nat → Int32} {js mo : Nat → Int32} {cp cn al : Nat → Nat} {q3 pa : Nat → Nat → Int32} {pn : Nat → Nat} (i : Nat) : xW cy ad sc ar tau js mo cp cn al q3 pa pn 12 i = (if i < al 4 then some (.inr (1, [.int (ar 31 i), .int (ar 32 i), .int (ar 33 i), .int (ar 34 i), .int (ar 39 i), .int (ar 35 i)])) else none) := rfl
theorem xA13 {cy : Nat → ClassId} {ad : zA} {sc : Nat → Int32} {ar tau : Nat → Nat → Int32} {js mo : Nat → Int32} {cp cn al : Nat → Nat} {q3 pa : Nat → Nat → Int32} {pn : Nat → Nat} (i : Nat) : xW cy ad sc ar tau js mo cp cn al q3 pa pn 13 i = (if i < al 5 then some (.inr (2, [.int (ar 36 i), .int (ar 38 i), .int (ar 37 i)])) else none) := rfl
theorem xA14 {cy : Nat → ClassId} {ad : zA} {sc : Nat → Int32} {ar tau : Nat → Nat → Int32} {js mo : Nat → Int32} {cp cn al : Nat → Nat} {q3 pa : Nat → Nat → Int32} {pn : Nat → Nat} (i : Nat) : xW cy ad sc ar tau js mo cp cn al q3 pa pn 14 i = (if i < al 3 then some (.inl (cy 0, pn i, .inl (pa i))) else none) := rfl
theorem xA_big {cy : Nat → ClassId} {ad : zA} {sc : Nat → Int32} {ar tau : Nat → Nat → Int32} {js mo : Nat → Int32} {cp cn al : Nat → Nat} {q3 pa : Nat → Nat → Int32} {pn : Nat → Nat} {k i : Nat} (h : 14 < k) : xW cy ad sc ar tau js mo cp cn al q3 pa pn k i = none := by
  unfold xW
  rw [if_neg (show ¬ k = 0 by omega), if_neg (show ¬ k = 1 by omega), if_neg (show ¬ k = 2 by omega), if_neg (show ¬ k = 3 by omega), if_neg (show ¬ k = 4 by omega), if_neg (show ¬ k = 5 by omega), if_neg (show ¬ k = 6 by omega), if_neg (show ¬ k = 7 by omega), if_neg (show ¬ k = 8 by omega), if_neg (show ¬ k = 9 by omega), if_neg (show ¬ k = 10 by omega), if_neg (show ¬ k = 11 by omega), if_neg (show ¬ k = 12 by omega), if_neg (show ¬ k = 13 by omega), if_neg (show ¬ k = 14 by omega)]
def seen (al : Nat → Nat) (j i : Nat) : Prop := (j = 16 ∨ j = 17 ∨ (11 ≤ j ∧ j ≤ 14 ∧ i < al 0) ∨ (j = 15 ∧ i < al 1) ∨ (18 ≤ j ∧ j ≤ 24 ∧ i < al 2) ∨ (25 ≤ j ∧ j ≤ 29 ∧ i < al 3) ∨ ((31 ≤ j ∧ j ≤ 35 ∨ j = 39) ∧ i < al 4) ∨ (36 ≤ j ∧ j ≤ 38 ∧ i < al 5))
def uN (f : Nat → Nat) (k x : Nat) : Nat → Nat := fun i => if i = k then x else f i
theorem uN_s (f : Nat → Nat) (k x : Nat) : uN f k x k = x := if_pos rfl
theorem uN_n (f : Nat → Nat) {k i : Nat} (x : Nat) (h : i ≠ k) : uN f k x i = f i := if_neg h
/-- the class sees no other numbers -/
theorem xW_seen {cy : Nat → ClassId} {ad : zA} {sc : Nat → Int32} {ar tau : Nat → Nat → Int32} {js mo : Nat → Int32} {cp cn al : Nat → Nat} {q3 pa : Nat → Nat → Int32} {pn : Nat → Nat} {sc2 : Nat → Int32} {ar2 : Nat → Nat → Int32} (hsc : sc2 8 = sc 8 ∧ sc2 9 = sc 9 ∧ sc2 10 = sc 10 ∧ sc2 1 = sc 1) (har : ∀ j i, seen al j i → ar2 j i = ar j i) : xW cy ad sc2 ar2 tau js mo cp cn al q3 pa pn = xW cy ad sc ar tau js mo cp cn al q3 pa pn := by
  have e16 : ar2 16 = ar 16 := funext (fun i => har 16 i (Or.inl rfl))
  have e17 : ar2 17 = ar 17 := funext (fun i => har 17 i (Or.inr (Or.inl rfl)))
  obtain ⟨s8, s9, s10, s1⟩ := hsc
  funext a b
  rcases (by omega : a = 0 ∨ a = 1 ∨ a = 2 ∨ a = 3 ∨ a = 4 ∨ a = 5 ∨ a = 6 ∨ a = 7 ∨ a = 8 ∨ a = 9 ∨ a = 10 ∨ a = 11 ∨ a = 12 ∨ a = 13 ∨ a = 14 ∨ 14 < a) with rfl | rfl | rfl | rfl | rfl | rfl | rfl | rfl | rfl | rfl | rfl | rfl | rfl | rfl | rfl | h
  · rw [xA0, xA0, s8, s9, s10, s1]
  · rfl
  · rfl
  · rfl
  · rw [xA4, xA4, e16]
  · rw [xA5, xA5, e17]
  · rfl
  · rfl
  · rw [xA8, xA8]
    by_cases hb : b < al 0
    · rw [if_pos hb, if_pos hb, har 11 b (by unfold seen; omega), har 12 b (by unfold seen; omega), har 13 b (by unfold seen; omega), har 14 b (by unfold seen; omega)]
    · rw [if_neg hb, if_neg hb]
  · rw [xA9, xA9]
    by_cases hb : b < al 1
    · rw [if_pos hb, if_pos hb, har 15 b (by unfold seen; omega)]
    · rw [if_neg hb, if_neg hb]
  · rw [xA10, xA10]
    by_cases hb : b < al 2
    · rw [if_pos hb, if_pos hb, har 18 b (by unfold seen; omega), har 19 b (by unfold seen; omega), har 20 b (by unfold seen; omega), har 21 b (by unfold seen; omega), har 22 b (by unfold seen; omega), har 23 b (by unfold seen; omega), har 24 b (by unfold seen; omega)]
    · rw [if_neg hb, if_neg hb]
  · rw [xA11, xA11]
    by_cases hb : b < al 3
    · rw [if_pos hb, if_pos hb, har 25 b (by unfold seen; omega), har 27 b (by unfold seen; omega), har 29 b (by unfold seen; omega)]
    · rw [if_neg hb, if_neg hb]
  · rw [xA12, xA12]
    by_cases hb : b < al 4
    · rw [if_pos hb, if_pos hb, har 31 b (by unfold seen; omega), har 32 b (by unfold seen; omega), har 33 b (by unfold seen; omega), har 34 b (by unfold seen; omega), har 39 b (by unfold seen; omega), har 35 b (by unfold seen; omega)]
    · rw [if_neg hb, if_neg hb]
  · rw [xA13, xA13]
    by_cases hb : b < al 5
    · rw [if_pos hb, if_pos hb, har 36 b (by unfold seen; omega), har 38 b (by unfold seen; omega), har 37 b (by unfold seen; omega)]
    · rw [if_neg hb, if_neg hb]
  · rfl
  · rw [xA_big h, xA_big h]
theorem xW_old {cy : Nat → ClassId} {ad : zA} {sc : Nat → Int32} {ar tau : Nat → Nat → Int32} {js mo : Nat → Int32} {cp cn al : Nat → Nat} {q3 pa : Nat → Nat → Int32} {pn : Nat → Nat} {ad2 : zA} {ar2 : Nat → Nat → Int32} {mo2 : Nat → Int32} {cp2 cn2 al2 : Nat → Nat} {q32 pa2 : Nat → Nat → Int32} {pn2 : Nat → Nat} {k n : Nat} (hk : k < 6) (haln : al k = n) (had : ∀ a b, ¬ (a = 7 ∧ b = k) → ¬ (a = 20 ∧ b = 0) → ¬ (a = 8 + k ∧ b = n) → ¬ (k = 3 ∧ a = 14 ∧ b = n) → ad2 a b = ad a b) (har : ∀ j i, seen al j i → ar2 j i = ar j i) (hmo : ∀ i, i ≠ k → mo2 i = mo i) (hcp : ∀ i, i ≠ k → cp2 i = cp i) (hcn : ∀ i, i ≠ k → cn2 i = cn i) (hal : ∀ i, i ≠ k → al2 i = al i) (halk : al2 k = n + 1) (hq : ∀ i, i < al 3 → (∀ j, q32 j i = q3 j i) ∧ pa2 i = pa i ∧ pn2 i = pn i) (a b : Nat) (x6 : ¬ (a = 6 ∧ b = k)) (x7 : ¬ (a = 7 ∧ b = k)) (x8 : ¬ (a = 8 + k ∧ b = n)) (x14 : ¬ (k = 3 ∧ a = 14 ∧ b = n)) : xW cy ad2 sc ar2 tau js mo2 cp2 cn2 al2 q32 pa2 pn2 a b = xW cy ad sc ar tau js mo cp cn al q3 pa pn a b := by
  have e16 : ar2 16 = ar 16 := funext (fun i => har 16 i (Or.inl rfl))
  have e17 : ar2 17 = ar 17 := funext (fun i => har 17 i (Or.inr (Or.inl rfl)))
  have hA : ∀ a b, a < 7 → ad2 a b = ad a b := fun a b h => had a b (by omega) (by omega) (by omega) (by omega)
  have hlt : ∀ c b, c < 6 → ¬ (c = k ∧ b = n) → (b < al2 c ↔ b < al c) := fun c b hc hb => by
    by_cases e : c = k
    · subst e; rw [halk, haln]; omega
    · rw [hal c e]
  rcases (by omega : a = 0 ∨ a = 1 ∨ a = 2 ∨ a = 3 ∨ a = 4 ∨ a = 5 ∨ a = 6 ∨ a = 7 ∨ a = 8 ∨ a = 9 ∨ a = 10 ∨ a = 11 ∨ a = 12 ∨ a = 13 ∨ a = 14 ∨ 14 < a) with rfl | rfl | rfl | rfl | rfl | rfl | rfl | rfl | rfl | rfl | rfl | rfl | rfl | rfl | rfl | h
  · rw [xA0, xA0, hA 6 0 (by decide), hA 6 1 (by decide), hA 6 2 (by decide), hA 6 3 (by decide), hA 6 4 (by decide), hA 6 5 (by decide), hA 1 0 (by decide), hA 2 0 (by decide), hA 3 0 (by decide), hA 4 0 (by decide)]
  · rw [xA1, xA1, hA 5 0 (by decide)]
  · rw [xA2, xA2, hA 4 1 (by decide), hA 4 2 (by decide), hA 4 3 (by decide), hA 4 4 (by decide), hA 4 5 (by decide), hA 4 6 (by decide)]
  · rw [xA3, xA3, hA 4 7 (by decide), hA 4 8 (by decide), hA 4 9 (by decide), hA 4 10 (by decide)]
  · rw [xA4, xA4, e16]
  · rw [xA5, xA5, e17]
  · have hb : b ≠ k := fun z => x6 ⟨rfl, z⟩
    rw [xA6, xA6, hmo b hb, hcn b hb, had 7 b (by omega) (by omega) (by omega) (by omega)]
  · have hb : b ≠ k := fun z => x7 ⟨rfl, z⟩
    by_cases h6 : b < 6
    · have e : xEl ad2 (8 + b) (cn b) = xEl ad (8 + b) (cn b) := by
        funext j; unfold xEl; rw [had (8 + b) j (by omega) (by omega) (by omega) (by omega)]
      rw [xA7, xA7, hcp b hb, hcn b hb, e]
    · rw [xA7, xA7, if_neg (fun z => h6 z.1), if_neg (fun z => h6 z.1)]
  · have hl := hlt 0 b (by decide) (by omega)
    rw [xA8, xA8]
    by_cases hb : b < al 0
    · rw [if_pos hb, if_pos (hl.mpr hb), har 11 b (by unfold seen; omega), har 12 b (by unfold seen; omega), har 13 b (by unfold seen; omega), har 14 b (by unfold seen; omega)]
    · rw [if_neg hb, if_neg (fun z => hb (hl.mp z))]
  · have hl := hlt 1 b (by decide) (by omega)
    rw [xA9, xA9]
    by_cases hb : b < al 1
    · rw [if_pos hb, if_pos (hl.mpr hb), har 15 b (by unfold seen; omega)]
    · rw [if_neg hb, if_neg (fun z => hb (hl.mp z))]
  · have hl := hlt 2 b (by decide) (by omega)
    rw [xA10, xA10]
    by_cases hb : b < al 2
    · rw [if_pos hb, if_pos (hl.mpr hb), har 18 b (by unfold seen; omega), har 19 b (by unfold seen; omega), har 20 b (by unfold seen; omega), har 21 b (by unfold seen; omega), har 22 b (by unfold seen; omega), har 23 b (by unfold seen; omega), har 24 b (by unfold seen; omega)]
    · rw [if_neg hb, if_neg (fun z => hb (hl.mp z))]
  · have hl := hlt 3 b (by decide) (by omega)
    rw [xA11, xA11]
    by_cases hb : b < al 3
    · rw [if_pos hb, if_pos (hl.mpr hb), har 25 b (by unfold seen; omega), har 27 b (by unfold seen; omega), har 29 b (by unfold seen; omega), (hq b hb).1 0, (hq b hb).1 1, (hq b hb).1 2, (hq b hb).1 3, had 14 b (by omega) (by omega) (by omega) (by omega)]
    · rw [if_neg hb, if_neg (fun z => hb (hl.mp z))]
  · have hl := hlt 4 b (by decide) (by omega)
    rw [xA12, xA12]
    by_cases hb : b < al 4
    · rw [if_pos hb, if_pos (hl.mpr hb), har 31 b (by unfold seen; omega), har 32 b (by unfold seen; omega), har 33 b (by unfold seen; omega), har 34 b (by unfold seen; omega), har 39 b (by unfold seen; omega), har 35 b (by unfold seen; omega)]
    · rw [if_neg hb, if_neg (fun z => hb (hl.mp z))]
  · have hl := hlt 5 b (by decide) (by omega)
    rw [xA13, xA13]
    by_cases hb : b < al 5
    · rw [if_pos hb, if_pos (hl.mpr hb), har 36 b (by unfold seen; omega), har 38 b (by unfold seen; omega), har 37 b (by unfold seen; omega)]
    · rw [if_neg hb, if_neg (fun z => hb (hl.mp z))]
  · have hl := hlt 3 b (by decide) (by omega)
    rw [xA14, xA14]
    by_cases hb : b < al 3
    · rw [if_pos hb, if_pos (hl.mpr hb), (hq b hb).2.1, (hq b hb).2.2]
    · rw [if_neg hb, if_neg (fun z => hb (hl.mp z))]
  · rw [xA_big h, xA_big h]
