theorem putA_r (ar : Nat → Nat → Int32) (j n : Nat) (x : Int32) : putA ar j n x j = upd (ar j) n x := upA_s _ _ _
theorem upd_upd (f : Nat → Int32) (n : Nat) (x y : Int32) : upd (upd f n x) n y = upd f n y := by
  funext i; unfold upd; by_cases e : i = n
  · rw [if_pos e, if_pos e]
  · rw [if_neg e, if_neg e, if_neg e]
theorem bA6_row {fN : Nat} {X Y : Nat → Nat → Int32} (h11 : X 11 = Y 11) (h12 : X 12 = Y 12) (h13 : X 13 = Y 13) : bA6 fN X 12 = bA6 fN Y 12 ∧ bA6 fN X 13 = bA6 fN Y 13 := by
  unfold bA6
  rw [h11, h12, h13]
  split
  · rw [putA_n _ _ _ (by decide), putA_n _ _ _ (by decide), putA_r, putA_r, h12, h13]; exact ⟨rfl, rfl⟩
  · split
    · refine ⟨by rw [putA_r, putA_r, h12], by rw [putA_n _ _ _ (by decide), putA_n _ _ _ (by decide)]; exact h13⟩
    · exact ⟨h12, h13⟩
theorem bDu_row {fN : Nat} {X Y : Nat → Nat → Int32} (h11 : X 11 = Y 11) (h12 : X 12 = Y 12) (h13 : X 13 = Y 13) : bDu fN X = bDu fN Y := by
  unfold bDu; rw [h11, h12, h13]
/-- what the class has of a bale: the quills bound, the reckoning, the chest -/
def clB (old : Bool) (p : Nat → Bool) (n5 c b fN gN : Nat) (day : Int32) (ar : Nat → Nat → Int32) : Nat → Nat → Int32 := if old = true then putA (rkA b fN gN c day (bnd p n5 (nI b) ar)) 37 c (rkA b fN gN c day (bnd p n5 (nI b) ar) 37 c + 1) else putA (putA (putA (rkA b fN gN c day (bnd p n5 (nI b) ar)) 36 c (nI gN)) 38 c (nI b)) 37 c 1
theorem rkA_k (b fN gN c : Nat) (day : Int32) (A : Nat → Nat → Int32) {j : Nat} (h : j < 12 ∨ (14 < j ∧ j < 31) ∨ (35 < j ∧ j ≠ 39)) : rkA b fN gN c day A j = A j := by
  unfold rkA
  rw [putA_n _ _ _ (by omega), putA_n _ _ _ (by omega), putA_n _ _ _ (by omega), putA_n _ _ _ (by omega), putA_n _ _ _ (by omega), putA_n _ _ _ (by omega), putA_n _ _ _ (by omega), bA6_k fN A (by omega) (by omega)]
theorem rkA_r (b fN gN c : Nat) (day : Int32) (A : Nat → Nat → Int32) : rkA b fN gN c day A 12 = bA6 fN A 12 ∧ rkA b fN gN c day A 13 = bA6 fN A 13 ∧ rkA b fN gN c day A 14 = upd (A 14) fN (A 14 fN + rkP fN gN A) ∧ rkA b fN gN c day A 31 = upd (A 31) b (nI fN) ∧ rkA b fN gN c day A 32 = upd (A 32) b (nI gN) ∧ rkA b fN gN c day A 33 = upd (A 33) b day ∧ rkA b fN gN c day A 34 = upd (A 34) b (nI c) ∧ rkA b fN gN c day A 35 = upd (A 35) b (rkP fN gN A) ∧ rkA b fN gN c day A 39 = upd (A 39) b (bDu fN A) := by
  have e : ∀ j, j ≠ 12 → j ≠ 13 → bA6 fN A j = A j := fun j h1 h2 => bA6_k fN A h1 h2
  unfold rkA
  refine ⟨?_, ?_, ?_, ?_, ?_, ?_, ?_, ?_, ?_⟩
  · rw [putA_n _ _ _ (by decide), putA_n _ _ _ (by decide), putA_n _ _ _ (by decide), putA_n _ _ _ (by decide), putA_n _ _ _ (by decide), putA_n _ _ _ (by decide), putA_n _ _ _ (by decide)]
  · rw [putA_n _ _ _ (by decide), putA_n _ _ _ (by decide), putA_n _ _ _ (by decide), putA_n _ _ _ (by decide), putA_n _ _ _ (by decide), putA_n _ _ _ (by decide), putA_n _ _ _ (by decide)]
  · rw [putA_n _ _ _ (by decide), putA_n _ _ _ (by decide), putA_n _ _ _ (by decide), putA_n _ _ _ (by decide), putA_n _ _ _ (by decide), putA_n _ _ _ (by decide), putA_r, e 14 (by decide) (by decide)]
  · rw [putA_n _ _ _ (by decide), putA_n _ _ _ (by decide), putA_n _ _ _ (by decide), putA_n _ _ _ (by decide), putA_n _ _ _ (by decide), putA_r, putA_n _ _ _ (by decide), e 31 (by decide) (by decide)]
  · rw [putA_n _ _ _ (by decide), putA_n _ _ _ (by decide), putA_n _ _ _ (by decide), putA_n _ _ _ (by decide), putA_r, putA_n _ _ _ (by decide), putA_n _ _ _ (by decide), e 32 (by decide) (by decide)]
  · rw [putA_n _ _ _ (by decide), putA_n _ _ _ (by decide), putA_n _ _ _ (by decide), putA_r, putA_n _ _ _ (by decide), putA_n _ _ _ (by decide), putA_n _ _ _ (by decide), e 33 (by decide) (by decide)]
  · rw [putA_n _ _ _ (by decide), putA_n _ _ _ (by decide), putA_r, putA_n _ _ _ (by decide), putA_n _ _ _ (by decide), putA_n _ _ _ (by decide), putA_n _ _ _ (by decide), e 34 (by decide) (by decide)]
  · rw [putA_r, putA_n _ _ _ (by decide), putA_n _ _ _ (by decide), putA_n _ _ _ (by decide), putA_n _ _ _ (by decide), putA_n _ _ _ (by decide), putA_n _ _ _ (by decide), e 35 (by decide) (by decide)]
  · rw [putA_n _ _ _ (by decide), putA_r, putA_n _ _ _ (by decide), putA_n _ _ _ (by decide), putA_n _ _ _ (by decide), putA_n _ _ _ (by decide), putA_n _ _ _ (by decide), e 39 (by decide) (by decide)]
/-- the reference's rows of a bale -/
theorem bAll_r (c b fN gN : Nat) (f g : Int32) (sc : Nat → Int32) (ar : Nat → Nat → Int32) : (∀ j, j < 12 ∨ (14 < j ∧ j < 31) ∨ 39 < j → bAll c b fN gN f g sc ar j = ar j) ∧ bAll c b fN gN f g sc ar 12 = bA6 fN ar 12 ∧ bAll c b fN gN f g sc ar 13 = bA6 fN ar 13 ∧ bAll c b fN gN f g sc ar 14 = upd (ar 14) fN (ar 14 fN + rkP fN gN ar) ∧ bAll c b fN gN f g sc ar 31 = upd (ar 31) b f ∧ bAll c b fN gN f g sc ar 32 = upd (ar 32) b g ∧ bAll c b fN gN f g sc ar 33 = upd (ar 33) b (sc 8) ∧ bAll c b fN gN f g sc ar 34 = upd (ar 34) b (nI c) ∧ bAll c b fN gN f g sc ar 35 = upd (ar 35) b (rkP fN gN ar) ∧ bAll c b fN gN f g sc ar 39 = upd (ar 39) b (bDu fN ar) ∧ bAll c b fN gN f g sc ar 36 = bA1 c g sc ar 36 ∧ bAll c b fN gN f g sc ar 38 = bA1 c g sc ar 38 ∧ bAll c b fN gN f g sc ar 37 = upd (bA1 c g sc ar 37) c (bA1 c g sc ar 37 c + 1) := by
  have e1 : ∀ j, j ≠ 36 → j ≠ 37 → j ≠ 38 → bA1 c g sc ar j = ar j := fun j h1 h2 h3 => bA1_k c g sc ar h1 h2 h3
  have hX : ∀ j, j < 31 → bA3 c b f g (sc 8) (bA1 c g sc ar) j = ar j := fun j hj => by rw [bA3_k _ _ _ _ _ _ (by omega) (by omega) (by omega) (by omega) (by omega), e1 j (by omega) (by omega) (by omega)]
  have hd : bDu fN (bA3 c b f g (sc 8) (bA1 c g sc ar)) = bDu fN ar := bDu_row (hX 11 (by decide)) (hX 12 (by decide)) (hX 13 (by decide))
  have h5 : ∀ j, j ≠ 35 → j ≠ 39 → bA5 b fN gN (bA3 c b f g (sc 8) (bA1 c g sc ar)) j = bA3 c b f g (sc 8) (bA1 c g sc ar) j := fun j h1 h2 => bA5_k b fN gN _ h1 h2
  have h35 : bA5 b fN gN (bA3 c b f g (sc 8) (bA1 c g sc ar)) 35 = upd (ar 35) b (rkP fN gN ar) := by
    unfold bA5
    rw [putA_r, putA_n _ _ _ (by decide), hd, hX 16 (by decide), bA3_k _ _ _ _ _ _ (by decide) (by decide) (by decide) (by decide) (by decide), e1 35 (by decide) (by decide) (by decide)]; rfl
  have h39 : bA5 b fN gN (bA3 c b f g (sc 8) (bA1 c g sc ar)) 39 = upd (ar 39) b (bDu fN ar) := by
    unfold bA5
    rw [putA_n _ _ _ (by decide), putA_r, hd, bA3_k _ _ _ _ _ _ (by decide) (by decide) (by decide) (by decide) (by decide), e1 39 (by decide) (by decide) (by decide)]
  have h6 := bA6_row (fN := fN) (X := bA5 b fN gN (bA3 c b f g (sc 8) (bA1 c g sc ar))) (Y := ar) (by rw [h5 11 (by decide) (by decide)]; exact hX 11 (by decide)) (by rw [h5 12 (by decide) (by decide)]; exact hX 12 (by decide)) (by rw [h5 13 (by decide) (by decide)]; exact hX 13 (by decide))
  have k6 : ∀ j, j ≠ 12 → j ≠ 13 → bA6 fN (bA5 b fN gN (bA3 c b f g (sc 8) (bA1 c g sc ar))) j = bA5 b fN gN (bA3 c b f g (sc 8) (bA1 c g sc ar)) j := fun j h1 h2 => bA6_k fN _ h1 h2
  have k7 : ∀ j, j ≠ 14 → bAll c b fN gN f g sc ar j = bA6 fN (bA5 b fN gN (bA3 c b f g (sc 8) (bA1 c g sc ar))) j := fun j h1 => by unfold bAll bA7; rw [putA_n _ _ _ h1]
  have r3 : ∀ j, bAll c b fN gN f g sc ar j = bAll c b fN gN f g sc ar j := fun _ => rfl
  refine ⟨fun j hj => ?_, ?_, ?_, ?_, ?_, ?_, ?_, ?_, ?_, ?_, ?_, ?_, ?_⟩
  · rw [k7 j (by omega), k6 j (by omega) (by omega), h5 j (by omega) (by omega), bA3_k _ _ _ _ _ _ (by omega) (by omega) (by omega) (by omega) (by omega), e1 j (by omega) (by omega) (by omega)]
  · rw [k7 12 (by decide)]; exact h6.1
  · rw [k7 13 (by decide)]; exact h6.2
  · unfold bAll bA7
    rw [putA_r, k6 14 (by decide) (by decide), h5 14 (by decide) (by decide), hX 14 (by decide), k6 35 (by decide) (by decide), h35, pk_us]
  · rw [k7 31 (by decide), k6 31 (by decide) (by decide), h5 31 (by decide) (by decide)]; unfold bA3
    rw [putA_n _ _ _ (by decide), putA_n _ _ _ (by decide), putA_n _ _ _ (by decide), putA_r, putA_n _ _ _ (by decide), e1 31 (by decide) (by decide) (by decide)]
  · rw [k7 32 (by decide), k6 32 (by decide) (by decide), h5 32 (by decide) (by decide)]; unfold bA3
    rw [putA_n _ _ _ (by decide), putA_n _ _ _ (by decide), putA_r, putA_n _ _ _ (by decide), putA_n _ _ _ (by decide), e1 32 (by decide) (by decide) (by decide)]
  · rw [k7 33 (by decide), k6 33 (by decide) (by decide), h5 33 (by decide) (by decide)]; unfold bA3
    rw [putA_n _ _ _ (by decide), putA_r, putA_n _ _ _ (by decide), putA_n _ _ _ (by decide), putA_n _ _ _ (by decide), e1 33 (by decide) (by decide) (by decide)]
  · rw [k7 34 (by decide), k6 34 (by decide) (by decide), h5 34 (by decide) (by decide)]; unfold bA3
    rw [putA_r, putA_n _ _ _ (by decide), putA_n _ _ _ (by decide), putA_n _ _ _ (by decide), putA_n _ _ _ (by decide), e1 34 (by decide) (by decide) (by decide)]
  · rw [k7 35 (by decide), k6 35 (by decide) (by decide)]; exact h35
  · rw [k7 39 (by decide), k6 39 (by decide) (by decide)]; exact h39
  · rw [k7 36 (by decide), k6 36 (by decide) (by decide), h5 36 (by decide) (by decide)]; unfold bA3
    rw [putA_n _ _ _ (by decide), putA_n _ _ _ (by decide), putA_n _ _ _ (by decide), putA_n _ _ _ (by decide), putA_n _ _ _ (by decide)]
  · rw [k7 38 (by decide), k6 38 (by decide) (by decide), h5 38 (by decide) (by decide)]; unfold bA3
    rw [putA_n _ _ _ (by decide), putA_n _ _ _ (by decide), putA_n _ _ _ (by decide), putA_n _ _ _ (by decide), putA_n _ _ _ (by decide)]
  · rw [k7 37 (by decide), k6 37 (by decide) (by decide), h5 37 (by decide) (by decide)]; unfold bA3
    rw [putA_n _ _ _ (by decide), putA_n _ _ _ (by decide), putA_n _ _ _ (by decide), putA_n _ _ _ (by decide), putA_r]
theorem rkP_row {fN gN : Nat} {X Y : Nat → Nat → Int32} (h11 : X 11 = Y 11) (h12 : X 12 = Y 12) (h13 : X 13 = Y 13) (h16 : X 16 = Y 16) : rkP fN gN X = rkP fN gN Y := by
  unfold rkP; rw [bDu_row h11 h12 h13, h16]
/-- class and reference have the same rows of a bale -/
theorem clB_eq (old : Bool) (p : Nat → Bool) (n5 c b fN gN : Nat) (sc : Nat → Int32) (ar : Nat → Nat → Int32) (ho : old = true ↔ ¬ nI c = sc 7) (h6 : sc 6 = nI b) (j : Nat) : clB old p n5 c b fN gN (sc 8) ar j = bnd p n5 (nI b) (bAll c b fN gN (nI fN) (nI gN) sc ar) j := by
  obtain ⟨a0, a12, a13, a14, a31, a32, a33, a34, a35, a39, a36, a38, a37⟩ := bAll_r c b fN gN (nI fN) (nI gN) sc ar
  have n : ∀ j, j ≠ 29 → bnd p n5 (nI b) ar j = ar j := fun j h => bnd_n p n5 (nI b) ar h
  obtain ⟨r12, r13, r14, r31, r32, r33, r34, r35, r39⟩ := rkA_r b fN gN c (sc 8) (bnd p n5 (nI b) ar)
  have hr := bA6_row (fN := fN) (X := bnd p n5 (nI b) ar) (Y := ar) (n 11 (by decide)) (n 12 (by decide)) (n 13 (by decide))
  have hd := bDu_row (fN := fN) (X := bnd p n5 (nI b) ar) (Y := ar) (n 11 (by decide)) (n 12 (by decide)) (n 13 (by decide))
  have hp := rkP_row (fN := fN) (gN := gN) (X := bnd p n5 (nI b) ar) (Y := ar) (n 11 (by decide)) (n 12 (by decide)) (n 13 (by decide)) (n 16 (by decide))
  have hk : ∀ j, j ≠ 36 → j ≠ 37 → j ≠ 38 → clB old p n5 c b fN gN (sc 8) ar j = rkA b fN gN c (sc 8) (bnd p n5 (nI b) ar) j := fun j h1 h2 h3 => by
    unfold clB
    split
    · rw [putA_n _ _ _ h2]
    · rw [putA_n _ _ _ h2, putA_n _ _ _ h3, putA_n _ _ _ h1]
  have hs : ∀ j, j ≠ 29 → bnd p n5 (nI b) (bAll c b fN gN (nI fN) (nI gN) sc ar) j = bAll c b fN gN (nI fN) (nI gN) sc ar j := fun j h => bnd_n p n5 (nI b) _ h
  rcases (by omega : j = 12 ∨ j = 13 ∨ j = 14 ∨ j = 29 ∨ j = 31 ∨ j = 32 ∨ j = 33 ∨ j = 34 ∨ j = 35 ∨ j = 36 ∨ j = 37 ∨ j = 38 ∨ j = 39 ∨ ((j < 12 ∨ (14 < j ∧ j < 31) ∨ 39 < j) ∧ j ≠ 29)) with rfl | rfl | rfl | rfl | rfl | rfl | rfl | rfl | rfl | rfl | rfl | rfl | rfl | ⟨h, h29⟩
  · rw [hk _ (by decide) (by decide) (by decide), hs _ (by decide), a12, r12]; exact hr.1
  · rw [hk _ (by decide) (by decide) (by decide), hs _ (by decide), a13, r13]; exact hr.2
  · rw [hk _ (by decide) (by decide) (by decide), hs _ (by decide), a14, r14, n 14 (by decide), hp]
  · rw [hk _ (by decide) (by decide) (by decide), rkA_k _ _ _ _ _ _ (by decide)]
    funext i; unfold bnd; rw [a0 29 (by decide)]
  · rw [hk _ (by decide) (by decide) (by decide), hs _ (by decide), a31, r31, n 31 (by decide)]
  · rw [hk _ (by decide) (by decide) (by decide), hs _ (by decide), a32, r32, n 32 (by decide)]
  · rw [hk _ (by decide) (by decide) (by decide), hs _ (by decide), a33, r33, n 33 (by decide)]
  · rw [hk _ (by decide) (by decide) (by decide), hs _ (by decide), a34, r34, n 34 (by decide)]
  · rw [hk _ (by decide) (by decide) (by decide), hs _ (by decide), a35, r35, n 35 (by decide), hp]
  · rw [hs _ (by decide), a36]
    unfold clB bA1
    by_cases e : old = true
    · rw [if_pos e, if_neg (ho.mp e), putA_n _ _ _ (by decide), rkA_k _ _ _ _ _ _ (by decide), n 36 (by decide)]
    · have e7 : nI c = sc 7 := Classical.not_not.mp (fun z => e (ho.mpr z))
      rw [if_neg e, if_pos e7, putA_n _ _ _ (by decide), putA_n _ _ _ (by decide), putA_r, putA_n _ _ _ (by decide), putA_n _ _ _ (by decide), putA_r, rkA_k _ _ _ _ _ _ (by decide), n 36 (by decide)]
  · rw [hs _ (by decide), a37]
    unfold clB bA1
    by_cases e : old = true
    · rw [if_pos e, if_neg (ho.mp e), putA_r, rkA_k _ _ _ _ _ _ (by decide), n 37 (by decide)]
    · have e7 : nI c = sc 7 := Classical.not_not.mp (fun z => e (ho.mpr z))
      rw [if_neg e, if_pos e7, putA_r, putA_n _ _ _ (by decide), putA_n _ _ _ (by decide), putA_n _ _ _ (by decide), putA_r, pk_us, upd_upd, putA_n _ _ _ (by decide), rkA_k _ _ _ _ _ _ (by decide), n 37 (by decide)]; rfl
  · rw [hs _ (by decide), a38]
    unfold clB bA1
    by_cases e : old = true
    · rw [if_pos e, if_neg (ho.mp e), putA_n _ _ _ (by decide), rkA_k _ _ _ _ _ _ (by decide), n 38 (by decide)]
    · have e7 : nI c = sc 7 := Classical.not_not.mp (fun z => e (ho.mpr z))
      rw [if_neg e, if_pos e7, putA_n _ _ _ (by decide), putA_r, putA_n _ _ _ (by decide), putA_r, putA_n _ _ _ (by decide), putA_n _ _ _ (by decide), h6, rkA_k _ _ _ _ _ _ (by decide), n 38 (by decide)]
  · rw [hk _ (by decide) (by decide) (by decide), hs _ (by decide), a39, r39, n 39 (by decide), hd]
  · rw [hk _ (by omega) (by omega) (by omega), hs _ h29, rkA_k _ _ _ _ _ _ (by omega), a0 j h, n j h29]
