section
variable {X : zX} {own : String} {cc : ByteArray} {nL : Nat} {ret : Option FieldType} {n1 n2 : Nat} {ad : zA} {w : zW} {pc : Nat} {ls : List (Option Value)} {st : List Value}
theorem v_ldc_w {index : Nat} {v : Int32} (hc : Cond.constant own index v ∈ gt) (d : decode cc pc = .ok (.ldc_w index, 3)) (k : V X own cc nL ret n1 n2 ad w (pc + 3) ls (.int v :: st)) : V X own cc nL ret n1 n2 ad w pc ls st := by
  obtain ⟨p, l, e, R, s, m, args, below, meth, c, Q, A, D, cy, s0⟩ := X
  intro C H locs la hR hS hA hl
  exact lv_ldcw C.1 C.2.1 C.2.2.2.2.1 (C.2.2.2.2.2.1 _ hc) d (k C H locs la hR hS hA hl)
end
theorem kc_265 : Cond.constant RJ6 265 1431655765 ∈ gt := gt_of 603 (by decide +kernel) (by decide +kernel)
theorem kc_266 : Cond.constant RJ6 266 858993459 ∈ gt := gt_of 604 (by decide +kernel) (by decide +kernel)
theorem kc_267 : Cond.constant RJ6 267 252645135 ∈ gt := gt_of 605 (by decide +kernel) (by decide +kernel)
def uS (x y : Int32) : Int32 := (x.toUInt32 >>> (y.toUInt32 &&& Int32.toUInt32 31)).toInt32
def bc1 (x : Int32) : Int32 := x - (uS x 1 &&& 1431655765)
def bc2 (x : Int32) : Int32 := (x &&& 858993459) + (uS x 2 &&& 858993459)
def bc3 (x : Int32) : Int32 := (x + uS x 4) &&& 252645135
def bc4 (x : Int32) : Int32 := x + uS x 8
def bc5 (x : Int32) : Int32 := x + uS x 16
def bcI (x : Int32) : Int32 := bc5 (bc4 (bc3 (bc2 (bc1 x)))) &&& 63
theorem bc_64 : ∀ a, a < 64 → ∀ b, b < 64 → bcI (nI (64 * a + b)) = nI (cnB (64 * a + b) 12) := by decide +kernel
theorem bc_n {s : Nat} (h : s < 4096) : bcI (nI s) = nI (cnB s 12) := by
  have e := bc_64 (s / 64) (by omega) (s % 64) (by omega)
  rw [show 64 * (s / 64) + s % 64 = s by omega] at e
  exact e
set_option maxHeartbeats 4000000 in
set_option maxRecDepth 100000 in
theorem pJ6_bitCount {l : Launch} {D : va_G} {cy : Nat → ClassId} {s0 : State} {ad : zA} {w : zW} {x : Int32} : zM l D cy s0 yJ6_bitCount_0f7a4 cJ6_bitCount_0f7a4 1 (some .int) 1 0 0 [.int x] ad w (zPi (bcI x) ad w) := by
  refine zM_of (own := RJ6) rfl (by decide) (by simp [Value.category]) (Nat.le_of_ble_eq_true rfl) ?_
  intro X hB
  show V X RJ6 cJ6_bitCount_0f7a4 1 (some .int) 0 0 ad w 0 [some (.int x)] []
  refine v_iload_n dJ6_bitCount_0f7a4_0 rfl ?_
  refine v_iload_n dJ6_bitCount_0f7a4_1 rfl ?_
  refine v_iconst_v (v := 1) dJ6_bitCount_0f7a4_2 (by decide) ?_
  refine v_iushr dJ6_bitCount_0f7a4_3 ?_
  refine v_ldc_w kc_265 dJ6_bitCount_0f7a4_4 ?_
  refine v_iand dJ6_bitCount_0f7a4_7 ?_
  refine v_isub dJ6_bitCount_0f7a4_8 ?_
  refine v_eq (show _ = bc1 x from rfl) ?_
  refine v_istore_n0 dJ6_bitCount_0f7a4_9 (by decide) ?_
  refine v_iload_n dJ6_bitCount_0f7a4_10 rfl ?_
  refine v_ldc_w kc_266 dJ6_bitCount_0f7a4_11 ?_
  refine v_iand dJ6_bitCount_0f7a4_14 ?_
  refine v_iload_n dJ6_bitCount_0f7a4_15 rfl ?_
  refine v_iconst_v (v := 2) dJ6_bitCount_0f7a4_16 (by decide) ?_
  refine v_iushr dJ6_bitCount_0f7a4_17 ?_
  refine v_ldc_w kc_266 dJ6_bitCount_0f7a4_18 ?_
  refine v_iand dJ6_bitCount_0f7a4_21 ?_
  refine v_iadd dJ6_bitCount_0f7a4_22 ?_
  refine v_eq (show _ = bc2 (bc1 x) from rfl) ?_
  refine v_istore_n0 dJ6_bitCount_0f7a4_23 (by decide) ?_
  refine v_iload_n dJ6_bitCount_0f7a4_24 rfl ?_
  refine v_iload_n dJ6_bitCount_0f7a4_25 rfl ?_
  refine v_iconst_v (v := 4) dJ6_bitCount_0f7a4_26 (by decide) ?_
  refine v_iushr dJ6_bitCount_0f7a4_27 ?_
  refine v_iadd dJ6_bitCount_0f7a4_28 ?_
  refine v_ldc_w kc_267 dJ6_bitCount_0f7a4_29 ?_
  refine v_iand dJ6_bitCount_0f7a4_32 ?_
  refine v_eq (show _ = bc3 (bc2 (bc1 x)) from rfl) ?_
  refine v_istore_n0 dJ6_bitCount_0f7a4_33 (by decide) ?_
  refine v_iload_n dJ6_bitCount_0f7a4_34 rfl ?_
  refine v_iload_n dJ6_bitCount_0f7a4_35 rfl ?_
  refine v_bipush_v (v := 8) dJ6_bitCount_0f7a4_36 (by decide) ?_
  refine v_iushr dJ6_bitCount_0f7a4_38 ?_
  refine v_iadd dJ6_bitCount_0f7a4_39 ?_
  refine v_eq (show _ = bc4 (bc3 (bc2 (bc1 x))) from rfl) ?_
  refine v_istore_n0 dJ6_bitCount_0f7a4_40 (by decide) ?_
  refine v_iload_n dJ6_bitCount_0f7a4_41 rfl ?_
  refine v_iload_n dJ6_bitCount_0f7a4_42 rfl ?_
  refine v_bipush_v (v := 16) dJ6_bitCount_0f7a4_43 (by decide) ?_
  refine v_iushr dJ6_bitCount_0f7a4_45 ?_
  refine v_iadd dJ6_bitCount_0f7a4_46 ?_
  refine v_eq (show _ = bc5 (bc4 (bc3 (bc2 (bc1 x)))) from rfl) ?_
  refine v_istore_n0 dJ6_bitCount_0f7a4_47 (by decide) ?_
  refine v_iload_n dJ6_bitCount_0f7a4_48 rfl ?_
  refine v_bipush_v (v := 63) dJ6_bitCount_0f7a4_49 (by decide) ?_
  refine v_iand dJ6_bitCount_0f7a4_51 ?_
  exact v_iret hB (by decide) (by decide) dJ6_bitCount_0f7a4_52 ⟨rfl, rfl, rfl⟩
theorem tb_hi {s fr i : Nat} (hs : s < 2 ^ fr) (h : fr ≤ i) : s.testBit i = false := Nat.testBit_lt_two_pow (Nat.lt_of_lt_of_le hs (Nat.pow_le_pow_right (by decide) h))
theorem tb_two (i j : Nat) : (2 ^ i).testBit j = decide (i = j) := Nat.testBit_two_pow
theorem or_two_lt {s fr i : Nat} (hs : s < 2 ^ fr) (h : fr ≤ i) : s ||| 2 ^ i < 2 ^ (i + 1) := Nat.or_lt_two_pow (Nat.lt_of_lt_of_le hs (Nat.pow_le_pow_right (by decide) (by omega))) (Nat.pow_lt_pow_right (by decide) (by omega))
theorem ct_add (p q r : Nat → Bool) (h : ∀ i, (p i = true ↔ q i = true ∨ r i = true) ∧ ¬ (q i = true ∧ r i = true)) : ∀ n, ctN p n = ctN q n + ctN r n
  | 0 => rfl
  | n + 1 => by
    rw [ctN, ctN, ctN, ct_add p q r h n]
    obtain ⟨h1, h2⟩ := h n
    cases hp : p n <;> cases hq : q n <;> cases hr : r n <;> simp_all <;> omega
theorem sm_add (ln : Nat → Nat) {a b c : Nat} (h : ∀ i, (a.testBit i = true ↔ b.testBit i = true ∨ c.testBit i = true) ∧ ¬ (b.testBit i = true ∧ c.testBit i = true)) : ∀ n, smB ln a n = smB ln b n + smB ln c n
  | 0 => rfl
  | n + 1 => by
    rw [smB, smB, smB, sm_add ln h n]
    obtain ⟨h1, h2⟩ := h n
    cases hp : a.testBit n <;> cases hq : b.testBit n <;> cases hr : c.testBit n <;> simp_all <;> omega
theorem cn_two (i : Nat) : ∀ n, cnB (2 ^ i) n = if i < n then 1 else 0
  | 0 => rfl
  | n + 1 => by
    show cnB (2 ^ i) n + (if (2 ^ i).testBit n then 1 else 0) = _
    rw [cn_two i n, tb_two]
    by_cases h : i < n
    · rw [if_pos h, decide_eq_false (show ¬ i = n by omega), if_pos (show i < n + 1 by omega)]; rfl
    · by_cases e : i = n
      · subst e; simp
      · rw [if_neg h, decide_eq_false e, if_neg (show ¬ i < n + 1 by omega)]; rfl
theorem sm_two (ln : Nat → Nat) (i : Nat) : ∀ n, smB ln (2 ^ i) n = if i < n then ln i else 0
  | 0 => rfl
  | n + 1 => by
    rw [smB, sm_two ln i n, tb_two]
    by_cases h : i < n
    · rw [if_pos h, decide_eq_false (show ¬ i = n by omega), if_pos (show i < n + 1 by omega)]; rfl
    · by_cases e : i = n
      · subst e; simp
      · rw [if_neg h, decide_eq_false e, if_neg (show ¬ i < n + 1 by omega)]; rfl
theorem cn_ext {s K : Nat} (hs : s < 2 ^ K) : ∀ m, cnB s (K + m) = cnB s K
  | 0 => rfl
  | m + 1 => by
    show cnB s (K + m) + (if s.testBit (K + m) then 1 else 0) = _
    rw [cn_ext hs m, tb_hi hs (by omega)]; rfl
theorem or_two_bits {s fr i : Nat} (hs : s < 2 ^ fr) (h : fr ≤ i) : ∀ j, ((s ||| 2 ^ i).testBit j = true ↔ s.testBit j = true ∨ (2 ^ i).testBit j = true) ∧ ¬ (s.testBit j = true ∧ (2 ^ i).testBit j = true) := fun j => by
  refine ⟨by rw [Nat.testBit_or, Bool.or_eq_true], fun ⟨z1, z2⟩ => ?_⟩
  rw [tb_two, decide_eq_true_eq] at z2
  subst z2
  rw [tb_hi hs h] at z1; cases z1
theorem sub_next : ∀ (n rest m r : Nat), rest ≤ n → rest &&& m = rest → r &&& m = r → r < rest → r ≤ (rest - 1) &&& m := by
  intro n
  induction n with
  | zero => intro rest m r h1 h2 h3 h4; omega
  | succ n ih =>
    intro rest m r h1 h2 h3 h4
    have d2 : rest / 2 &&& m / 2 = rest / 2 := by rw [← Nat.and_div_two, h2]
    have d3 : r / 2 &&& m / 2 = r / 2 := by rw [← Nat.and_div_two, h3]
    have e : ((rest - 1) &&& m) / 2 = (rest - 1) / 2 &&& m / 2 := Nat.and_div_two
    rcases Nat.mod_two_eq_zero_or_one rest with h | h
    · have h5 := ih (rest / 2) (m / 2) (r / 2) (by omega) d2 d3 (by omega)
      rw [show (rest - 1) / 2 = rest / 2 - 1 by omega] at e
      have h6 : r % 2 = 1 → ((rest - 1) &&& m) % 2 = 1 := fun z => by
        have z2 : m % 2 = 1 := by
          have : (r &&& m) % 2 = 1 := by rw [h3]; exact z
          exact (Nat.and_mod_two_eq_one.mp this).2
        exact Nat.and_mod_two_eq_one.mpr ⟨by omega, z2⟩
      omega
    · rw [show (rest - 1) / 2 = rest / 2 by omega, d2] at e
      omega
theorem lpR_acc (Q : Nat → Bool) (g : Nat → Nat) (lo m : Nat) : ∀ k rest acc, acc ≤ lpR Q g lo m k rest acc := by
  intro k
  induction k with
  | zero => intro rest acc; exact Nat.le_refl _
  | succ k ih =>
    intro rest acc
    rw [lpR]
    have h : acc ≤ (if Q (rest ||| lo) = true then max acc (1 + g (m ^^^ rest)) else acc) := by
      split
      · exact Nat.le_max_left _ _
      · exact Nat.le_refl _
    split
    · exact h
    · exact Nat.le_trans h (ih _ _)
theorem lpR_mem (Q : Nat → Bool) (g : Nat → Nat) (lo m : Nat) : ∀ k rest acc r, rest < k → rest &&& m = rest → r &&& m = r → r ≤ rest → Q (r ||| lo) = true → 1 + g (m ^^^ r) ≤ lpR Q g lo m k rest acc := by
  intro k
  induction k with
  | zero => intro rest acc r h; omega
  | succ k ih =>
    intro rest acc r h1 h2 h3 h4 h5
    rw [lpR]
    by_cases e : r = rest
    · subst e
      have h : 1 + g (m ^^^ r) ≤ (if Q (r ||| lo) = true then max acc (1 + g (m ^^^ r)) else acc) := by
        rw [if_pos h5]; exact Nat.le_max_right _ _
      by_cases e0 : r = 0
      · rw [if_pos e0]; exact h
      · rw [if_neg e0]; exact Nat.le_trans h (lpR_acc _ _ _ _ _ _ _)
    · have hne : ¬ rest = 0 := by omega
      rw [if_neg hne]
      refine ih _ _ r ?_ (sub_and _ _) h3 (sub_next rest rest m r (Nat.le_refl _) h2 h3 (by omega)) h5
      have := @Nat.and_le_left (rest - 1) m
      omega
theorem lpR_ub (Q : Nat → Bool) (g : Nat → Nat) (lo m B : Nat) (hg : ∀ r, r &&& m = r → Q (r ||| lo) = true → 1 + g (m ^^^ r) ≤ B) : ∀ k rest acc, rest &&& m = rest → acc ≤ B → lpR Q g lo m k rest acc ≤ B := by
  intro k
  induction k with
  | zero => intro rest acc _ h; exact h
  | succ k ih =>
    intro rest acc h1 h2
    rw [lpR]
    have h : (if Q (rest ||| lo) = true then max acc (1 + g (m ^^^ rest)) else acc) ≤ B := by
      split
      · rename_i hq; exact Nat.max_le.mpr ⟨h2, hg rest h1 hq⟩
      · exact h2
    split
    · exact h
    · exact ih _ _ (sub_and _ _) h
theorem lo_64 : ∀ a, a < 64 → ∀ b, b < 64 → ∀ f, f < 12 → ((64 * a + b).testBit f = false ∨ ¬ (64 * a + b) % 2 ^ f = 0) ∨ (loB (64 * a + b) = 2 ^ f ∧ hiB (64 * a + b) = (64 * a + b) ^^^ 2 ^ f) := by decide +kernel
theorem lo_f {s f : Nat} (h : s < 4096) (hf : f < 12) (h1 : s.testBit f = true) (h2 : ∀ i, i < f → s.testBit i = false) : loB s = 2 ^ f ∧ hiB s = s ^^^ 2 ^ f := by
  have e := lo_64 (s / 64) (by omega) (s % 64) (by omega) f hf
  rw [show 64 * (s / 64) + s % 64 = s by omega] at e
  rcases e with (e | e) | e
  · rw [h1] at e; cases e
  · refine absurd ?_ e
    apply Nat.eq_of_testBit_eq; intro i
    rw [Nat.testBit_mod_two_pow, Nat.zero_testBit]
    by_cases z : i < f
    · rw [h2 i z]; simp
    · rw [decide_eq_false z]; rfl
  · exact e
/-- the most quills of a set -/
def mQ (Q : Nat → Bool) (K : Nat) : Nat → Nat := mkT Q (2 ^ K)
theorem p_2K {K : Nat} (h : K ≤ 12) : 2 ^ K ≤ 4096 := Nat.pow_le_pow_right (n := 2) (by decide) h
theorem mQ_row (Q : Nat → Bool) {K s : Nat} (hs : s < 2 ^ K) : mQ Q K s = rowM Q (mkT Q s) s := by
  unfold mQ
  rw [mkT_old Q (show s + 1 ≤ 2 ^ K by omega) s (by omega), mkT_new]
theorem mQ_0 (Q : Nat → Bool) (K : Nat) : mQ Q K 0 = 0 := by
  rw [mQ_row Q (Nat.two_pow_pos K)]; exact if_pos rfl
theorem xor_lt_of {s q f : Nat} (hs : q &&& s = q) (h : q.testBit f = true) : s ^^^ q < s := by
  have h1 := xor_sub_le hs
  rcases Nat.lt_or_ge (s ^^^ q) s with h2 | h2
  · exact h2
  · have e : s ^^^ q = s := by omega
    have e2 : q = 0 := by
      have : s ^^^ (s ^^^ q) = q := by rw [← Nat.xor_assoc, Nat.xor_self, Nat.zero_xor]
      rw [e, Nat.xor_self] at this
      exact this.symm
    rw [e2, Nat.zero_testBit] at h; cases h
theorem two_sub {s f : Nat} (h : s.testBit f = true) : 2 ^ f &&& s = 2 ^ f := by
  apply Nat.eq_of_testBit_eq
  intro i
  rw [Nat.testBit_and, tb_two]
  by_cases e : f = i
  · subst e; rw [h]; simp
  · rw [decide_eq_false e]; rfl
theorem split_q {s q f : Nat} (hs : q &&& s = q) (h : q.testBit f = true) : (q ^^^ 2 ^ f) ||| 2 ^ f = q ∧ (q ^^^ 2 ^ f) &&& (s ^^^ 2 ^ f) = q ^^^ 2 ^ f ∧ (s ^^^ 2 ^ f) ^^^ (q ^^^ 2 ^ f) = s ^^^ q := by
  have hb := sub_t.mp hs
  refine ⟨?_, ?_, ?_⟩
  · apply Nat.eq_of_testBit_eq; intro i
    rw [Nat.testBit_or, Nat.testBit_xor, tb_two]
    by_cases e : f = i
    · subst e; rw [h]; simp
    · rw [decide_eq_false e]; simp
  · apply Nat.eq_of_testBit_eq; intro i
    rw [Nat.testBit_and, Nat.testBit_xor, Nat.testBit_xor, tb_two]
    have := hb i
    cases hq : q.testBit i <;> cases hs2 : s.testBit i <;> by_cases e : f = i <;> simp_all
  · rw [show (s ^^^ 2 ^ f) ^^^ (q ^^^ 2 ^ f) = s ^^^ q ^^^ (2 ^ f ^^^ 2 ^ f) by ac_rfl, Nat.xor_self, Nat.xor_zero]
theorem join_r {s r f : Nat} (h : s.testBit f = true) (hr : r &&& (s ^^^ 2 ^ f) = r) : (r ||| 2 ^ f) &&& s = r ||| 2 ^ f ∧ (r ||| 2 ^ f).testBit f = true ∧ (s ^^^ 2 ^ f) ^^^ r = s ^^^ (r ||| 2 ^ f) := by
  have hb := sub_t.mp hr
  refine ⟨?_, ?_, ?_⟩
  · apply sub_t.mpr; intro i hi
    rw [Nat.testBit_or, tb_two, Bool.or_eq_true] at hi
    rcases hi with z | z
    · have := hb i z
      rw [Nat.testBit_xor, tb_two] at this
      by_cases e : f = i
      · subst e; exact h
      · rw [decide_eq_false e] at this; simpa using this
    · rw [decide_eq_true_eq] at z; subst z; exact h
  · rw [Nat.testBit_or, tb_two]; simp
  · apply Nat.eq_of_testBit_eq; intro i
    have hbi := hb i
    rw [Nat.testBit_xor, tb_two] at hbi
    rw [Nat.testBit_xor, Nat.testBit_xor, Nat.testBit_xor, Nat.testBit_or, tb_two]
    by_cases e : f = i
    · subst e
      cases hrf : r.testBit f <;> simp_all
    · simp [e]
theorem mQ_ge1 (Q : Nat → Bool) {K s f : Nat} (hK : K ≤ 12) (hs : s < 2 ^ K) (h1 : s.testBit f = true) (h2 : ∀ i, i < f → s.testBit i = false) : mQ Q K (s ^^^ 2 ^ f) ≤ mQ Q K s := by
  have hf : f < 12 := by
    rcases Nat.lt_or_ge f 12 with z | z
    · exact z
    · rw [tb_hi hs (by omega)] at h1; cases h1
  obtain ⟨e1, e2⟩ := lo_f (Nat.lt_of_lt_of_le hs (p_2K hK)) hf h1 h2
  have hne : ¬ s = 0 := fun z => by rw [z, Nat.zero_testBit] at h1; cases h1
  have hlt := xor_lt_of (two_sub h1) (show (2 ^ f).testBit f = true by rw [tb_two]; simp)
  rw [mQ_row Q hs, rowM, if_neg hne, e2, show mQ Q K (s ^^^ 2 ^ f) = mkT Q s (s ^^^ 2 ^ f) from mkT_old Q (by omega) _ hlt]
  exact lpR_acc _ _ _ _ _ _ _
theorem mQ_ge2 (Q : Nat → Bool) {K s f q : Nat} (hK : K ≤ 12) (hs : s < 2 ^ K) (h1 : s.testBit f = true) (h2 : ∀ i, i < f → s.testBit i = false) (hq : q &&& s = q) (hqf : q.testBit f = true) (hQ : Q q = true) : 1 + mQ Q K (s ^^^ q) ≤ mQ Q K s := by
  have hf : f < 12 := by
    rcases Nat.lt_or_ge f 12 with z | z
    · exact z
    · rw [tb_hi hs (by omega)] at h1; cases h1
  obtain ⟨e1, e2⟩ := lo_f (Nat.lt_of_lt_of_le hs (p_2K hK)) hf h1 h2
  have hne : ¬ s = 0 := fun z => by rw [z, Nat.zero_testBit] at h1; cases h1
  obtain ⟨g1, g2, g3⟩ := split_q hq hqf
  rw [mQ_row Q hs, rowM, if_neg hne, e1, e2, show mQ Q K (s ^^^ q) = mkT Q s (s ^^^ q) from mkT_old Q (by omega) _ (xor_lt_of hq hqf), ← g3]
  exact lpR_mem Q _ _ _ _ _ _ _ (by omega) (Nat.and_self _) g2 (by rw [← g2]; exact Nat.and_le_right) (by rw [g1]; exact hQ)
theorem mQ_le (Q : Nat → Bool) {K s f B : Nat} (hK : K ≤ 12) (hs : s < 2 ^ K) (h1 : s.testBit f = true) (h2 : ∀ i, i < f → s.testBit i = false) (hB1 : mQ Q K (s ^^^ 2 ^ f) ≤ B) (hB2 : ∀ q, q &&& s = q → q.testBit f = true → Q q = true → 1 + mQ Q K (s ^^^ q) ≤ B) : mQ Q K s ≤ B := by
  have hf : f < 12 := by
    rcases Nat.lt_or_ge f 12 with z | z
    · exact z
    · rw [tb_hi hs (by omega)] at h1; cases h1
  obtain ⟨e1, e2⟩ := lo_f (Nat.lt_of_lt_of_le hs (p_2K hK)) hf h1 h2
  have hne : ¬ s = 0 := fun z => by rw [z, Nat.zero_testBit] at h1; cases h1
  have hlt := xor_lt_of (two_sub h1) (show (2 ^ f).testBit f = true by rw [tb_two]; simp)
  rw [mQ_row Q hs, rowM, if_neg hne, e1, e2]
  refine lpR_ub Q _ _ _ B ?_ _ _ _ (Nat.and_self _) ?_
  · intro r hr hQ
    obtain ⟨g1, g2, g3⟩ := join_r h1 hr
    have := hB2 _ g1 g2 hQ
    rw [show mQ Q K (s ^^^ (r ||| 2 ^ f)) = mkT Q s (s ^^^ (r ||| 2 ^ f)) from mkT_old Q (by omega) _ (xor_lt_of g1 g2)] at this
    rw [g3]; exact this
  · rw [show mQ Q K (s ^^^ 2 ^ f) = mkT Q s (s ^^^ 2 ^ f) from mkT_old Q (by omega) _ hlt] at hB1
    exact hB1
theorem low_ex {s K : Nat} (hs : s < 2 ^ K) (h0 : 0 < s) : ∃ f, f < K ∧ s.testBit f = true ∧ ∀ i, i < f → s.testBit i = false := by
  have key : ∀ n, (∃ f, f < n ∧ s.testBit f = true ∧ ∀ i, i < f → s.testBit i = false) ∨ ∀ i, i < n → s.testBit i = false := by
    intro n
    induction n with
    | zero => exact Or.inr (fun i hi => absurd hi (Nat.not_lt_zero _))
    | succ n ih =>
      rcases ih with ⟨f, h1, h2, h3⟩ | h
      · exact Or.inl ⟨f, by omega, h2, h3⟩
      · cases hn : s.testBit n with
        | true => exact Or.inl ⟨n, by omega, hn, h⟩
        | false =>
          refine Or.inr (fun i hi => ?_)
          by_cases e : i = n
          · rw [e]; exact hn
          · exact h i (by omega)
  rcases key K with h | h
  · exact h
  · exfalso
    have : s = 0 := by
      apply Nat.eq_of_testBit_eq; intro i
      rw [Nat.zero_testBit]
      by_cases e : i < K
      · exact h i e
      · exact tb_hi hs (by omega)
    omega
theorem xor_bits {s q : Nat} (hq : q &&& s = q) : ∀ j, (s.testBit j = true ↔ q.testBit j = true ∨ (s ^^^ q).testBit j = true) ∧ ¬ (q.testBit j = true ∧ (s ^^^ q).testBit j = true) := fun j => by
  have := sub_t.mp hq j
  rw [Nat.testBit_xor]
  cases h1 : s.testBit j <;> cases h2 : q.testBit j <;> simp_all
theorem mQ_bound (Q : Nat → Bool) {K F : Nat} (hK : K ≤ 12) (hF : ∀ q, q < 2 ^ K → Q q = true → F ≤ cnB q K) : ∀ n s, s ≤ n → s < 2 ^ K → mQ Q K s * F ≤ cnB s K := by
  intro n
  induction n with
  | zero =>
    intro s h hs
    have : s = 0 := by omega
    subst this; rw [mQ_0]; omega
  | succ n ih =>
    intro s h hs
    rcases Nat.eq_zero_or_pos s with e | e
    · subst e; rw [mQ_0]; omega
    · obtain ⟨f, hf, h1, h2⟩ := low_ex hs e
      rcases Nat.eq_zero_or_pos F with eF | eF
      · rw [eF]; omega
      · rw [← Nat.le_div_iff_mul_le eF]
        refine mQ_le Q hK hs h1 h2 ?_ ?_
        · have hlt := xor_lt_of (two_sub h1) (show (2 ^ f).testBit f = true by rw [tb_two]; simp)
          rw [Nat.le_div_iff_mul_le eF]
          have i1 := ih (s ^^^ 2 ^ f) (by omega) (by omega)
          have i2 : cnB s K = cnB (2 ^ f) K + cnB (s ^^^ 2 ^ f) K := ct_add _ _ _ (xor_bits (two_sub h1)) K
          omega
        · intro q g1 g2 g3
          have hlt := xor_lt_of g1 g2
          have hql : q < 2 ^ K := Nat.lt_of_le_of_lt (by rw [← g1]; exact Nat.and_le_right) hs
          rw [Nat.le_div_iff_mul_le eF, Nat.add_mul]
          have i1 := ih (s ^^^ q) (by omega) (by omega)
          have i2 : cnB s K = cnB q K + cnB (s ^^^ q) K := ct_add _ _ _ (xor_bits g1) K
          have i3 := hF q hql g3
          omega
theorem i_not {s q : Nat} (hs : s < 4096) (hq : q &&& s = q) : nI s &&& (nI q ^^^ (-1)) = nI (s ^^^ q) := by
  apply Int32.toBitVec_inj.1
  show BitVec.ofNat 32 s &&& (BitVec.ofNat 32 q ^^^ BitVec.allOnes 32) = BitVec.ofNat 32 (s ^^^ q)
  apply BitVec.eq_of_getLsbD_eq
  intro i hi
  have := sub_t.mp hq i
  simp only [BitVec.getLsbD_and, BitVec.getLsbD_xor, BitVec.getLsbD_ofNat, BitVec.getLsbD_allOnes, hi, decide_true, Bool.true_and, Nat.testBit_xor]
  cases h1 : s.testBit i <;> cases h2 : q.testBit i <;> simp_all
