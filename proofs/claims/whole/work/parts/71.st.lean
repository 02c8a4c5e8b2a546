theorem mPf_11 (ad ad2 : zA) : mPf ad (fun _ => 0) 11 = mPf ad2 (fun _ => 0) 11 := rfl
theorem dfX10 (ad : zA) : ∀ j, j < 47 → defaultValue (tyX10 j) = vp_V (mPf ad (fun _ => 0) 11) j := by
  intro j hj
  rcases (by omega : j = 0 ∨ j = 1 ∨ j = 2 ∨ j = 3 ∨ j = 4 ∨ j = 5 ∨ j = 6 ∨ j = 7 ∨ j = 8 ∨ j = 9 ∨ j = 10 ∨ j = 11 ∨ j = 12 ∨ j = 13 ∨ j = 14 ∨ j = 15 ∨ j = 16 ∨ j = 17 ∨ j = 18 ∨ j = 19 ∨ j = 20 ∨ j = 21 ∨ j = 22 ∨ j = 23 ∨ j = 24 ∨ j = 25 ∨ j = 26 ∨ j = 27 ∨ j = 28 ∨ j = 29 ∨ j = 30 ∨ j = 31 ∨ j = 32 ∨ j = 33 ∨ j = 34 ∨ j = 35 ∨ j = 36 ∨ j = 37 ∨ j = 38 ∨ j = 39 ∨ j = 40 ∨ j = 41 ∨ j = 42 ∨ j = 43 ∨ j = 44 ∨ j = 45 ∨ j = 46) with rfl | rfl | rfl | rfl | rfl | rfl | rfl | rfl | rfl | rfl | rfl | rfl | rfl | rfl | rfl | rfl | rfl | rfl | rfl | rfl | rfl | rfl | rfl | rfl | rfl | rfl | rfl | rfl | rfl | rfl | rfl | rfl | rfl | rfl | rfl | rfl | rfl | rfl | rfl | rfl | rfl | rfl | rfl | rfl | rfl | rfl | rfl <;> rfl
theorem mIs_lo {j : Nat} (h : j < 11) : ¬ mIs j = true := by
  rcases (by omega : j = 0 ∨ j = 1 ∨ j = 2 ∨ j = 3 ∨ j = 4 ∨ j = 5 ∨ j = 6 ∨ j = 7 ∨ j = 8 ∨ j = 9 ∨ j = 10) with rfl | rfl | rfl | rfl | rfl | rfl | rfl | rfl | rfl | rfl | rfl <;> decide
theorem mP0_new {cy : Nat → ClassId} {ad ad2 : zA} {w : zW} (hw : ∀ k i, isM k = true → w k i = none) : zU w 30 0 (some (.inr (11, mPf ad2 (fun _ => 0) 11))) = mix isM (mP0 cy ad (fun _ => 0) 11) w := by
  funext k i
  by_cases h : k = 30 ∧ i = 0
  · obtain ⟨rfl, rfl⟩ := h
    rw [zU_s]
    rfl
  · rw [zU_n _ _ h]
    unfold mix
    by_cases h1 : isM k = true
    · rw [if_pos h1, hw k i h1]
      unfold mP0
      by_cases h2 : k = 30
      · rw [if_pos h2, if_neg (fun z => h ⟨h2, z⟩)]
      · rw [if_neg h2]
        by_cases h3 : k = 31
        · rw [if_pos h3, if_neg (fun z => mIs_lo z.2 z.1)]
        · rw [if_neg h3]
    · rw [if_neg h1]
theorem mP0_n {cy : Nat → ClassId} {ad : zA} {sc : Nat → Int32} {m : Nat} : ∀ k i, ¬ isM k = true → mP0 cy ad sc m k i = none := fun k i h => by
  unfold mP0
  rw [if_neg (isM_n h).1, if_neg (isM_n h).2]
theorem oW_new {cy : Nat → ClassId} {a b : zW} {f : Nat → Int64} (ha : ∀ k i, ¬ isC k = true → a k i = none) (hb : ∀ k i, ¬ isM k = true → b k i = none) : zU (mix isM b a) 40 0 (some (.inl (cy 3, 1, .inr (.inl f)))) = mix isC a (mix isM b (oW cy f)) := by
  rw [mix_swap]
  funext k i
  by_cases h : k = 40 ∧ i = 0
  · obtain ⟨rfl, rfl⟩ := h
    rw [zU_s]
    rfl
  · rw [zU_n _ _ h]
    unfold mix
    by_cases h1 : isM k = true
    · rw [if_pos h1, if_pos h1]
    · rw [if_neg h1, if_neg h1]
      by_cases h2 : isC k = true
      · rw [if_pos h2]
      · rw [if_neg h2, ha k i h2]
        unfold oW
        rw [if_neg h]
def N0 : Nat → Nat := fun j => if j = 9 then 42 else if j = 10 then 2 else 0
theorem MI0 : MI N0 sc0 (ar0 5) := by
  refine ⟨⟨fun j h1 h2 => ?_, by decide, by decide, by decide, by decide, by decide, by decide, by decide, by decide, by decide⟩, fun i h => absurd h (Nat.not_lt_zero i), fun i h => absurd h (Nat.not_lt_zero i), fun i h => absurd h (Nat.not_lt_zero i), fun i h => absurd h (Nat.not_lt_zero i), fun f _ => ⟨rfl, rfl, rfl⟩⟩
  rcases (by omega : j = 2 ∨ j = 3 ∨ j = 4 ∨ j = 5 ∨ j = 6 ∨ j = 7 ∨ j = 8 ∨ j = 9 ∨ j = 10) with rfl | rfl | rfl | rfl | rfl | rfl | rfl | rfl | rfl <;> decide
theorem XI0 : XI N0 (ar0 5) (fun _ => 0) (fun _ => 0) (fun _ => 0) (fun _ _ => 0) (fun _ _ => 0) (fun _ => 0) := ⟨⟨rfl, rfl, rfl, rfl, rfl, rfl⟩, fun _ _ => ⟨rfl, Nat.le_refl _, Nat.zero_le _⟩, fun q h => absurd h (Nat.not_lt_zero q)⟩
theorem ac_long : Cond.arrayClass (newarray.typeOf .long) ∈ gt := gt_of 1145 (by decide +kernel) (by decide +kernel)
set_option maxHeartbeats 4000000 in
set_option maxRecDepth 100000 in
theorem lc_start {X : zX} {l : Launch} {D : va_G} {cy : Nat → ClassId} {s0 : State} {b L : Nat} {xs : Nat → Int32} {ad : zA} (hl0 : l.stackTraces = false) (hB : zBg X l D cy s0 room_1) (hG : zG s0) (hX : va_X b L xs s0 s0.heap) (hL : L ≤ 3072) (hQ : X.2.2.2.2.2.2.2.2.2.2.1 = lw_Z X.2.2.2.2.2.2.2.1 #[Value.ref b] X.2.2.2.2.1) (ha : X.2.2.2.2.2.2.1 = #[Value.ref b]) (hA : ∀ q, X.2.2.2.2.2.2.2.2.2.2.2.1 q → X.2.2.2.2.1.heap.size ≤ q) : V X RL cL_law 7 (some .boolean) 0 0 ad (fun _ _ => none) 0 [some (.ref b), none, none, none, none, none, none] [] := by
  refine vg_new (kk := 0) (ii := 0) (ci := 10) (fs := [.null, .null, .null, .null, .null, .null, .null, .null, .null, .null, .int 0, .int 0, .int 0, .int 0]) hB tyX9 tyX9_ok rfl inX9 cl_L_8 ins_X9 ini_X9 dfX9 rfl ⟨by decide, by decide⟩ dL_law_0 (fun ad1 had1 => ?_)
  refine v_dup dL_law_3 rfl ?_
  refine vg_callI (As := []) (rest := [.ref (ad1 0 0)]) hB k_L_15 (pX9_init (ad := ad1) hG) rfl ⟨by decide, by decide⟩ ⟨by decide, by decide⟩ (Nat.le_of_ble_eq_true rfl) dL_law_4 ?_
  rintro r ad2 w2 ⟨rfl, e0, rfl, hXZ⟩
  refine v_astore_n1 dL_law_7 (by decide) ?_
  refine vg_new (kk := 30) (ii := 0) (ci := 11) (fs := mPf ad2 (fun _ => 0) 11) hB tyX10 tyX10_ok rfl inX10 cl_L_16 ins_X10 ini_X10 (dfX10 ad2) (xA_big (by decide)) ⟨by decide, by decide⟩ dL_law_8 (fun ad3 had3 => ?_)
  refine v_dup dL_law_11 rfl ?_
  rw [mP0_new (cy := cy) (ad := ad3) (fun k i h => xA_big (by have := of_decide_eq_true h; omega))]
  refine vg_callI (As := []) (rest := [.ref (ad3 30 0)]) hB k_L_18 (zM.frame isM _ mP0_n (cM_init (ad := ad3)) (fun r a w h => by obtain ⟨-, -, rfl⟩ := h; exact mW_n)) rfl ⟨by decide, by decide⟩ ⟨by decide, by decide⟩ (Nat.le_of_ble_eq_true rfl) dL_law_12 ?_
  rintro r ad4 w4 ⟨adM, wM, ⟨rfl, e30, rfl⟩, rfl, rfl⟩
  refine v_astore_n2 dL_law_15 (by decide) ?_
  refine v_iconst_v (v := 1) dL_law_16 (by decide) ?_
  refine vg_newl (kk := 40) (ii := 0) (N := 1) hB ac_long (by decide) (by decide) rfl ⟨by decide, by decide⟩ dL_law_17 (fun ad5 had5 => ?_)
  refine v_astore_n3 dL_law_19 (by decide) ?_
  refine v_iconst_v (v := 0) dL_law_20 (by decide) ?_
  refine v_istore4 dL_law_21 (by decide) ?_
  have aM : ∀ k i, k = 30 ∨ k = 31 → ad5 k i = adM k i := fun k i hk => (had5 k i (by omega)).trans (if_pos (decide_eq_true hk))
  have aC : ∀ k i, k < 15 → ad5 k i = ad2 k i := fun k i hk => (had5 k i (by omega)).trans ((if_neg (fun z => by have := of_decide_eq_true z; omega)).trans (had3 k i (by omega)))
  have hI : LI s0 cy (ad1 0 0) (ad3 30 0) (ad5 40 0) ad5 (zU (mix isM (mW cy adM sc0 (ar0 5)) (xW cy ad2 sc0 (ar0 5) (fun _ _ => 0) (fun _ => 0) (fun _ => 0) (fun _ => 0) (fun _ => 0) (fun _ => 0) (fun _ _ => 0) (fun _ _ => 0) (fun _ => 0))) 40 0 (some (.inl (cy 3, 1, .inr (.inl (fun _ => 0)))))) := by
    refine ⟨(aC 0 0 (by decide)).trans e0, (aM 30 0 (Or.inl rfl)).trans e30, rfl, sc0, ar0 5, (fun _ _ => 0), (fun _ => 0), (fun _ => 0), (fun _ => 0), (fun _ => 0), (fun _ => 0), (fun _ _ => 0), (fun _ _ => 0), (fun _ => 0), N0, (fun _ => 0), MI0, XI0, fun k hk hz => ?_, ?_⟩
    · rw [aC 7 k (by decide)]
      exact hXZ k hk hz
    · rw [oW_new (fun k i h => xA_big (isC_n h)) mW_n, xW_ad aC, mW_ad aM]
  exact lc_loop hl0 hB hG hX hL hQ ha hA 513 0 _ _ ad5 _ none none (by omega) (by omega) (by decide) (by decide) hI
/-- from the entry, for every script of at most 3072 ints, the law comes to its end with true -/
theorem whole_start {p : Program} {e : Env} {s : State} {m : MethodId} {below : List Frame} {meth : Method} {c : Code} (l : Launch) (hl0 : l.stackTraces = false) {b L : Nat} {xs : Nat → Int32} (hL : L ≤ 3072) (C0 : lw_At p s m meth c b L xs) : W p l e room_1 s m #[Value.ref b] below meth c s.heap [] 0 0 (lw_Z below #[Value.ref b] s) (entryFrame m ([Value.ref b] : List Value).toArray 7) := by
  obtain ⟨hx, hb, hr, hml, hown, hts, hX, hbl, hlocks, hgv⟩ := id C0
  have hG : zG s := ⟨b, hts, hgv⟩
  have hgt : ∀ w ∈ gt, w.before #[Value.ref b] s = true := fun w h => hts w (List.mem_filter.mp h).1
  obtain ⟨c0, j0, K0⟩ := u_known (C := RJx4a65c) (T := TJx4a65c) (N := 3) (n := 3) hgt inJx4a65c (hgt _ ins_Jx4a65c)
  obtain ⟨c1, j1, K1⟩ := u_known (C := RX0) (T := TX0) (N := 6) (n := 6) hgt inX0 (hgt _ ins_X0)
  obtain ⟨c2, j2, K2⟩ := u_known (C := RX1) (T := TX1) (N := 3) (n := 3) hgt inX1 (hgt _ ins_X1)
  obtain ⟨c3, j3, K3⟩ := u_known (C := RX2) (T := TX2) (N := 4) (n := 4) hgt inX2 (hgt _ ins_X2)
  obtain ⟨c4, j4, K4⟩ := u_known (C := RX3) (T := TX3) (N := 1) (n := 1) hgt inX3 (hgt _ ins_X3)
  obtain ⟨c5, j5, K5⟩ := u_known (C := RX4) (T := TX4) (N := 8) (n := 8) hgt inX4 (hgt _ ins_X4)
  obtain ⟨c6, j6, K6⟩ := u_known (C := RX5) (T := TX5) (N := 7) (n := 7) hgt inX5 (hgt _ ins_X5)
  obtain ⟨c7, j7, K7⟩ := u_known (C := RX6) (T := TX6) (N := 8) (n := 8) hgt inX6 (hgt _ ins_X6)
  obtain ⟨c8, j8, K8⟩ := u_known (C := RX7) (T := TX7) (N := 7) (n := 7) hgt inX7 (hgt _ ins_X7)
  obtain ⟨c9, j9, K9⟩ := u_known (C := RX8) (T := TX8) (N := 1) (n := 1) hgt inX8 (hgt _ ins_X8)
  obtain ⟨c10, j10, K10⟩ := u_known (C := RX9) (T := TX9) (N := 14) (n := 14) hgt inX9 (hgt _ ins_X9)
  obtain ⟨c11, j11, K11⟩ := u_known (C := RX10) (T := TX10) (N := 47) (n := 47) hgt inX10 (hgt _ ins_X10)
  obtain ⟨dC, dI, hKc⟩ : ∃ (dC : Nat → ClassId) (dI : Nat → Nat → Nat), ∀ (k : Nat) (q : vw_C), vwCl[k]? = some q → u_Kn s q.1 q.2.1 q.2.2 (dC k) (dI k) := by
    refine ⟨fun k => if k = 0 then c0 else if k = 1 then c1 else if k = 2 then c2 else if k = 3 then c3 else if k = 4 then c4 else if k = 5 then c5 else if k = 6 then c6 else if k = 7 then c7 else if k = 8 then c8 else if k = 9 then c9 else if k = 10 then c10 else c11, fun k => if k = 0 then j0 else if k = 1 then j1 else if k = 2 then j2 else if k = 3 then j3 else if k = 4 then j4 else if k = 5 then j5 else if k = 6 then j6 else if k = 7 then j7 else if k = 8 then j8 else if k = 9 then j9 else if k = 10 then j10 else j11, ?_⟩
    intro k q hq
    match k, hq with
    | 0, hq => cases hq; exact K0
    | 1, hq => cases hq; exact K1
    | 2, hq => cases hq; exact K2
    | 3, hq => cases hq; exact K3
    | 4, hq => cases hq; exact K4
    | 5, hq => cases hq; exact K5
    | 6, hq => cases hq; exact K6
    | 7, hq => cases hq; exact K7
    | 8, hq => cases hq; exact K8
    | 9, hq => cases hq; exact K9
    | 10, hq => cases hq; exact K10
    | 11, hq => cases hq; exact K11
    | k + 12, hq => simp [vwCl] at hq
  obtain ⟨ai, ki, mi, i1, i2, i3⟩ := Cond.arrayClass_spec (hts (.arrayClass .int) (lw_m (i := 152) (by decide +kernel)))
  obtain ⟨ab, kb, mb, b1, b2, b3⟩ := Cond.arrayClass_spec (hts (.arrayClass .boolean) (lw_m (i := 120) (by decide +kernel)))
  obtain ⟨al, kl, ml, l1, l2, l3⟩ := Cond.arrayClass_spec (hts (.arrayClass .long) (lw_m (i := 1145) (by decide +kernel)))
  obtain ⟨mo, ao, ko, q1, -, q2, q3, q4⟩ := Cond.arrayOver_spec (hts (.arrayOver (.object "java/lang/Object")) (lw_m (i := 311) (by decide +kernel)))
  have hK : va_K (dC, dI) vwCl (zT (fun k => if k = 0 then ai else if k = 1 then ab else if k = 2 then ao else al)) s := by
    refine ⟨hKc, fun k q hq => ?_⟩
    match k, hq with
    | 0, hq => cases hq; exact ⟨fun n z => ⟨(fun k h => by cases h), ki, i2, mi, i3⟩, i1⟩
    | 1, hq => cases hq; exact ⟨fun n z => ⟨(fun k h => by cases h), kb, b2, mb, b3⟩, b1⟩
    | 2, hq => cases hq; exact ⟨fun n z => ⟨(fun k h => by cases h), ko, q2, mo, q3⟩, ko, mo, q2, q3, q1, q4⟩
    | 3, hq => cases hq; exact ⟨fun n z => ⟨(fun k h => by cases h), kl, l2, ml, l3⟩, l1⟩
    | k + 4, hq => simp at hq
  obtain ⟨e1, e2⟩ := zL_entry (av := [Value.ref b]) (nL := 7) (by simp [Value.category]) (Nat.le_of_ble_eq_true rfl)
  have h := lc_start (X := (p, l, e, room_1, s, m, #[Value.ref b], below, meth, c, lw_Z below #[Value.ref b] s, (fun q => s.heap.size ≤ q), (dC, dI), (fun k => if k = 0 then ai else if k = 1 then ab else if k = 2 then ao else al), s)) (ad := fun _ _ => 0) hl0 ⟨rfl, rfl, rfl, rfl, rfl⟩ hG hX hL rfl rfl (fun q hq => hq)
    ⟨hx, hb, hr, hml, hown, hgt, hlocks, ⟨hK, State.WarmedH.refl s, hG⟩, fun q hq => hq⟩ s.heap [] _ ⟨fun k i c hc => (by cases hc), fun k i k2 i2 h1 => absurd rfl h1, ⟨Nat.le_refl _, fun _ _ => rfl⟩, fun k i h1 => absurd rfl h1⟩ (fun k i h1 => absurd rfl h1) va_S.rf e2
  rw [lg_entry_eq]
  exact h
