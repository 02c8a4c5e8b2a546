def mPf (ad : zA) (sc : Nat → Int32) (m : Nat) : List Value := (List.range 47).map (fun j => if mIs j = true then (if j < m then .ref (ad 31 j) else .null) else .int (sc j))
def mP0 (cy : Nat → ClassId) (ad : zA) (sc : Nat → Int32) (m : Nat) : zW := fun k i => if k = 30 then (if i = 0 then some (.inr (11, mPf ad sc m)) else none) else if k = 31 then (if mIs i = true ∧ i < m then some (.inl (cy (mBo i), mLen i, .inl (fun _ => 0))) else none) else none
theorem mPf_len (ad : zA) (sc : Nat → Int32) (m : Nat) : (mPf ad sc m).length = 47 := by unfold mPf; rw [List.length_map, List.length_range]
theorem mPf_get (ad : zA) (sc : Nat → Int32) (m : Nat) {i : Nat} (h : i < (mPf ad sc m).length) : (mPf ad sc m)[i] = if mIs i = true then (if i < m then .ref (ad 31 i) else .null) else .int (sc i) := by
  simp only [mPf, List.getElem_map, List.getElem_range]
theorem mPf_set {ad ad2 : zA} {sc : Nat → Int32} {m m2 j : Nat} (hj : mIs j = true) (h : ∀ i, mIs i = true → (i < m2 ↔ i < m ∨ i = j)) (had : ∀ k i, ¬ (k = 31 ∧ i = j) → ad2 k i = ad k i) : (mPf ad sc m).set j (.ref (ad2 31 j)) = mPf ad2 sc m2 := by
  refine List.ext_getElem (by rw [List.length_set, mPf_len, mPf_len]) (fun i h1 h2 => ?_)
  rw [List.getElem_set, mPf_get, mPf_get]
  by_cases e : j = i
  · subst e
    rw [if_pos rfl, if_pos hj, if_pos ((h j hj).mpr (Or.inr rfl))]
  · rw [if_neg e]
    by_cases hi : mIs i = true
    · rw [if_pos hi, if_pos hi, had 31 i (by omega)]
      by_cases hm : i < m
      · rw [if_pos hm, if_pos ((h i hi).mpr (Or.inl hm))]
      · rw [if_neg hm, if_neg (fun z => ((h i hi).mp z).elim hm (fun y => e y.symm))]
    · rw [if_neg hi, if_neg hi]
theorem mP_step {cy : Nat → ClassId} {ad ad2 : zA} {sc : Nat → Int32} {m m2 j : Nat} (hj : mIs j = true) (h : ∀ i, mIs i = true → (i < m2 ↔ i < m ∨ i = j)) (had : ∀ k i, ¬ (k = 31 ∧ i = j) → ad2 k i = ad k i) : zU (zU (mP0 cy ad sc m) 31 j (some (.inl (cy (mBo j), mLen j, .inl (fun _ => 0))))) 30 0 (some (.inr (11, (mPf ad sc m).set j (.ref (ad2 31 j))))) = mP0 cy ad2 sc m2 := by
  rw [mPf_set hj h had]
  funext k i
  by_cases e30 : k = 30 ∧ i = 0
  · rw [e30.1, e30.2, zU_s]; rfl
  rw [zU_n _ _ e30]
  by_cases e31 : k = 31 ∧ i = j
  · rw [e31.1, e31.2, zU_s]
    show _ = if mIs j = true ∧ j < m2 then _ else none
    rw [if_pos ⟨hj, (h j hj).mpr (Or.inr rfl)⟩]
  rw [zU_n _ _ e31]
  unfold mP0
  by_cases h30 : k = 30
  · rw [if_pos h30, if_pos h30, if_neg (fun z => e30 ⟨h30, z⟩), if_neg (fun z => e30 ⟨h30, z⟩)]
  · rw [if_neg h30, if_neg h30]
    by_cases h31 : k = 31
    · rw [if_pos h31, if_pos h31]
      by_cases hi : mIs i = true ∧ i < m
      · rw [if_pos hi, if_pos ⟨hi.1, (h i hi.1).mpr (Or.inl hi.2)⟩]
      · rw [if_neg hi, if_neg (fun z => hi ⟨z.1, ((h i z.1).mp z.2).resolve_right (fun y => e31 ⟨h31, y⟩)⟩)]
    · rw [if_neg h31, if_neg h31]
theorem mP_int {cy : Nat → ClassId} {ad : zA} {sc : Nat → Int32} {m j : Nat} (hj : ¬ mIs j = true) (x : Int32) : zU (mP0 cy ad sc m) 30 0 (some (.inr (11, (mPf ad sc m).set j (.int x)))) = mP0 cy ad (upd sc j x) m := by
  have e : (mPf ad sc m).set j (.int x) = mPf ad (upd sc j x) m := by
    refine List.ext_getElem (by rw [List.length_set, mPf_len, mPf_len]) (fun i h1 h2 => ?_)
    rw [List.getElem_set, mPf_get, mPf_get]
    by_cases e : j = i
    · subst e
      rw [if_pos rfl, if_neg hj, pk_us]
    · rw [if_neg e]
      by_cases hi : mIs i = true
      · rw [if_pos hi, if_pos hi]
      · rw [if_neg hi, if_neg hi, pk_un (Ne.symm e)]
  rw [e]
  funext k i
  by_cases e30 : k = 30 ∧ i = 0
  · rw [e30.1, e30.2, zU_s]; rfl
  rw [zU_n _ _ e30]
  unfold mP0
  by_cases h30 : k = 30
  · rw [if_pos h30, if_pos h30, if_neg (fun z => e30 ⟨h30, z⟩), if_neg (fun z => e30 ⟨h30, z⟩)]
  · rw [if_neg h30, if_neg h30]
theorem mIs_47 {i : Nat} (h : mIs i = true) : i < 47 := by
  rcases Nat.lt_or_ge i 47 with z | z
  · exact z
  · unfold mIs at h; rw [List.getD_eq_getElem?_getD, List.getElem?_eq_none (by simpa using z)] at h; cases h
theorem mP_end {cy : Nat → ClassId} {ad : zA} {sc : Nat → Int32} : mP0 cy ad sc 47 = mW cy ad sc (fun _ _ => 0) := by
  funext k i
  unfold mP0 mW
  by_cases h30 : k = 30
  · rw [if_pos h30, if_pos h30]; rfl
  · rw [if_neg h30, if_neg h30]
    by_cases h31 : k = 31
    · rw [if_pos h31, if_pos h31]
      by_cases hi : mIs i = true
      · rw [if_pos ⟨hi, mIs_47 hi⟩, if_pos hi]
      · rw [if_neg (fun z => hi z.1), if_neg hi]
    · rw [if_neg h31, if_neg h31]
theorem mIs_n46 {i : Nat} (h : mIs i = true) : i < 43 ∨ i = 46 := by
  have := mIs_47 h
  rcases (by omega : i < 43 ∨ i = 43 ∨ i = 44 ∨ i = 45 ∨ i = 46) with z | rfl | rfl | rfl | rfl
  · exact Or.inl z
  · exact absurd h (by decide)
  · exact absurd h (by decide)
  · exact absurd h (by decide)
  · exact Or.inr rfl
def sc0 : Nat → Int32 := upd (upd (fun _ => 0) 9 42) 10 2
def ar0 (n : Nat) : Nat → Nat → Int32 := fun j i => if j = 16 ∧ 1 ≤ i ∧ i < n then 100 else 0
theorem ar0_s {n : Nat} (h : 1 ≤ n) : putA (ar0 n) 16 n 100 = ar0 (n + 1) := by
  funext j i
  by_cases e : j = 16
  · subst e
    by_cases ei : i = n
    · subst ei; rw [putA_s]; unfold ar0; rw [if_pos ⟨rfl, h, by omega⟩]
    · rw [putA_m _ _ _ ei]; unfold ar0
      by_cases hc : (16 : Nat) = 16 ∧ 1 ≤ i ∧ i < n
      · rw [if_pos hc, if_pos ⟨rfl, hc.2.1, by omega⟩]
      · rw [if_neg hc, if_neg (fun z => hc ⟨rfl, z.2.1, by omega⟩)]
  · rw [putA_n _ _ _ e]; unfold ar0; rw [if_neg (fun z => e z.1), if_neg (fun z => e z.1)]
theorem ar0_1 : ar0 1 = fun _ _ => 0 := by
  funext j i; unfold ar0; exact if_neg (by omega)
set_option maxHeartbeats 4000000 in
set_option maxRecDepth 100000 in
theorem cM_init {l : Launch} {D : va_G} {cy : Nat → ClassId} {s0 : State} {ad : zA} : zM l D cy s0 yX10_init cX10_init 2 none 2 33 10084 [.ref (ad 30 0)] ad (mP0 cy ad (fun _ => 0) 11) (fun r ad2 w2 => r = none ∧ ad2 30 0 = ad 30 0 ∧ w2 = mW cy ad2 sc0 (ar0 5)) := by
  refine zM_of (own := RX10) rfl (by decide) (by simp [Value.category]) (Nat.le_of_ble_eq_true rfl) ?_
  intro X hB
  show V X RX10 cX10_init 2 none 0 0 ad (mP0 cy ad (fun _ => 0) 11) 0 [some (.ref (ad 30 0)), none] []
  refine v_aload_n dX10_init_0 rfl ?_
  refine v_obj hB o_X10_10 o_inst o_code (by decide) (Nat.le_of_ble_eq_true rfl) dX10_init_1 ?_
  refine v_aload_n dX10_init_4 rfl ?_
  refine v_bipush_v (v := 42) dX10_init_5 (by decide) ?_
  refine v_put (ci := 11) (k := 9) (ty := .int) tyX10 tyX10_ok nmX10 rfl inX10 (by decide) f_X10_16 rfl rfl (by decide +kernel) rfl rfl (show mP0 cy ad (fun _ => 0) 11 30 0 = some (.inr (11, mPf ad (fun _ => 0) 11)) from rfl) (by rw [mPf_len]; decide) dX10_init_7 ?_
  refine v_w (mP_int (by decide) 42) ?_
  refine v_aload_n dX10_init_10 rfl ?_
  refine v_iconst_v (v := 2) dX10_init_11 (by decide) ?_
  refine v_put (ci := 11) (k := 10) (ty := .int) tyX10 tyX10_ok nmX10 rfl inX10 (by decide) f_X10_19 rfl rfl (by decide +kernel) rfl rfl (show mP0 cy ad (upd (fun _ => 0) 9 42) 11 30 0 = some (.inr (11, mPf ad (upd (fun _ => 0) 9 42) 11)) from rfl) (by rw [mPf_len]; decide) dX10_init_12 ?_
  refine v_w (mP_int (by decide) 2) ?_
  refine v_aload_n dX10_init_15 rfl ?_
  refine v_bipush_v (v := 8) dX10_init_16 (by decide) ?_
  refine v_newa (kk := 31) (ii := 11) (t := 0) (N := 8) hB ac_int (Or.inl ⟨rfl, rfl⟩) (by decide) (by decide) (show mP0 _ _ _ 11 31 11 = none from if_neg (by decide)) ⟨by decide, by decide⟩ dX10_init_18 (fun a11 h11 => ?_)
  rw [← h11 30 0 (by omega)]
  refine v_putF hB.nm (ci := 11) (k := 11) (ty := .array .int) tyX10 tyX10_ok nmX10 rfl inX10 (by decide) f_X10_22 rfl rfl rfl (by decide +kernel) rfl rfl (show zU (mP0 cy ad (upd (upd (fun _ => 0) 9 42) 10 2) 11) 31 11 _ 30 0 = some (.inr (11, mPf ad (upd (upd (fun _ => 0) 9 42) 10 2) 11)) from zU_n _ _ (by omega)) (by rw [mPf_len]; decide) dX10_init_20 ?_
  refine v_w (mP_step (m := 11) (m2 := 12) (j := 11) (by decide) (fun i _ => by omega) h11) ?_
  refine v_aload_n dX10_init_23 rfl ?_
  refine v_bipush_v (v := 8) dX10_init_24 (by decide) ?_
  refine v_newa (kk := 31) (ii := 12) (t := 0) (N := 8) hB ac_int (Or.inl ⟨rfl, rfl⟩) (by decide) (by decide) (show mP0 _ _ _ 12 31 12 = none from if_neg (by decide)) ⟨by decide, by decide⟩ dX10_init_26 (fun a12 h12 => ?_)
  rw [← h12 30 0 (by omega)]
  refine v_putF hB.nm (ci := 11) (k := 12) (ty := .array .int) tyX10 tyX10_ok nmX10 rfl inX10 (by decide) f_X10_26 rfl rfl rfl (by decide +kernel) rfl rfl (show zU (mP0 cy a11 (upd (upd (fun _ => 0) 9 42) 10 2) 12) 31 12 _ 30 0 = some (.inr (11, mPf a11 (upd (upd (fun _ => 0) 9 42) 10 2) 12)) from zU_n _ _ (by omega)) (by rw [mPf_len]; decide) dX10_init_28 ?_
  refine v_w (mP_step (m := 12) (m2 := 13) (j := 12) (by decide) (fun i _ => by omega) h12) ?_
  refine v_aload_n dX10_init_31 rfl ?_
  refine v_bipush_v (v := 8) dX10_init_32 (by decide) ?_
  refine v_newa (kk := 31) (ii := 13) (t := 0) (N := 8) hB ac_int (Or.inl ⟨rfl, rfl⟩) (by decide) (by decide) (show mP0 _ _ _ 13 31 13 = none from if_neg (by decide)) ⟨by decide, by decide⟩ dX10_init_34 (fun a13 h13 => ?_)
  rw [← h13 30 0 (by omega)]
  refine v_putF hB.nm (ci := 11) (k := 13) (ty := .array .int) tyX10 tyX10_ok nmX10 rfl inX10 (by decide) f_X10_29 rfl rfl rfl (by decide +kernel) rfl rfl (show zU (mP0 cy a12 (upd (upd (fun _ => 0) 9 42) 10 2) 13) 31 13 _ 30 0 = some (.inr (11, mPf a12 (upd (upd (fun _ => 0) 9 42) 10 2) 13)) from zU_n _ _ (by omega)) (by rw [mPf_len]; decide) dX10_init_36 ?_
  refine v_w (mP_step (m := 13) (m2 := 14) (j := 13) (by decide) (fun i _ => by omega) h13) ?_
  refine v_aload_n dX10_init_39 rfl ?_
  refine v_bipush_v (v := 8) dX10_init_40 (by decide) ?_
  refine v_newa (kk := 31) (ii := 14) (t := 0) (N := 8) hB ac_int (Or.inl ⟨rfl, rfl⟩) (by decide) (by decide) (show mP0 _ _ _ 14 31 14 = none from if_neg (by decide)) ⟨by decide, by decide⟩ dX10_init_42 (fun a14 h14 => ?_)
  rw [← h14 30 0 (by omega)]
  refine v_putF hB.nm (ci := 11) (k := 14) (ty := .array .int) tyX10 tyX10_ok nmX10 rfl inX10 (by decide) f_X10_32 rfl rfl rfl (by decide +kernel) rfl rfl (show zU (mP0 cy a13 (upd (upd (fun _ => 0) 9 42) 10 2) 14) 31 14 _ 30 0 = some (.inr (11, mPf a13 (upd (upd (fun _ => 0) 9 42) 10 2) 14)) from zU_n _ _ (by omega)) (by rw [mPf_len]; decide) dX10_init_44 ?_
  refine v_w (mP_step (m := 14) (m2 := 15) (j := 14) (by decide) (fun i _ => by omega) h14) ?_
  refine v_aload_n dX10_init_47 rfl ?_
  refine v_bipush_v (v := 12) dX10_init_48 (by decide) ?_
  refine v_newa (kk := 31) (ii := 15) (t := 0) (N := 12) hB ac_int (Or.inl ⟨rfl, rfl⟩) (by decide) (by decide) (show mP0 _ _ _ 15 31 15 = none from if_neg (by decide)) ⟨by decide, by decide⟩ dX10_init_50 (fun a15 h15 => ?_)
  rw [← h15 30 0 (by omega)]
  refine v_putF hB.nm (ci := 11) (k := 15) (ty := .array .int) tyX10 tyX10_ok nmX10 rfl inX10 (by decide) f_X10_35 rfl rfl rfl (by decide +kernel) rfl rfl (show zU (mP0 cy a14 (upd (upd (fun _ => 0) 9 42) 10 2) 15) 31 15 _ 30 0 = some (.inr (11, mPf a14 (upd (upd (fun _ => 0) 9 42) 10 2) 15)) from zU_n _ _ (by omega)) (by rw [mPf_len]; decide) dX10_init_52 ?_
  refine v_w (mP_step (m := 15) (m2 := 16) (j := 15) (by decide) (fun i _ => by omega) h15) ?_
  refine v_aload_n dX10_init_55 rfl ?_
  refine v_iconst_v (v := 5) dX10_init_56 (by decide) ?_
  refine v_newa (kk := 31) (ii := 16) (t := 0) (N := 5) hB ac_int (Or.inl ⟨rfl, rfl⟩) (by decide) (by decide) (show mP0 _ _ _ 16 31 16 = none from if_neg (by decide)) ⟨by decide, by decide⟩ dX10_init_57 (fun a16 h16 => ?_)
  rw [← h16 30 0 (by omega)]
  refine v_putF hB.nm (ci := 11) (k := 16) (ty := .array .int) tyX10 tyX10_ok nmX10 rfl inX10 (by decide) f_X10_38 rfl rfl rfl (by decide +kernel) rfl rfl (show zU (mP0 cy a15 (upd (upd (fun _ => 0) 9 42) 10 2) 16) 31 16 _ 30 0 = some (.inr (11, mPf a15 (upd (upd (fun _ => 0) 9 42) 10 2) 16)) from zU_n _ _ (by omega)) (by rw [mPf_len]; decide) dX10_init_59 ?_
  refine v_w (mP_step (m := 16) (m2 := 17) (j := 16) (by decide) (fun i _ => by omega) h16) ?_
  refine v_aload_n dX10_init_62 rfl ?_
  refine v_sipush_v (v := 3001) dX10_init_63 (by decide) ?_
  refine v_newa (kk := 31) (ii := 17) (t := 1) (N := 3001) hB ac_bool (Or.inr ⟨rfl, rfl⟩) (by decide) (by decide) (show mP0 _ _ _ 17 31 17 = none from if_neg (by decide)) ⟨by decide, by decide⟩ dX10_init_66 (fun a17 h17 => ?_)
  rw [← h17 30 0 (by omega)]
  refine v_putF hB.nm (ci := 11) (k := 17) (ty := .array .boolean) tyX10 tyX10_ok nmX10 rfl inX10 (by decide) f_X10_41 rfl rfl rfl (by decide +kernel) rfl rfl (show zU (mP0 cy a16 (upd (upd (fun _ => 0) 9 42) 10 2) 17) 31 17 _ 30 0 = some (.inr (11, mPf a16 (upd (upd (fun _ => 0) 9 42) 10 2) 17)) from zU_n _ _ (by omega)) (by rw [mPf_len]; decide) dX10_init_68 ?_
  refine v_w (mP_step (m := 17) (m2 := 18) (j := 17) (by decide) (fun i _ => by omega) h17) ?_
  refine v_aload_n dX10_init_71 rfl ?_
  refine v_sipush_v (v := 200) dX10_init_72 (by decide) ?_
  refine v_newa (kk := 31) (ii := 18) (t := 0) (N := 200) hB ac_int (Or.inl ⟨rfl, rfl⟩) (by decide) (by decide) (show mP0 _ _ _ 18 31 18 = none from if_neg (by decide)) ⟨by decide, by decide⟩ dX10_init_75 (fun a18 h18 => ?_)
  rw [← h18 30 0 (by omega)]
  refine v_putF hB.nm (ci := 11) (k := 18) (ty := .array .int) tyX10 tyX10_ok nmX10 rfl inX10 (by decide) f_X10_45 rfl rfl rfl (by decide +kernel) rfl rfl (show zU (mP0 cy a17 (upd (upd (fun _ => 0) 9 42) 10 2) 18) 31 18 _ 30 0 = some (.inr (11, mPf a17 (upd (upd (fun _ => 0) 9 42) 10 2) 18)) from zU_n _ _ (by omega)) (by rw [mPf_len]; decide) dX10_init_77 ?_
  refine v_w (mP_step (m := 18) (m2 := 19) (j := 18) (by decide) (fun i _ => by omega) h18) ?_
  refine v_aload_n dX10_init_80 rfl ?_
  refine v_sipush_v (v := 200) dX10_init_81 (by decide) ?_
  refine v_newa (kk := 31) (ii := 19) (t := 0) (N := 200) hB ac_int (Or.inl ⟨rfl, rfl⟩) (by decide) (by decide) (show mP0 _ _ _ 19 31 19 = none from if_neg (by decide)) ⟨by decide, by decide⟩ dX10_init_84 (fun a19 h19 => ?_)
  rw [← h19 30 0 (by omega)]
  refine v_putF hB.nm (ci := 11) (k := 19) (ty := .array .int) tyX10 tyX10_ok nmX10 rfl inX10 (by decide) f_X10_48 rfl rfl rfl (by decide +kernel) rfl rfl (show zU (mP0 cy a18 (upd (upd (fun _ => 0) 9 42) 10 2) 19) 31 19 _ 30 0 = some (.inr (11, mPf a18 (upd (upd (fun _ => 0) 9 42) 10 2) 19)) from zU_n _ _ (by omega)) (by rw [mPf_len]; decide) dX10_init_86 ?_
  refine v_w (mP_step (m := 19) (m2 := 20) (j := 19) (by decide) (fun i _ => by omega) h19) ?_
  refine v_aload_n dX10_init_89 rfl ?_
  refine v_sipush_v (v := 200) dX10_init_90 (by decide) ?_
  refine v_newa (kk := 31) (ii := 20) (t := 0) (N := 200) hB ac_int (Or.inl ⟨rfl, rfl⟩) (by decide) (by decide) (show mP0 _ _ _ 20 31 20 = none from if_neg (by decide)) ⟨by decide, by decide⟩ dX10_init_93 (fun a20 h20 => ?_)
  rw [← h20 30 0 (by omega)]
  refine v_putF hB.nm (ci := 11) (k := 20) (ty := .array .int) tyX10 tyX10_ok nmX10 rfl inX10 (by decide) f_X10_51 rfl rfl rfl (by decide +kernel) rfl rfl (show zU (mP0 cy a19 (upd (upd (fun _ => 0) 9 42) 10 2) 20) 31 20 _ 30 0 = some (.inr (11, mPf a19 (upd (upd (fun _ => 0) 9 42) 10 2) 20)) from zU_n _ _ (by omega)) (by rw [mPf_len]; decide) dX10_init_95 ?_
  refine v_w (mP_step (m := 20) (m2 := 21) (j := 20) (by decide) (fun i _ => by omega) h20) ?_
  refine v_aload_n dX10_init_98 rfl ?_
  refine v_sipush_v (v := 200) dX10_init_99 (by decide) ?_
  refine v_newa (kk := 31) (ii := 21) (t := 0) (N := 200) hB ac_int (Or.inl ⟨rfl, rfl⟩) (by decide) (by decide) (show mP0 _ _ _ 21 31 21 = none from if_neg (by decide)) ⟨by decide, by decide⟩ dX10_init_102 (fun a21 h21 => ?_)
  rw [← h21 30 0 (by omega)]
  refine v_putF hB.nm (ci := 11) (k := 21) (ty := .array .int) tyX10 tyX10_ok nmX10 rfl inX10 (by decide) f_X10_54 rfl rfl rfl (by decide +kernel) rfl rfl (show zU (mP0 cy a20 (upd (upd (fun _ => 0) 9 42) 10 2) 21) 31 21 _ 30 0 = some (.inr (11, mPf a20 (upd (upd (fun _ => 0) 9 42) 10 2) 21)) from zU_n _ _ (by omega)) (by rw [mPf_len]; decide) dX10_init_104 ?_
  refine v_w (mP_step (m := 21) (m2 := 22) (j := 21) (by decide) (fun i _ => by omega) h21) ?_
  refine v_aload_n dX10_init_107 rfl ?_
  refine v_sipush_v (v := 200) dX10_init_108 (by decide) ?_
  refine v_newa (kk := 31) (ii := 22) (t := 0) (N := 200) hB ac_int (Or.inl ⟨rfl, rfl⟩) (by decide) (by decide) (show mP0 _ _ _ 22 31 22 = none from if_neg (by decide)) ⟨by decide, by decide⟩ dX10_init_111 (fun a22 h22 => ?_)
  rw [← h22 30 0 (by omega)]
  refine v_putF hB.nm (ci := 11) (k := 22) (ty := .array .int) tyX10 tyX10_ok nmX10 rfl inX10 (by decide) f_X10_57 rfl rfl rfl (by decide +kernel) rfl rfl (show zU (mP0 cy a21 (upd (upd (fun _ => 0) 9 42) 10 2) 22) 31 22 _ 30 0 = some (.inr (11, mPf a21 (upd (upd (fun _ => 0) 9 42) 10 2) 22)) from zU_n _ _ (by omega)) (by rw [mPf_len]; decide) dX10_init_113 ?_
  refine v_w (mP_step (m := 22) (m2 := 23) (j := 22) (by decide) (fun i _ => by omega) h22) ?_
  refine v_aload_n dX10_init_116 rfl ?_
  refine v_sipush_v (v := 200) dX10_init_117 (by decide) ?_
  refine v_newa (kk := 31) (ii := 23) (t := 0) (N := 200) hB ac_int (Or.inl ⟨rfl, rfl⟩) (by decide) (by decide) (show mP0 _ _ _ 23 31 23 = none from if_neg (by decide)) ⟨by decide, by decide⟩ dX10_init_120 (fun a23 h23 => ?_)
  rw [← h23 30 0 (by omega)]
  refine v_putF hB.nm (ci := 11) (k := 23) (ty := .array .int) tyX10 tyX10_ok nmX10 rfl inX10 (by decide) f_X10_60 rfl rfl rfl (by decide +kernel) rfl rfl (show zU (mP0 cy a22 (upd (upd (fun _ => 0) 9 42) 10 2) 23) 31 23 _ 30 0 = some (.inr (11, mPf a22 (upd (upd (fun _ => 0) 9 42) 10 2) 23)) from zU_n _ _ (by omega)) (by rw [mPf_len]; decide) dX10_init_122 ?_
  refine v_w (mP_step (m := 23) (m2 := 24) (j := 23) (by decide) (fun i _ => by omega) h23) ?_
  refine v_aload_n dX10_init_125 rfl ?_
  refine v_sipush_v (v := 200) dX10_init_126 (by decide) ?_
  refine v_newa (kk := 31) (ii := 24) (t := 0) (N := 200) hB ac_int (Or.inl ⟨rfl, rfl⟩) (by decide) (by decide) (show mP0 _ _ _ 24 31 24 = none from if_neg (by decide)) ⟨by decide, by decide⟩ dX10_init_129 (fun a24 h24 => ?_)
  rw [← h24 30 0 (by omega)]
  refine v_putF hB.nm (ci := 11) (k := 24) (ty := .array .int) tyX10 tyX10_ok nmX10 rfl inX10 (by decide) f_X10_63 rfl rfl rfl (by decide +kernel) rfl rfl (show zU (mP0 cy a23 (upd (upd (fun _ => 0) 9 42) 10 2) 24) 31 24 _ 30 0 = some (.inr (11, mPf a23 (upd (upd (fun _ => 0) 9 42) 10 2) 24)) from zU_n _ _ (by omega)) (by rw [mPf_len]; decide) dX10_init_131 ?_
  refine v_w (mP_step (m := 24) (m2 := 25) (j := 24) (by decide) (fun i _ => by omega) h24) ?_
  refine v_aload_n dX10_init_134 rfl ?_
  refine v_bipush_v (v := 120) dX10_init_135 (by decide) ?_
  refine v_newa (kk := 31) (ii := 25) (t := 0) (N := 120) hB ac_int (Or.inl ⟨rfl, rfl⟩) (by decide) (by decide) (show mP0 _ _ _ 25 31 25 = none from if_neg (by decide)) ⟨by decide, by decide⟩ dX10_init_137 (fun a25 h25 => ?_)
  rw [← h25 30 0 (by omega)]
  refine v_putF hB.nm (ci := 11) (k := 25) (ty := .array .int) tyX10 tyX10_ok nmX10 rfl inX10 (by decide) f_X10_66 rfl rfl rfl (by decide +kernel) rfl rfl (show zU (mP0 cy a24 (upd (upd (fun _ => 0) 9 42) 10 2) 25) 31 25 _ 30 0 = some (.inr (11, mPf a24 (upd (upd (fun _ => 0) 9 42) 10 2) 25)) from zU_n _ _ (by omega)) (by rw [mPf_len]; decide) dX10_init_139 ?_
  refine v_w (mP_step (m := 25) (m2 := 26) (j := 25) (by decide) (fun i _ => by omega) h25) ?_
  refine v_aload_n dX10_init_142 rfl ?_
  refine v_bipush_v (v := 120) dX10_init_143 (by decide) ?_
  refine v_newa (kk := 31) (ii := 26) (t := 0) (N := 120) hB ac_int (Or.inl ⟨rfl, rfl⟩) (by decide) (by decide) (show mP0 _ _ _ 26 31 26 = none from if_neg (by decide)) ⟨by decide, by decide⟩ dX10_init_145 (fun a26 h26 => ?_)
  rw [← h26 30 0 (by omega)]
  refine v_putF hB.nm (ci := 11) (k := 26) (ty := .array .int) tyX10 tyX10_ok nmX10 rfl inX10 (by decide) f_X10_69 rfl rfl rfl (by decide +kernel) rfl rfl (show zU (mP0 cy a25 (upd (upd (fun _ => 0) 9 42) 10 2) 26) 31 26 _ 30 0 = some (.inr (11, mPf a25 (upd (upd (fun _ => 0) 9 42) 10 2) 26)) from zU_n _ _ (by omega)) (by rw [mPf_len]; decide) dX10_init_147 ?_
  refine v_w (mP_step (m := 26) (m2 := 27) (j := 26) (by decide) (fun i _ => by omega) h26) ?_
  refine v_aload_n dX10_init_150 rfl ?_
  refine v_bipush_v (v := 120) dX10_init_151 (by decide) ?_
  refine v_newa (kk := 31) (ii := 27) (t := 0) (N := 120) hB ac_int (Or.inl ⟨rfl, rfl⟩) (by decide) (by decide) (show mP0 _ _ _ 27 31 27 = none from if_neg (by decide)) ⟨by decide, by decide⟩ dX10_init_153 (fun a27 h27 => ?_)
  rw [← h27 30 0 (by omega)]
  refine v_putF hB.nm (ci := 11) (k := 27) (ty := .array .int) tyX10 tyX10_ok nmX10 rfl inX10 (by decide) f_X10_72 rfl rfl rfl (by decide +kernel) rfl rfl (show zU (mP0 cy a26 (upd (upd (fun _ => 0) 9 42) 10 2) 27) 31 27 _ 30 0 = some (.inr (11, mPf a26 (upd (upd (fun _ => 0) 9 42) 10 2) 27)) from zU_n _ _ (by omega)) (by rw [mPf_len]; decide) dX10_init_155 ?_
  refine v_w (mP_step (m := 27) (m2 := 28) (j := 27) (by decide) (fun i _ => by omega) h27) ?_
  refine v_aload_n dX10_init_158 rfl ?_
  refine v_bipush_v (v := 120) dX10_init_159 (by decide) ?_
  refine v_newa (kk := 31) (ii := 28) (t := 0) (N := 120) hB ac_int (Or.inl ⟨rfl, rfl⟩) (by decide) (by decide) (show mP0 _ _ _ 28 31 28 = none from if_neg (by decide)) ⟨by decide, by decide⟩ dX10_init_161 (fun a28 h28 => ?_)
  rw [← h28 30 0 (by omega)]
  refine v_putF hB.nm (ci := 11) (k := 28) (ty := .array .int) tyX10 tyX10_ok nmX10 rfl inX10 (by decide) f_X10_75 rfl rfl rfl (by decide +kernel) rfl rfl (show zU (mP0 cy a27 (upd (upd (fun _ => 0) 9 42) 10 2) 28) 31 28 _ 30 0 = some (.inr (11, mPf a27 (upd (upd (fun _ => 0) 9 42) 10 2) 28)) from zU_n _ _ (by omega)) (by rw [mPf_len]; decide) dX10_init_163 ?_
  refine v_w (mP_step (m := 28) (m2 := 29) (j := 28) (by decide) (fun i _ => by omega) h28) ?_
  refine v_aload_n dX10_init_166 rfl ?_
  refine v_bipush_v (v := 120) dX10_init_167 (by decide) ?_
  refine v_newa (kk := 31) (ii := 29) (t := 0) (N := 120) hB ac_int (Or.inl ⟨rfl, rfl⟩) (by decide) (by decide) (show mP0 _ _ _ 29 31 29 = none from if_neg (by decide)) ⟨by decide, by decide⟩ dX10_init_169 (fun a29 h29 => ?_)
  rw [← h29 30 0 (by omega)]
  refine v_putF hB.nm (ci := 11) (k := 29) (ty := .array .int) tyX10 tyX10_ok nmX10 rfl inX10 (by decide) f_X10_78 rfl rfl rfl (by decide +kernel) rfl rfl (show zU (mP0 cy a28 (upd (upd (fun _ => 0) 9 42) 10 2) 29) 31 29 _ 30 0 = some (.inr (11, mPf a28 (upd (upd (fun _ => 0) 9 42) 10 2) 29)) from zU_n _ _ (by omega)) (by rw [mPf_len]; decide) dX10_init_171 ?_
  refine v_w (mP_step (m := 29) (m2 := 30) (j := 29) (by decide) (fun i _ => by omega) h29) ?_
  refine v_aload_n dX10_init_174 rfl ?_
  refine v_sipush_v (v := 480) dX10_init_175 (by decide) ?_
  refine v_newa (kk := 31) (ii := 30) (t := 0) (N := 480) hB ac_int (Or.inl ⟨rfl, rfl⟩) (by decide) (by decide) (show mP0 _ _ _ 30 31 30 = none from if_neg (by decide)) ⟨by decide, by decide⟩ dX10_init_178 (fun a30 h30 => ?_)
  rw [← h30 30 0 (by omega)]
  refine v_putF hB.nm (ci := 11) (k := 30) (ty := .array .int) tyX10 tyX10_ok nmX10 rfl inX10 (by decide) f_X10_81 rfl rfl rfl (by decide +kernel) rfl rfl (show zU (mP0 cy a29 (upd (upd (fun _ => 0) 9 42) 10 2) 30) 31 30 _ 30 0 = some (.inr (11, mPf a29 (upd (upd (fun _ => 0) 9 42) 10 2) 30)) from zU_n _ _ (by omega)) (by rw [mPf_len]; decide) dX10_init_180 ?_
  refine v_w (mP_step (m := 30) (m2 := 31) (j := 30) (by decide) (fun i _ => by omega) h30) ?_
  refine v_aload_n dX10_init_183 rfl ?_
  refine v_bipush_v (v := 60) dX10_init_184 (by decide) ?_
  refine v_newa (kk := 31) (ii := 31) (t := 0) (N := 60) hB ac_int (Or.inl ⟨rfl, rfl⟩) (by decide) (by decide) (show mP0 _ _ _ 31 31 31 = none from if_neg (by decide)) ⟨by decide, by decide⟩ dX10_init_186 (fun a31 h31 => ?_)
  rw [← h31 30 0 (by omega)]
  refine v_putF hB.nm (ci := 11) (k := 31) (ty := .array .int) tyX10 tyX10_ok nmX10 rfl inX10 (by decide) f_X10_84 rfl rfl rfl (by decide +kernel) rfl rfl (show zU (mP0 cy a30 (upd (upd (fun _ => 0) 9 42) 10 2) 31) 31 31 _ 30 0 = some (.inr (11, mPf a30 (upd (upd (fun _ => 0) 9 42) 10 2) 31)) from zU_n _ _ (by omega)) (by rw [mPf_len]; decide) dX10_init_188 ?_
  refine v_w (mP_step (m := 31) (m2 := 32) (j := 31) (by decide) (fun i _ => by omega) h31) ?_
  refine v_aload_n dX10_init_191 rfl ?_
  refine v_bipush_v (v := 60) dX10_init_192 (by decide) ?_
  refine v_newa (kk := 31) (ii := 32) (t := 0) (N := 60) hB ac_int (Or.inl ⟨rfl, rfl⟩) (by decide) (by decide) (show mP0 _ _ _ 32 31 32 = none from if_neg (by decide)) ⟨by decide, by decide⟩ dX10_init_194 (fun a32 h32 => ?_)
  rw [← h32 30 0 (by omega)]
  refine v_putF hB.nm (ci := 11) (k := 32) (ty := .array .int) tyX10 tyX10_ok nmX10 rfl inX10 (by decide) f_X10_87 rfl rfl rfl (by decide +kernel) rfl rfl (show zU (mP0 cy a31 (upd (upd (fun _ => 0) 9 42) 10 2) 32) 31 32 _ 30 0 = some (.inr (11, mPf a31 (upd (upd (fun _ => 0) 9 42) 10 2) 32)) from zU_n _ _ (by omega)) (by rw [mPf_len]; decide) dX10_init_196 ?_
  refine v_w (mP_step (m := 32) (m2 := 33) (j := 32) (by decide) (fun i _ => by omega) h32) ?_
  refine v_aload_n dX10_init_199 rfl ?_
  refine v_bipush_v (v := 60) dX10_init_200 (by decide) ?_
  refine v_newa (kk := 31) (ii := 33) (t := 0) (N := 60) hB ac_int (Or.inl ⟨rfl, rfl⟩) (by decide) (by decide) (show mP0 _ _ _ 33 31 33 = none from if_neg (by decide)) ⟨by decide, by decide⟩ dX10_init_202 (fun a33 h33 => ?_)
  rw [← h33 30 0 (by omega)]
  refine v_putF hB.nm (ci := 11) (k := 33) (ty := .array .int) tyX10 tyX10_ok nmX10 rfl inX10 (by decide) f_X10_90 rfl rfl rfl (by decide +kernel) rfl rfl (show zU (mP0 cy a32 (upd (upd (fun _ => 0) 9 42) 10 2) 33) 31 33 _ 30 0 = some (.inr (11, mPf a32 (upd (upd (fun _ => 0) 9 42) 10 2) 33)) from zU_n _ _ (by omega)) (by rw [mPf_len]; decide) dX10_init_204 ?_
  refine v_w (mP_step (m := 33) (m2 := 34) (j := 33) (by decide) (fun i _ => by omega) h33) ?_
  refine v_aload_n dX10_init_207 rfl ?_
  refine v_bipush_v (v := 60) dX10_init_208 (by decide) ?_
  refine v_newa (kk := 31) (ii := 34) (t := 0) (N := 60) hB ac_int (Or.inl ⟨rfl, rfl⟩) (by decide) (by decide) (show mP0 _ _ _ 34 31 34 = none from if_neg (by decide)) ⟨by decide, by decide⟩ dX10_init_210 (fun a34 h34 => ?_)
  rw [← h34 30 0 (by omega)]
  refine v_putF hB.nm (ci := 11) (k := 34) (ty := .array .int) tyX10 tyX10_ok nmX10 rfl inX10 (by decide) f_X10_93 rfl rfl rfl (by decide +kernel) rfl rfl (show zU (mP0 cy a33 (upd (upd (fun _ => 0) 9 42) 10 2) 34) 31 34 _ 30 0 = some (.inr (11, mPf a33 (upd (upd (fun _ => 0) 9 42) 10 2) 34)) from zU_n _ _ (by omega)) (by rw [mPf_len]; decide) dX10_init_212 ?_
  refine v_w (mP_step (m := 34) (m2 := 35) (j := 34) (by decide) (fun i _ => by omega) h34) ?_
  refine v_aload_n dX10_init_215 rfl ?_
  refine v_bipush_v (v := 60) dX10_init_216 (by decide) ?_
  refine v_newa (kk := 31) (ii := 35) (t := 0) (N := 60) hB ac_int (Or.inl ⟨rfl, rfl⟩) (by decide) (by decide) (show mP0 _ _ _ 35 31 35 = none from if_neg (by decide)) ⟨by decide, by decide⟩ dX10_init_218 (fun a35 h35 => ?_)
  rw [← h35 30 0 (by omega)]
  refine v_putF hB.nm (ci := 11) (k := 35) (ty := .array .int) tyX10 tyX10_ok nmX10 rfl inX10 (by decide) f_X10_96 rfl rfl rfl (by decide +kernel) rfl rfl (show zU (mP0 cy a34 (upd (upd (fun _ => 0) 9 42) 10 2) 35) 31 35 _ 30 0 = some (.inr (11, mPf a34 (upd (upd (fun _ => 0) 9 42) 10 2) 35)) from zU_n _ _ (by omega)) (by rw [mPf_len]; decide) dX10_init_220 ?_
  refine v_w (mP_step (m := 35) (m2 := 36) (j := 35) (by decide) (fun i _ => by omega) h35) ?_
  refine v_aload_n dX10_init_223 rfl ?_
  refine v_bipush_v (v := 20) dX10_init_224 (by decide) ?_
  refine v_newa (kk := 31) (ii := 36) (t := 0) (N := 20) hB ac_int (Or.inl ⟨rfl, rfl⟩) (by decide) (by decide) (show mP0 _ _ _ 36 31 36 = none from if_neg (by decide)) ⟨by decide, by decide⟩ dX10_init_226 (fun a36 h36 => ?_)
  rw [← h36 30 0 (by omega)]
  refine v_putF hB.nm (ci := 11) (k := 36) (ty := .array .int) tyX10 tyX10_ok nmX10 rfl inX10 (by decide) f_X10_99 rfl rfl rfl (by decide +kernel) rfl rfl (show zU (mP0 cy a35 (upd (upd (fun _ => 0) 9 42) 10 2) 36) 31 36 _ 30 0 = some (.inr (11, mPf a35 (upd (upd (fun _ => 0) 9 42) 10 2) 36)) from zU_n _ _ (by omega)) (by rw [mPf_len]; decide) dX10_init_228 ?_
  refine v_w (mP_step (m := 36) (m2 := 37) (j := 36) (by decide) (fun i _ => by omega) h36) ?_
  refine v_aload_n dX10_init_231 rfl ?_
  refine v_bipush_v (v := 20) dX10_init_232 (by decide) ?_
  refine v_newa (kk := 31) (ii := 37) (t := 0) (N := 20) hB ac_int (Or.inl ⟨rfl, rfl⟩) (by decide) (by decide) (show mP0 _ _ _ 37 31 37 = none from if_neg (by decide)) ⟨by decide, by decide⟩ dX10_init_234 (fun a37 h37 => ?_)
  rw [← h37 30 0 (by omega)]
  refine v_putF hB.nm (ci := 11) (k := 37) (ty := .array .int) tyX10 tyX10_ok nmX10 rfl inX10 (by decide) f_X10_102 rfl rfl rfl (by decide +kernel) rfl rfl (show zU (mP0 cy a36 (upd (upd (fun _ => 0) 9 42) 10 2) 37) 31 37 _ 30 0 = some (.inr (11, mPf a36 (upd (upd (fun _ => 0) 9 42) 10 2) 37)) from zU_n _ _ (by omega)) (by rw [mPf_len]; decide) dX10_init_236 ?_
  refine v_w (mP_step (m := 37) (m2 := 38) (j := 37) (by decide) (fun i _ => by omega) h37) ?_
  refine v_aload_n dX10_init_239 rfl ?_
  refine v_bipush_v (v := 20) dX10_init_240 (by decide) ?_
  refine v_newa (kk := 31) (ii := 38) (t := 0) (N := 20) hB ac_int (Or.inl ⟨rfl, rfl⟩) (by decide) (by decide) (show mP0 _ _ _ 38 31 38 = none from if_neg (by decide)) ⟨by decide, by decide⟩ dX10_init_242 (fun a38 h38 => ?_)
  rw [← h38 30 0 (by omega)]
  refine v_putF hB.nm (ci := 11) (k := 38) (ty := .array .int) tyX10 tyX10_ok nmX10 rfl inX10 (by decide) f_X10_105 rfl rfl rfl (by decide +kernel) rfl rfl (show zU (mP0 cy a37 (upd (upd (fun _ => 0) 9 42) 10 2) 38) 31 38 _ 30 0 = some (.inr (11, mPf a37 (upd (upd (fun _ => 0) 9 42) 10 2) 38)) from zU_n _ _ (by omega)) (by rw [mPf_len]; decide) dX10_init_244 ?_
  refine v_w (mP_step (m := 38) (m2 := 39) (j := 38) (by decide) (fun i _ => by omega) h38) ?_
  refine v_aload_n dX10_init_247 rfl ?_
  refine v_bipush_v (v := 60) dX10_init_248 (by decide) ?_
  refine v_newa (kk := 31) (ii := 39) (t := 1) (N := 60) hB ac_bool (Or.inr ⟨rfl, rfl⟩) (by decide) (by decide) (show mP0 _ _ _ 39 31 39 = none from if_neg (by decide)) ⟨by decide, by decide⟩ dX10_init_250 (fun a39 h39 => ?_)
  rw [← h39 30 0 (by omega)]
  refine v_putF hB.nm (ci := 11) (k := 39) (ty := .array .boolean) tyX10 tyX10_ok nmX10 rfl inX10 (by decide) f_X10_108 rfl rfl rfl (by decide +kernel) rfl rfl (show zU (mP0 cy a38 (upd (upd (fun _ => 0) 9 42) 10 2) 39) 31 39 _ 30 0 = some (.inr (11, mPf a38 (upd (upd (fun _ => 0) 9 42) 10 2) 39)) from zU_n _ _ (by omega)) (by rw [mPf_len]; decide) dX10_init_252 ?_
  refine v_w (mP_step (m := 39) (m2 := 40) (j := 39) (by decide) (fun i _ => by omega) h39) ?_
  refine v_aload_n dX10_init_255 rfl ?_
  refine v_bipush_v (v := 30) dX10_init_256 (by decide) ?_
  refine v_newa (kk := 31) (ii := 40) (t := 0) (N := 30) hB ac_int (Or.inl ⟨rfl, rfl⟩) (by decide) (by decide) (show mP0 _ _ _ 40 31 40 = none from if_neg (by decide)) ⟨by decide, by decide⟩ dX10_init_258 (fun a40 h40 => ?_)
  rw [← h40 30 0 (by omega)]
  refine v_putF hB.nm (ci := 11) (k := 40) (ty := .array .int) tyX10 tyX10_ok nmX10 rfl inX10 (by decide) f_X10_111 rfl rfl rfl (by decide +kernel) rfl rfl (show zU (mP0 cy a39 (upd (upd (fun _ => 0) 9 42) 10 2) 40) 31 40 _ 30 0 = some (.inr (11, mPf a39 (upd (upd (fun _ => 0) 9 42) 10 2) 40)) from zU_n _ _ (by omega)) (by rw [mPf_len]; decide) dX10_init_260 ?_
  refine v_w (mP_step (m := 40) (m2 := 41) (j := 40) (by decide) (fun i _ => by omega) h40) ?_
  refine v_aload_n dX10_init_263 rfl ?_
  refine v_iconst_v (v := 4) dX10_init_264 (by decide) ?_
  refine v_newa (kk := 31) (ii := 41) (t := 0) (N := 4) hB ac_int (Or.inl ⟨rfl, rfl⟩) (by decide) (by decide) (show mP0 _ _ _ 41 31 41 = none from if_neg (by decide)) ⟨by decide, by decide⟩ dX10_init_265 (fun a41 h41 => ?_)
  rw [← h41 30 0 (by omega)]
  refine v_putF hB.nm (ci := 11) (k := 41) (ty := .array .int) tyX10 tyX10_ok nmX10 rfl inX10 (by decide) f_X10_114 rfl rfl rfl (by decide +kernel) rfl rfl (show zU (mP0 cy a40 (upd (upd (fun _ => 0) 9 42) 10 2) 41) 31 41 _ 30 0 = some (.inr (11, mPf a40 (upd (upd (fun _ => 0) 9 42) 10 2) 41)) from zU_n _ _ (by omega)) (by rw [mPf_len]; decide) dX10_init_267 ?_
  refine v_w (mP_step (m := 41) (m2 := 42) (j := 41) (by decide) (fun i _ => by omega) h41) ?_
  refine v_aload_n dX10_init_270 rfl ?_
  refine v_iconst_v (v := 4) dX10_init_271 (by decide) ?_
  refine v_newa (kk := 31) (ii := 42) (t := 0) (N := 4) hB ac_int (Or.inl ⟨rfl, rfl⟩) (by decide) (by decide) (show mP0 _ _ _ 42 31 42 = none from if_neg (by decide)) ⟨by decide, by decide⟩ dX10_init_272 (fun a42 h42 => ?_)
  rw [← h42 30 0 (by omega)]
  refine v_putF hB.nm (ci := 11) (k := 42) (ty := .array .int) tyX10 tyX10_ok nmX10 rfl inX10 (by decide) f_X10_117 rfl rfl rfl (by decide +kernel) rfl rfl (show zU (mP0 cy a41 (upd (upd (fun _ => 0) 9 42) 10 2) 42) 31 42 _ 30 0 = some (.inr (11, mPf a41 (upd (upd (fun _ => 0) 9 42) 10 2) 42)) from zU_n _ _ (by omega)) (by rw [mPf_len]; decide) dX10_init_274 ?_
  refine v_w (mP_step (m := 42) (m2 := 43) (j := 42) (by decide) (fun i _ => by omega) h42) ?_
  refine v_aload_n dX10_init_277 rfl ?_
  refine v_sipush_v (v := 4096) dX10_init_278 (by decide) ?_
  refine v_newa (kk := 31) (ii := 46) (t := 0) (N := 4096) hB ac_int (Or.inl ⟨rfl, rfl⟩) (by decide) (by decide) (show mP0 _ _ _ 43 31 46 = none from if_neg (by decide)) ⟨by decide, by decide⟩ dX10_init_281 (fun a46 h46 => ?_)
  rw [← h46 30 0 (by omega)]
  refine v_putF hB.nm (ci := 11) (k := 46) (ty := .array .int) tyX10 tyX10_ok nmX10 rfl inX10 (by decide) f_X10_120 rfl rfl rfl (by decide +kernel) rfl rfl (show zU (mP0 cy a42 (upd (upd (fun _ => 0) 9 42) 10 2) 43) 31 46 _ 30 0 = some (.inr (11, mPf a42 (upd (upd (fun _ => 0) 9 42) 10 2) 43)) from zU_n _ _ (by omega)) (by rw [mPf_len]; decide) dX10_init_283 ?_
  refine v_w (mP_step (m := 43) (m2 := 47) (j := 46) (by decide) (fun i hi => by have := mIs_n46 hi; omega) h46) ?_
  refine v_w mP_end ?_
  have e30 : a46 30 0 = ad 30 0 := by rw [h46 30 0 (by omega), h42 30 0 (by omega), h41 30 0 (by omega), h40 30 0 (by omega), h39 30 0 (by omega), h38 30 0 (by omega), h37 30 0 (by omega), h36 30 0 (by omega), h35 30 0 (by omega), h34 30 0 (by omega), h33 30 0 (by omega), h32 30 0 (by omega), h31 30 0 (by omega), h30 30 0 (by omega), h29 30 0 (by omega), h28 30 0 (by omega), h27 30 0 (by omega), h26 30 0 (by omega), h25 30 0 (by omega), h24 30 0 (by omega), h23 30 0 (by omega), h22 30 0 (by omega), h21 30 0 (by omega), h20 30 0 (by omega), h19 30 0 (by omega), h18 30 0 (by omega), h17 30 0 (by omega), h16 30 0 (by omega), h15 30 0 (by omega), h14 30 0 (by omega), h13 30 0 (by omega), h12 30 0 (by omega), h11 30 0 (by omega)]
  refine v_w (congrArg (fun z => mW cy a46 sc0 z) ar0_1.symm) ?_
  have loop : ∀ (m i : Nat), 5 < i + m → i ≤ 5 → 1 ≤ i → V X RX10 cX10_init 2 none (0 + 1 + 1 + 1 + 1 + 1 + 1 + 1 + 1 + 1 + 1 + 1 + 1 + 1 + 1 + 1 + 1 + 1 + 1 + 1 + 1 + 1 + 1 + 1 + 1 + 1 + 1 + 1 + 1 + 1 + 1 + 1 + 1 + 1) (0 + 8 + 8 + 8 + 8 + 12 + 5 + 3001 + 200 + 200 + 200 + 200 + 200 + 200 + 200 + 120 + 120 + 120 + 120 + 120 + 480 + 60 + 60 + 60 + 60 + 60 + 20 + 20 + 20 + 60 + 30 + 4 + 4 + 4096) a46 (mW cy a46 sc0 (ar0 i)) 288 [some (.ref (a46 30 0)), some (.int (nI i))] [] := by
    intro m
    induction m with
    | zero => intro i h1 h2 h0; omega
    | succ m ih =>
      intro i h1 h2 h0
      refine v_iload_n dX10_init_288 rfl ?_
      refine v_iconst_v (v := 5) dX10_init_289 (by decide) ?_
      refine v_icmp_ge (tgt := 307) dX10_init_290 (by decide) (fun h290 => ?_) (fun h290 => ?_)
      · have h290 := (nI_leI (a := 5) (by decide) (by omega)).mp h290
        have e5 : i = 5 := by omega
        subst e5
        exact v_vret hB (by decide) (by decide) dX10_init_307 ⟨rfl, e30, rfl⟩
      · have h290 : ¬ 5 ≤ i := fun z => h290 ((nI_leI (a := 5) (by decide) (by omega)).mpr z)
        refine v_aload_n dX10_init_293 rfl ?_
        refine mg38 dX10_init_294 ?_
        refine v_iload_n dX10_init_297 rfl ?_
        refine v_bipush_v (v := 100) dX10_init_298 (by decide) ?_
        refine m_stN 16 (L := 5) hB.cy ⟨rfl, rfl, rfl⟩ rfl (by omega) (by decide) dX10_init_300 ?_
        refine v_w (congrArg (fun z => mW cy a46 sc0 z) (ar0_s h0)) ?_
        refine v_iinc1 (v := 1) dX10_init_301 (by decide) (by decide) ?_
        rw [nI_1 i]
        refine v_goto (tgt := 288) dX10_init_304 (by decide) ?_
        exact ih (i + 1) (by omega) (by omega) (by omega)
  refine v_iconst_v (v := 1) dX10_init_286 (by decide) ?_
  refine v_istore_n1 dX10_init_287 (by decide) ?_
  exact loop 5 1 (by decide) (by decide) (by decide)
