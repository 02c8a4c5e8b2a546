/-- the class's invariant beside the reference's -/
def XI (N : Nat → Nat) (ar : Nat → Nat → Int32) (cp cn al : Nat → Nat) (q3 pa : Nat → Nat → Int32) (pn : Nat → Nat) : Prop :=
  (cn 0 = N 2 ∧ cn 1 = N 3 ∧ cn 2 = N 4 ∧ cn 3 = N 5 ∧ cn 4 = N 6 ∧ cn 5 = N 7) ∧ (∀ k, k < 6 → al k = cn k ∧ cn k ≤ cp k ∧ cp k ≤ 1000) ∧
  ∀ q, q < N 5 → q3 1 q = ar 28 q ∧ nI (pn q) = ar 28 q ∧ (1 ≤ pn q ∧ pn q ≤ 4) ∧ (∀ k, k < pn q → pa q k = ar 30 (4 * q + k)) ∧ q3 0 q = smI (fun k => ar 22 (cl (ar 30 (4 * q + k)))) (pn q) ∧ grd (q3 2 q) (q3 3 q) = ar 26 q
def dOn (ar : Nat → Nat → Int32) (n : Nat) : Int32 := if dryD ar n ≤ 3000 then nI (dryD ar n) else -2
theorem sw3 (x : Int32) : (x.toInt < 0 ∨ 2 < x.toInt) ∨ x = 0 ∨ x = 1 ∨ x = 2 := by
  by_cases h : x.toInt < 0 ∨ 2 < x.toInt
  · exact Or.inl h
  · right
    have hx : x.toInt = 0 ∨ x.toInt = 1 ∨ x.toInt = 2 := by omega
    rcases hx with h1 | h1 | h1
    · have e : x = 0 := Int32.toInt_inj.mp (h1.trans (by decide)); exact Or.inl e
    · have e : x = 1 := Int32.toInt_inj.mp (h1.trans (by decide)); exact Or.inr (Or.inl e)
    · have e : x = 2 := Int32.toInt_inj.mp (h1.trans (by decide)); exact Or.inr (Or.inr (e))
theorem swo3 {x : Int32} (h : x.toInt < 0 ∨ 2 < x.toInt) : ¬ x = 0 ∧ ¬ x = 1 ∧ ¬ x = 2 := by
  refine ⟨?_, ?_, ?_⟩ <;> (rintro rfl; revert h; decide)
set_option maxHeartbeats 4000000 in
set_option maxRecDepth 100000 in
theorem pX8_tell {l : Launch} {D : va_G} {cy : Nat → ClassId} {s0 : State} {ad : zA} {sc : Nat → Int32} {ar tau : Nat → Nat → Int32} {js mo : Nat → Int32} {cp cn al : Nat → Nat} {q3 pa : Nat → Nat → Int32} {pn : Nat → Nat} {n : Nat} {b : Int32} (hn : n < 3001) : zM l D cy s0 yX8_tell cX8_tell 3 none 1 0 0 [.ref (ad 1 0), .int (nI n), .int b] ad (xW cy ad sc ar tau js mo cp cn al q3 pa pn) (zPv ad (xW cy ad sc (putA ar 17 n (vp_nar .boolean b)) tau js mo cp cn al q3 pa pn)) := by
  refine zM_of (own := RX8) rfl (by decide) (by simp [Value.category]) (Nat.le_of_ble_eq_true rfl) ?_
  intro X hB
  show V X RX8 cX8_tell 3 none 0 0 ad (xW cy ad sc ar tau js mo cp cn al q3 pa pn) 0 [some (.ref (ad 1 0)), some (.int (nI n)), some (.int b)] []
  refine v_iload_n dX8_tell_0 rfl ?_
  refine v_if_lt (tgt := 20) dX8_tell_1 (by decide) (fun h1 => ?_) (fun h1 => ?_)
  · exact absurd h1 (nI_pos (by omega))
  · refine v_iload_n dX8_tell_4 rfl ?_
    refine v_aload_n dX8_tell_5 rfl ?_
    refine xg_X8_9 dX8_tell_6 ?_
    refine x_lenw hB.cy dX8_tell_9 ?_
    refine v_icmp_ge (tgt := 20) dX8_tell_10 (by decide) (fun h10 => ?_) (fun h10 => ?_)
    · exact absurd h10 (nI_ge (b := 3001) hn (by decide))
    · refine v_aload_n dX8_tell_13 rfl ?_
      refine xg_X8_9 dX8_tell_14 ?_
      refine v_iload_n dX8_tell_17 rfl ?_
      refine v_iload_n dX8_tell_18 rfl ?_
      refine x_stw hB.cy rfl (by omega) dX8_tell_19 ?_
      exact v_vret hB (by decide) (by decide) dX8_tell_20 ⟨rfl, rfl, rfl⟩

set_option maxHeartbeats 4000000 in
set_option maxRecDepth 100000 in
theorem pX8_endOfDryDays {l : Launch} {D : va_G} {cy : Nat → ClassId} {s0 : State} {ad : zA} {sc : Nat → Int32} {ar tau : Nat → Nat → Int32} {js mo : Nat → Int32} {cp cn al : Nat → Nat} {q3 pa : Nat → Nat → Int32} {pn : Nat → Nat} {b wd : Nat} (hb : b ≤ 3000) (hw : 1 ≤ wd) (hw2 : wd ≤ 20) : zM l D cy s0 yX8_endOfDryDays cX8_endOfDryDays 5 (some .int) 2 0 0 [.ref (ad 1 0), .int (nI b), .int (nI wd)] ad (xW cy ad sc ar tau js mo cp cn al q3 pa pn) (zPi (if dryF (ar 17) (3001 - b) wd b ≤ 3000 then nI (dryF (ar 17) (3001 - b) wd b) else -2) ad (xW cy ad sc ar tau js mo cp cn al q3 pa pn)) := by
  refine zM_of (own := RX8) rfl (by decide) (by simp [Value.category]) (Nat.le_of_ble_eq_true rfl) ?_
  intro X hB
  show V X RX8 cX8_endOfDryDays 5 (some .int) 0 0 ad (xW cy ad sc ar tau js mo cp cn al q3 pa pn) 0 [some (.ref (ad 1 0)), some (.int (nI b)), some (.int (nI wd)), none, none] []
  have loop : ∀ (m : Nat) (d k : Nat), d ≤ 3000 → 3001 - d < m → k < wd → dryF (ar 17) (3001 - d) (wd - k) d = dryF (ar 17) (3001 - b) wd b → V X RX8 cX8_endOfDryDays 5 (some .int) 0 0 ad (xW cy ad sc ar tau js mo cp cn al q3 pa pn) 11 [some (.ref (ad 1 0)), some (.int (nI b)), some (.int (nI wd)), some (.int (nI k)), some (.int (nI (d + 1)))] [] := by
    intro m
    induction m with
    | zero => intro d k h1 h2 h3 h4; omega
    | succ m ih =>
      intro d k h1 h2 h3 h4
      refine v_iload dX8_endOfDryDays_11 rfl ?_
      refine v_aload_n dX8_endOfDryDays_13 rfl ?_
      refine xg_X8_9 dX8_endOfDryDays_14 ?_
      refine x_lenw hB.cy dX8_endOfDryDays_17 ?_
      refine v_icmp_ge (tgt := 48) dX8_endOfDryDays_18 (by decide) (fun h18 => ?_) (fun h18 => ?_)
      · have h18 := (nI_leI (a := 3001) (b := d + 1) (by decide) (by omega)).mp h18
        refine v_bipush_v (v := -2) dX8_endOfDryDays_48 (by decide) ?_
        refine v_iret hB (by decide) (by decide) dX8_endOfDryDays_50 ⟨congrArg (fun z => some (Value.int z)) ?_, rfl, rfl⟩
        have e0 : d = 3000 := by omega
        subst e0
        rw [← h4, if_neg]
        rw [show dryF (ar 17) (3001 - 3000) (wd - k) 3000 = 3001 from by rw [show 3001 - 3000 = 0 + 1 by rfl, dryF_s _ (show ¬ wd - k = 0 by omega)]; rfl]
        decide
      · have h18 : ¬ 3001 ≤ d + 1 := fun z => h18 ((nI_leI (a := 3001) (b := d + 1) (by decide) (by omega)).mpr z)
        rw [show 3001 - d = (3001 - (d + 1)) + 1 by omega, dryF_s _ (show ¬ wd - k = 0 by omega)] at h4
        refine v_aload_n dX8_endOfDryDays_21 rfl ?_
        refine xg_X8_9 dX8_endOfDryDays_22 ?_
        refine v_iload dX8_endOfDryDays_25 rfl ?_
        refine x_ldw hB.cy rfl (by omega) dX8_endOfDryDays_27 ?_
        refine v_if_ne (tgt := 34) dX8_endOfDryDays_28 (by decide) (fun h28 => ?_) (fun h28 => ?_)
        · try rw [nI_1 k]
          refine v_iload_n dX8_endOfDryDays_34 rfl ?_
          refine v_iload_n dX8_endOfDryDays_35 rfl ?_
          refine v_icmp_lt (tgt := 42) dX8_endOfDryDays_36 (by decide) (fun h36 => ?_) (fun h36 => ?_)
          · have h36 := (n_ltI (by omega) (by omega)).mp h36
            refine v_iinc4 (v := 1) dX8_endOfDryDays_42 (by decide) (by decide) ?_
            rw [nI_1]
            refine v_goto (tgt := 11) dX8_endOfDryDays_45 (by decide) ?_
            first
              | (refine ih (d + 1) (k + 1) (by omega) (by omega) (by omega) ?_
                 rw [← h4, if_pos (And.intro (show d + 1 ≤ 3000 by omega) h28), show wd - (k + 1) = wd - k - 1 by omega])
              | (refine ih (d + 1) k (by omega) (by omega) (by omega) ?_
                 rw [← h4, if_neg (fun z : d + 1 ≤ 3000 ∧ ar 17 (d + 1) = 0 => h28 z.2)])
          · have h36 := fun z => h36 ((n_ltI (by omega) (by omega)).mpr z)
            refine v_iload dX8_endOfDryDays_39 rfl ?_
            by_cases h28b : ar 17 (d + 1) = 0
            rotate_left
            · first | exact absurd h28 h28b | exact absurd h3 h36
            refine v_iret hB (by decide) (by decide) dX8_endOfDryDays_41 ⟨congrArg (fun z => some (Value.int z)) ?_, rfl, rfl⟩
            have h36b : wd - k - 1 = 0 := by
              first | exact absurd h28b h28 | (have z : ¬ k + 1 < wd := h36; omega)
            rw [if_pos (And.intro (show d + 1 ≤ 3000 by omega) h28b), h36b, dryF_0] at h4
            rw [← h4, if_pos (by omega)]
        · refine v_iinc3 (v := 1) dX8_endOfDryDays_31 (by decide) (by decide) ?_
          try rw [nI_1 k]
          refine v_iload_n dX8_endOfDryDays_34 rfl ?_
          refine v_iload_n dX8_endOfDryDays_35 rfl ?_
          refine v_icmp_lt (tgt := 42) dX8_endOfDryDays_36 (by decide) (fun h36 => ?_) (fun h36 => ?_)
          · have h36 := (n_ltI (by omega) (by omega)).mp h36
            refine v_iinc4 (v := 1) dX8_endOfDryDays_42 (by decide) (by decide) ?_
            rw [nI_1]
            refine v_goto (tgt := 11) dX8_endOfDryDays_45 (by decide) ?_
            first
              | (refine ih (d + 1) (k + 1) (by omega) (by omega) (by omega) ?_
                 rw [← h4, if_pos (And.intro (show d + 1 ≤ 3000 by omega) h28), show wd - (k + 1) = wd - k - 1 by omega])
              | (refine ih (d + 1) k (by omega) (by omega) (by omega) ?_
                 rw [← h4, if_neg (fun z : d + 1 ≤ 3000 ∧ ar 17 (d + 1) = 0 => h28 z.2)])
          · have h36 := fun z => h36 ((n_ltI (by omega) (by omega)).mpr z)
            refine v_iload dX8_endOfDryDays_39 rfl ?_
            by_cases h28b : ar 17 (d + 1) = 0
            rotate_left
            · first | exact absurd h28 h28b | exact absurd h3 h36
            refine v_iret hB (by decide) (by decide) dX8_endOfDryDays_41 ⟨congrArg (fun z => some (Value.int z)) ?_, rfl, rfl⟩
            have h36b : wd - k - 1 = 0 := by
              first | exact absurd h28b h28 | (have z : ¬ k + 1 < wd := h36; omega)
            rw [if_pos (And.intro (show d + 1 ≤ 3000 by omega) h28b), h36b, dryF_0] at h4
            rw [← h4, if_pos (by omega)]
  refine v_iconst_v (v := 0) dX8_endOfDryDays_0 (by decide) ?_
  refine v_istore_n3 dX8_endOfDryDays_1 (by decide) ?_
  refine v_iload_n dX8_endOfDryDays_2 rfl ?_
  refine v_iconst_v (v := 0) dX8_endOfDryDays_3 (by decide) ?_
  refine v_max hB max_X8_15 max_s math_i max_c (by decide) ⟨by decide, by decide⟩ (Nat.le_of_ble_eq_true rfl) dX8_endOfDryDays_4 ?_
  refine v_eq (show (if nI b < 0 then (0 : Int32) else nI b) = nI b from if_neg (nI_pos (by omega))) ?_
  refine v_iconst_v (v := 1) dX8_endOfDryDays_7 (by decide) ?_
  refine v_iadd dX8_endOfDryDays_8 ?_
  refine v_eq (nI_add b 1) ?_
  refine v_istore4 dX8_endOfDryDays_9 (by decide) ?_
  exact loop 3002 b 0 (by omega) (by omega) (by omega) rfl

set_option maxHeartbeats 4000000 in
set_option maxRecDepth 100000 in
theorem pX9_dayOfDryness {l : Launch} {D : va_G} {cy : Nat → ClassId} {s0 : State} {ad : zA} {sc : Nat → Int32} {ar tau : Nat → Nat → Int32} {js mo : Nat → Int32} {cp cn al : Nat → Nat} {q3 pa : Nat → Nat → Int32} {pn : Nat → Nat} {N : Nat → Nat} {n : Nat} (hI : MI N sc ar) (hJ : XI N ar cp cn al q3 pa pn) (hn : n < N 4) : zM l D cy s0 yX9_dayOfDryness cX9_dayOfDryness 2 (some .int) 3 0 0 [.ref (ad 0 0), .ref (ad 10 n)] ad (xW cy ad sc ar tau js mo cp cn al q3 pa pn) (zPi (dOn ar n) ad (xW cy ad sc ar tau js mo cp cn al q3 pa pn)) := by
  refine zM_of (own := RX9) rfl (by decide) (by simp [Value.category]) (Nat.le_of_ble_eq_true rfl) ?_
  intro X hB
  show V X RX9 cX9_dayOfDryness 2 (some .int) 0 0 ad (xW cy ad sc ar tau js mo cp cn al q3 pa pn) 0 [some (.ref (ad 0 0)), some (.ref (ad 10 n))] []
  obtain ⟨⟨hN, b2, b3, b4, b5, b6, b7, b8, b9, b10⟩, hS, hQ, hBl, hCh, hZ⟩ := id hI
  obtain ⟨⟨c0, c1, c2, c3, c4, c5⟩, hx, hq3⟩ := id hJ
  have x0 := hx 0 (by decide)
  have x1 := hx 1 (by decide)
  have x2 := hx 2 (by decide)
  have x3 := hx 3 (by decide)
  have x4 := hx 4 (by decide)
  have x5 := hx 5 (by decide)
  obtain ⟨-, -, -, ⟨wd, hw1, hw2, hw⟩, -, ⟨d0, hd1, hd⟩, -⟩ := hS n hn
  refine v_aload_n dX9_dayOfDryness_0 rfl ?_
  refine xg_X9_34 dX9_dayOfDryness_1 ?_
  refine v_aload_n dX9_dayOfDryness_4 rfl ?_
  refine xg_X9_149 (by omega) dX9_dayOfDryness_5 ?_
  refine v_eq hd ?_
  refine v_aload_n dX9_dayOfDryness_8 rfl ?_
  refine xg_X9_143 (by omega) dX9_dayOfDryness_9 ?_
  refine v_iconst_v (v := 2) dX9_dayOfDryness_12 (by decide) ?_
  refine v_iadd dX9_dayOfDryness_13 ?_
  refine v_eq (show ar 21 n + 2 = nI (wd + 2) by rw [hw]; exact nI_add wd 2) ?_
  refine v_cVi2 hB k_X9_282 (pX8_endOfDryDays (by omega) (by omega) (by omega)) (by decide) ⟨by decide, by decide⟩ rfl rfl (Nat.le_of_ble_eq_true rfl) dX9_dayOfDryness_14 ?_
  exact v_iret hB (by decide) (by decide) dX9_dayOfDryness_17 ⟨by unfold dOn dryD; rw [hw, hd, cl_nI (by omega), cl_nI (by omega)], rfl, rfl⟩

set_option maxHeartbeats 4000000 in
set_option maxRecDepth 100000 in
theorem pX9_isDry {l : Launch} {D : va_G} {cy : Nat → ClassId} {s0 : State} {ad : zA} {sc : Nat → Int32} {ar tau : Nat → Nat → Int32} {js mo : Nat → Int32} {cp cn al : Nat → Nat} {q3 pa : Nat → Nat → Int32} {pn : Nat → Nat} {N : Nat → Nat} {n : Nat} (hI : MI N sc ar) (hJ : XI N ar cp cn al q3 pa pn) (hn : n < N 4) : zM l D cy s0 yX9_isDry cX9_isDry 3 (some .boolean) 4 0 0 [.ref (ad 0 0), .ref (ad 10 n)] ad (xW cy ad sc ar tau js mo cp cn al q3 pa pn) (zPi (bI (dryD ar n ≤ cl (sc 8))) ad (xW cy ad sc ar tau js mo cp cn al q3 pa pn)) := by
  refine zM_of (own := RX9) rfl (by decide) (by simp [Value.category]) (Nat.le_of_ble_eq_true rfl) ?_
  intro X hB
  show V X RX9 cX9_isDry 3 (some .boolean) 0 0 ad (xW cy ad sc ar tau js mo cp cn al q3 pa pn) 0 [some (.ref (ad 0 0)), some (.ref (ad 10 n)), none] []
  obtain ⟨⟨hN, b2, b3, b4, b5, b6, b7, b8, b9, b10⟩, hS, hQ, hBl, hCh, hZ⟩ := id hI
  obtain ⟨⟨c0, c1, c2, c3, c4, c5⟩, hx, hq3⟩ := id hJ
  have x0 := hx 0 (by decide)
  have x1 := hx 1 (by decide)
  have x2 := hx 2 (by decide)
  have x3 := hx 3 (by decide)
  have x4 := hx 4 (by decide)
  have x5 := hx 5 (by decide)
  have hdl := dryD_le hI hn
  have e8 : cl (sc 8) = N 8 := by rw [hN 8 (by decide) (by decide), cl_nI (by omega)]
  refine v_aload_n dX9_isDry_0 rfl ?_
  refine v_aload_n dX9_isDry_1 rfl ?_
  refine v_cVi1 hB k_X9_163 (pX9_dayOfDryness hI hJ (by omega)) (by decide) ⟨by decide, by decide⟩ rfl rfl (Nat.le_of_ble_eq_true rfl) dX9_isDry_2 ?_
  refine v_istore_n2 dX9_isDry_5 (by decide) ?_
  refine v_iload_n dX9_isDry_6 rfl ?_
  refine v_bipush_v (v := -2) dX9_isDry_7 (by decide) ?_
  refine v_icmp_eq (tgt := 24) dX9_isDry_9 (by decide) (fun h9 => ?_) (fun h9 => ?_)
  · have h9 : ¬ dryD ar n ≤ 3000 := fun z => by
      unfold dOn at h9; rw [if_pos z] at h9; exact absurd h9 (by intro q; have := congrArg Int32.toInt q; rw [nI_toInt (by omega)] at this; revert this; rw [show (-2 : Int32).toInt = -2 by decide]; omega)
    refine v_iconst_v (v := 0) dX9_isDry_24 (by decide) ?_
    exact v_zret hB (by decide) (by decide) dX9_isDry_25 rfl ⟨congrArg (fun z => some (Value.int z)) ((bI_f (by omega)).symm), rfl, rfl⟩
  · have h9 : dryD ar n ≤ 3000 := by
      rcases Nat.lt_or_ge 3000 (dryD ar n) with z | z
      · exact absurd (by unfold dOn; rw [if_neg (by omega)]) h9
      · exact z
    refine v_iload_n dX9_isDry_12 rfl ?_
    refine v_aload_n dX9_isDry_13 rfl ?_
    refine xg_X9_63 dX9_isDry_14 ?_
    refine v_icmp_gt (tgt := 24) dX9_isDry_17 (by decide) (fun h17 => ?_) (fun h17 => ?_)
    · rw [show dOn ar n = nI (dryD ar n) from if_pos h9, hN 8 (by decide) (by decide), n_ltI (by omega) (by omega)] at h17
      refine v_iconst_v (v := 0) dX9_isDry_24 (by decide) ?_
      exact v_zret hB (by decide) (by decide) dX9_isDry_25 rfl ⟨congrArg (fun z => some (Value.int z)) ((bI_f (by omega)).symm), rfl, rfl⟩
    · rw [show dOn ar n = nI (dryD ar n) from if_pos h9, hN 8 (by decide) (by decide), n_ltI (by omega) (by omega)] at h17
      refine v_iconst_v (v := 1) dX9_isDry_20 (by decide) ?_
      refine v_goto (tgt := 25) dX9_isDry_21 (by decide) ?_
      exact v_zret hB (by decide) (by decide) dX9_isDry_25 rfl ⟨congrArg (fun z => some (Value.int z)) ((bI_t (by omega)).symm), rfl, rfl⟩

set_option maxHeartbeats 4000000 in
set_option maxRecDepth 100000 in
theorem pX9_mayBeJoined {l : Launch} {D : va_G} {cy : Nat → ClassId} {s0 : State} {ad : zA} {sc : Nat → Int32} {ar tau : Nat → Nat → Int32} {js mo : Nat → Int32} {cp cn al : Nat → Nat} {q3 pa : Nat → Nat → Int32} {pn : Nat → Nat} {N : Nat → Nat} {n : Nat} {f : Int32} (hI : MI N sc ar) (hJ : XI N ar cp cn al q3 pa pn) (hn : n < N 4) : zM l D cy s0 yX9_mayBeJoined cX9_mayBeJoined 3 (some .boolean) 5 0 0 [.ref (ad 0 0), .ref (ad 10 n), .int f] ad (xW cy ad sc ar tau js mo cp cn al q3 pa pn) (zPi (bI (mayB sc ar f n = true)) ad (xW cy ad sc ar tau js mo cp cn al q3 pa pn)) := by
  refine zM_of (own := RX9) rfl (by decide) (by simp [Value.category]) (Nat.le_of_ble_eq_true rfl) ?_
  intro X hB
  show V X RX9 cX9_mayBeJoined 3 (some .boolean) 0 0 ad (xW cy ad sc ar tau js mo cp cn al q3 pa pn) 0 [some (.ref (ad 0 0)), some (.ref (ad 10 n)), some (.int f)] []
  obtain ⟨⟨hN, b2, b3, b4, b5, b6, b7, b8, b9, b10⟩, hS, hQ, hBl, hCh, hZ⟩ := id hI
  obtain ⟨⟨c0, c1, c2, c3, c4, c5⟩, hx, hq3⟩ := id hJ
  have x0 := hx 0 (by decide)
  have x1 := hx 1 (by decide)
  have x2 := hx 2 (by decide)
  have x3 := hx 3 (by decide)
  have x4 := hx 4 (by decide)
  have x5 := hx 5 (by decide)
  refine v_aload_n dX9_mayBeJoined_0 rfl ?_
  refine xg_X9_134 (by omega) dX9_mayBeJoined_1 ?_
  refine v_iload_n dX9_mayBeJoined_4 rfl ?_
  refine v_icmp_ne (tgt := 29) dX9_mayBeJoined_5 (by decide) (fun h5 => ?_) (fun h5 => ?_)
  · refine v_iconst_v (v := 0) dX9_mayBeJoined_29 (by decide) ?_
    exact v_zret hB (by decide) (by decide) dX9_mayBeJoined_30 rfl ⟨congrArg (fun z => some (Value.int z)) ((bI_f (fun z => by obtain ⟨z1, z2, z3⟩ := mayB_t.mp z; first | exact h5 z1 | exact h14 z2 | exact h22 z3)).symm), rfl, rfl⟩
  · refine v_aload_n dX9_mayBeJoined_8 rfl ?_
    refine xg_X9_156 (by omega) dX9_mayBeJoined_9 ?_
    refine v_bipush_v (v := -2) dX9_mayBeJoined_12 (by decide) ?_
    refine v_icmp_ne (tgt := 29) dX9_mayBeJoined_14 (by decide) (fun h14 => ?_) (fun h14 => ?_)
    · refine v_iconst_v (v := 0) dX9_mayBeJoined_29 (by decide) ?_
      exact v_zret hB (by decide) (by decide) dX9_mayBeJoined_30 rfl ⟨congrArg (fun z => some (Value.int z)) ((bI_f (fun z => by obtain ⟨z1, z2, z3⟩ := mayB_t.mp z; first | exact h5 z1 | exact h14 z2 | exact h22 z3)).symm), rfl, rfl⟩
    · refine v_aload_n dX9_mayBeJoined_17 rfl ?_
      refine v_aload_n dX9_mayBeJoined_18 rfl ?_
      refine v_cVi1 hB k_X9_152 (pX9_isDry hI hJ (by omega)) (by decide) ⟨by decide, by decide⟩ rfl rfl (Nat.le_of_ble_eq_true rfl) dX9_mayBeJoined_19 ?_
      refine v_if_eq (tgt := 29) dX9_mayBeJoined_22 (by decide) (fun h22 => ?_) (fun h22 => ?_)
      · rw [bI_eq] at h22
        refine v_iconst_v (v := 0) dX9_mayBeJoined_29 (by decide) ?_
        exact v_zret hB (by decide) (by decide) dX9_mayBeJoined_30 rfl ⟨congrArg (fun z => some (Value.int z)) ((bI_f (fun z => by obtain ⟨z1, z2, z3⟩ := mayB_t.mp z; first | exact h5 z1 | exact h14 z2 | exact h22 z3)).symm), rfl, rfl⟩
      · rw [bI_ne] at h22
        refine v_iconst_v (v := 1) dX9_mayBeJoined_25 (by decide) ?_
        refine v_goto (tgt := 30) dX9_mayBeJoined_26 (by decide) ?_
        exact v_zret hB (by decide) (by decide) dX9_mayBeJoined_30 rfl ⟨congrArg (fun z => some (Value.int z)) ((bI_t (mayB_t.mpr ⟨h5, h14, h22⟩)).symm), rfl, rfl⟩

theorem xPost {cy : Nat → ClassId} {ad : zA} {tau : Nat → Nat → Int32} {js mo : Nat → Int32} {cp cn al : Nat → Nat} {q3 pa : Nat → Nat → Int32} {pn : Nat → Nat} {v : Int32} {sc' : Nat → Int32} {ar' : Nat → Nat → Int32} {S : zRs} (h : S = (v, sc', ar')) : zPi S.1 ad (xW cy ad (S.2.1) (S.2.2) tau js mo cp cn al q3 pa pn) (some (.int v)) ad (xW cy ad (sc') (ar') tau js mo cp cn al q3 pa pn) := by
  subst h; exact ⟨rfl, rfl, rfl⟩
set_option maxHeartbeats 4000000 in
set_option maxRecDepth 100000 in
theorem pX9_set {l : Launch} {D : va_G} {cy : Nat → ClassId} {s0 : State} {ad : zA} {sc : Nat → Int32} {ar tau : Nat → Nat → Int32} {js mo : Nat → Int32} {cp cn al : Nat → Nat} {q3 pa : Nat → Nat → Int32} {pn : Nat → Nat} {N : Nat → Nat} {a b : Int32} (hI : MI N sc ar) (hJ : XI N ar cp cn al q3 pa pn) : zM l D cy s0 yX9_set cX9_set 3 (some .boolean) 3 0 0 [.ref (ad 0 0), .int a, .int b] ad (xW cy ad sc ar tau js mo cp cn al q3 pa pn) (zPi (s_set a b sc ar).1 ad (xW cy ad ((s_set a b sc ar).2.1) ((s_set a b sc ar).2.2) tau js mo cp cn al q3 pa pn)) := by
  refine zM_of (own := RX9) rfl (by decide) (by simp [Value.category]) (Nat.le_of_ble_eq_true rfl) ?_
  intro X hB
  show V X RX9 cX9_set 3 (some .boolean) 0 0 ad (xW cy ad sc ar tau js mo cp cn al q3 pa pn) 0 [some (.ref (ad 0 0)), some (.int a), some (.int b)] []
  obtain ⟨⟨hN, b2, b3, b4, b5, b6, b7, b8, b9, b10⟩, hS, hQ, hBl, hCh, hZ⟩ := id hI
  obtain ⟨⟨c0, c1, c2, c3, c4, c5⟩, hx, hq3⟩ := id hJ
  have x0 := hx 0 (by decide)
  have x1 := hx 1 (by decide)
  have x2 := hx 2 (by decide)
  have x3 := hx 3 (by decide)
  have x4 := hx 4 (by decide)
  have x5 := hx 5 (by decide)
  refine v_iload_n dX9_set_0 rfl ?_
  refine v_bipush_v (v := 10) dX9_set_1 (by decide) ?_
  refine v_bipush_v (v := 99) dX9_set_3 (by decide) ?_
  refine v_cSi3 hB k_X9_69 pX9_isFrom (by decide) ⟨by decide, by decide⟩ (Nat.le_of_ble_eq_true rfl) dX9_set_5 ?_
  refine v_if_eq (tgt := 21) dX9_set_8 (by decide) (fun h8 => ?_) (fun h8 => ?_)
  · rw [bI_eq] at h8
    refine v_aload_n dX9_set_21 rfl ?_
    refine v_iconst_v (v := 2) dX9_set_22 (by decide) ?_
    refine v_cVi1 hB k_X9_100 pX9_ended (by decide) ⟨by decide, by decide⟩ rfl rfl (Nat.le_of_ble_eq_true rfl) dX9_set_23 ?_
    exact v_zret hB (by decide) (by decide) dX9_set_26 (bI_n _) (xPost (by unfold s_set; (first | rw [if_neg (fun z => h8 z.1)] | rw [if_neg (fun z => h18 z.2)]); rfl))
  · rw [bI_ne] at h8
    refine v_iload_n dX9_set_11 rfl ?_
    refine v_iconst_v (v := 0) dX9_set_12 (by decide) ?_
    refine v_bipush_v (v := 9) dX9_set_13 (by decide) ?_
    refine v_cSi3 hB k_X9_69 pX9_isFrom (by decide) ⟨by decide, by decide⟩ (Nat.le_of_ble_eq_true rfl) dX9_set_15 ?_
    refine v_if_ne (tgt := 27) dX9_set_18 (by decide) (fun h18 => ?_) (fun h18 => ?_)
    · rw [bI_ne] at h18
      refine v_aload_n dX9_set_27 rfl ?_
      refine v_iload_n dX9_set_28 rfl ?_
      refine xp_X9_56 dX9_set_29 ?_
      refine v_aload_n dX9_set_32 rfl ?_
      refine v_iload_n dX9_set_33 rfl ?_
      refine xp_X9_60 dX9_set_34 ?_
      refine v_aload_n dX9_set_37 rfl ?_
      refine v_iconst_v (v := 0) dX9_set_38 (by decide) ?_
      refine v_cVi1 hB k_X9_100 pX9_ended (by decide) ⟨by decide, by decide⟩ rfl rfl (Nat.le_of_ble_eq_true rfl) dX9_set_39 ?_
      exact v_zret hB (by decide) (by decide) dX9_set_42 (bI_n _) (xPost (by unfold s_set; rw [if_pos ⟨h8, h18⟩]; rfl))
    · rw [bI_eq] at h18
      refine v_aload_n dX9_set_21 rfl ?_
      refine v_iconst_v (v := 2) dX9_set_22 (by decide) ?_
      refine v_cVi1 hB k_X9_100 pX9_ended (by decide) ⟨by decide, by decide⟩ rfl rfl (Nat.le_of_ble_eq_true rfl) dX9_set_23 ?_
      exact v_zret hB (by decide) (by decide) dX9_set_26 (bI_n _) (xPost (by unfold s_set; (first | rw [if_neg (fun z => h8 z.1)] | rw [if_neg (fun z => h18 z.2)]); rfl))

set_option maxHeartbeats 4000000 in
set_option maxRecDepth 100000 in
theorem pX9_price {l : Launch} {D : va_G} {cy : Nat → ClassId} {s0 : State} {ad : zA} {sc : Nat → Int32} {ar tau : Nat → Nat → Int32} {js mo : Nat → Int32} {cp cn al : Nat → Nat} {q3 pa : Nat → Nat → Int32} {pn : Nat → Nat} {N : Nat → Nat} {g q : Int32} (hI : MI N sc ar) (hJ : XI N ar cp cn al q3 pa pn) : zM l D cy s0 yX9_price cX9_price 3 (some .boolean) 3 0 0 [.ref (ad 0 0), .int g, .int q] ad (xW cy ad sc ar tau js mo cp cn al q3 pa pn) (zPi (s_price g q sc ar).1 ad (xW cy ad ((s_price g q sc ar).2.1) ((s_price g q sc ar).2.2) tau js mo cp cn al q3 pa pn)) := by
  refine zM_of (own := RX9) rfl (by decide) (by simp [Value.category]) (Nat.le_of_ble_eq_true rfl) ?_
  intro X hB
  show V X RX9 cX9_price 3 (some .boolean) 0 0 ad (xW cy ad sc ar tau js mo cp cn al q3 pa pn) 0 [some (.ref (ad 0 0)), some (.int g), some (.int q)] []
  obtain ⟨⟨hN, b2, b3, b4, b5, b6, b7, b8, b9, b10⟩, hS, hQ, hBl, hCh, hZ⟩ := id hI
  obtain ⟨⟨c0, c1, c2, c3, c4, c5⟩, hx, hq3⟩ := id hJ
  have x0 := hx 0 (by decide)
  have x1 := hx 1 (by decide)
  have x2 := hx 2 (by decide)
  have x3 := hx 3 (by decide)
  have x4 := hx 4 (by decide)
  have x5 := hx 5 (by decide)
  refine v_iload_n dX9_price_0 rfl ?_
  refine v_cSi1 hB k_X9_103 pX9_isGrade (by decide) ⟨by decide, by decide⟩ (Nat.le_of_ble_eq_true rfl) dX9_price_1 ?_
  refine v_if_ne (tgt := 13) dX9_price_4 (by decide) (fun h4 => ?_) (fun h4 => ?_)
  · rw [bI_ne] at h4
    refine v_iload_n dX9_price_13 rfl ?_
    refine v_iconst_v (v := 0) dX9_price_14 (by decide) ?_
    refine v_sipush_v (v := 9999) dX9_price_15 (by decide) ?_
    refine v_cSi3 hB k_X9_69 pX9_isFrom (by decide) ⟨by decide, by decide⟩ (Nat.le_of_ble_eq_true rfl) dX9_price_18 ?_
    refine v_if_ne (tgt := 30) dX9_price_21 (by decide) (fun h21 => ?_) (fun h21 => ?_)
    · rw [bI_ne] at h21
      obtain ⟨n, hn1, hn2, rfl⟩ := i_rg (lo := 1) (hi := 4) h4 (by decide) (by decide)
      refine v_aload_n dX9_price_30 rfl ?_
      refine xg_X9_52 dX9_price_31 ?_
      refine v_iload_n dX9_price_34 rfl ?_
      refine v_iload_n dX9_price_35 rfl ?_
      refine x_stp hB.cy rfl (by omega) dX9_price_36 ?_
      refine v_aload_n dX9_price_37 rfl ?_
      refine v_iconst_v (v := 0) dX9_price_38 (by decide) ?_
      refine v_cVi1 hB k_X9_100 pX9_ended (by decide) ⟨by decide, by decide⟩ rfl rfl (Nat.le_of_ble_eq_true rfl) dX9_price_39 ?_
      exact v_zret hB (by decide) (by decide) dX9_price_42 (bI_n _) (xPost (by unfold s_price; rw [if_pos h4, if_pos h21, cl_nI (by omega)]; rfl))
    · rw [bI_eq] at h21
      refine v_aload_n dX9_price_24 rfl ?_
      refine v_iconst_v (v := 2) dX9_price_25 (by decide) ?_
      refine v_cVi1 hB k_X9_100 pX9_ended (by decide) ⟨by decide, by decide⟩ rfl rfl (Nat.le_of_ble_eq_true rfl) dX9_price_26 ?_
      exact v_zret hB (by decide) (by decide) dX9_price_29 (bI_n _) (xPost (by unfold s_price; rw [if_pos h4, if_neg h21]; rfl))
  · rw [bI_eq] at h4
    refine v_aload_n dX9_price_7 rfl ?_
    refine v_iconst_v (v := 1) dX9_price_8 (by decide) ?_
    refine v_cVi1 hB k_X9_100 pX9_ended (by decide) ⟨by decide, by decide⟩ rfl rfl (Nat.le_of_ble_eq_true rfl) dX9_price_9 ?_
    exact v_zret hB (by decide) (by decide) dX9_price_12 (bI_n _) (xPost (by unfold s_price; rw [if_neg h4]; rfl))

set_option maxHeartbeats 4000000 in
set_option maxRecDepth 100000 in
theorem pX9_rain {l : Launch} {D : va_G} {cy : Nat → ClassId} {s0 : State} {ad : zA} {sc : Nat → Int32} {ar tau : Nat → Nat → Int32} {js mo : Nat → Int32} {cp cn al : Nat → Nat} {q3 pa : Nat → Nat → Int32} {pn : Nat → Nat} {N : Nat → Nat} {a b : Int32} (hI : MI N sc ar) (hJ : XI N ar cp cn al q3 pa pn) (hb : vp_nar .boolean b = b) : zM l D cy s0 yX9_rain cX9_rain 3 (some .boolean) 3 0 0 [.ref (ad 0 0), .int a, .int b] ad (xW cy ad sc ar tau js mo cp cn al q3 pa pn) (zPi (s_rain a b sc ar).1 ad (xW cy ad ((s_rain a b sc ar).2.1) ((s_rain a b sc ar).2.2) tau js mo cp cn al q3 pa pn)) := by
  refine zM_of (own := RX9) rfl (by decide) (by simp [Value.category]) (Nat.le_of_ble_eq_true rfl) ?_
  intro X hB
  show V X RX9 cX9_rain 3 (some .boolean) 0 0 ad (xW cy ad sc ar tau js mo cp cn al q3 pa pn) 0 [some (.ref (ad 0 0)), some (.int a), some (.int b)] []
  obtain ⟨⟨hN, b2, b3, b4, b5, b6, b7, b8, b9, b10⟩, hS, hQ, hBl, hCh, hZ⟩ := id hI
  obtain ⟨⟨c0, c1, c2, c3, c4, c5⟩, hx, hq3⟩ := id hJ
  have x0 := hx 0 (by decide)
  have x1 := hx 1 (by decide)
  have x2 := hx 2 (by decide)
  have x3 := hx 3 (by decide)
  have x4 := hx 4 (by decide)
  have x5 := hx 5 (by decide)
  refine v_iload_n dX9_rain_0 rfl ?_
  refine v_aload_n dX9_rain_1 rfl ?_
  refine xg_X9_63 dX9_rain_2 ?_
  refine v_icmp_le (tgt := 15) dX9_rain_5 (by decide) (fun h5 => ?_) (fun h5 => ?_)
  · refine v_aload_n dX9_rain_15 rfl ?_
    refine v_iconst_v (v := 2) dX9_rain_16 (by decide) ?_
    refine v_cVi1 hB k_X9_100 pX9_ended (by decide) ⟨by decide, by decide⟩ rfl rfl (Nat.le_of_ble_eq_true rfl) dX9_rain_17 ?_
    exact v_zret hB (by decide) (by decide) dX9_rain_20 (bI_n _) (xPost (by unfold s_rain; (first | rw [if_pos (Or.inl h5)] | rw [if_pos (Or.inr (i_nle.mp h12))]); rfl))
  · refine v_iload_n dX9_rain_8 rfl ?_
    refine v_sipush_v (v := 3000) dX9_rain_9 (by decide) ?_
    refine v_icmp_le (tgt := 21) dX9_rain_12 (by decide) (fun h12 => ?_) (fun h12 => ?_)
    · obtain ⟨n, hn, rfl⟩ := i_day b8 (by rw [hN 8 (by decide) (by decide)] at h5; exact h5) h12
      refine v_aload_n dX9_rain_21 rfl ?_
      refine xg_X9_34 dX9_rain_22 ?_
      refine v_iload_n dX9_rain_25 rfl ?_
      refine v_iload_n dX9_rain_26 rfl ?_
      refine v_cVv2 hB k_X9_106 (pX8_tell (by omega)) (by decide) ⟨by decide, by decide⟩ rfl rfl (Nat.le_of_ble_eq_true rfl) dX9_rain_27 ?_
      refine v_aload_n dX9_rain_30 rfl ?_
      refine v_iconst_v (v := 0) dX9_rain_31 (by decide) ?_
      refine v_cVi1 hB k_X9_100 pX9_ended (by decide) ⟨by decide, by decide⟩ rfl rfl (Nat.le_of_ble_eq_true rfl) dX9_rain_32 ?_
      exact v_zret hB (by decide) (by decide) dX9_rain_35 (bI_n _) (xPost (by unfold s_rain; rw [if_neg (fun z => z.elim h5 (fun q => (i_nlt.mpr h12) q)), hb, cl_nI (by omega)]; rfl))
    · refine v_aload_n dX9_rain_15 rfl ?_
      refine v_iconst_v (v := 2) dX9_rain_16 (by decide) ?_
      refine v_cVi1 hB k_X9_100 pX9_ended (by decide) ⟨by decide, by decide⟩ rfl rfl (Nat.le_of_ble_eq_true rfl) dX9_rain_17 ?_
      exact v_zret hB (by decide) (by decide) dX9_rain_20 (bI_n _) (xPost (by unfold s_rain; (first | rw [if_pos (Or.inl h5)] | rw [if_pos (Or.inr (i_nle.mp h12))]); rfl))

