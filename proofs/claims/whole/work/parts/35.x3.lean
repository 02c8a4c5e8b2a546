set_option maxHeartbeats 4000000 in
set_option maxRecDepth 100000 in
theorem pX9_strip {l : Launch} {D : va_G} {cy : Nat → ClassId} {s0 : State} {ad : zA} {sc : Nat → Int32} {ar tau : Nat → Nat → Int32} {js mo : Nat → Int32} {cp cn al : Nat → Nat} {q3 pa : Nat → Nat → Int32} {pn : Nat → Nat} {N : Nat → Nat} {i b : Int32} (hI : MI N sc ar) (hJ : XI N ar cp cn al q3 pa pn) : zM l D cy s0 yX9_strip cX9_strip 4 (some .int) 6 0 0 [.ref (ad 0 0), .int i, .int b] ad (xW cy ad sc ar tau js mo cp cn al q3 pa pn) (zPi (v_strip i b sc ar) ad (xW cy ad sc ar tau js mo cp cn al q3 pa pn)) := by
  refine zM_of (own := RX9) rfl (by decide) (by simp [Value.category]) (Nat.le_of_ble_eq_true rfl) ?_
  intro X hB
  show V X RX9 cX9_strip 4 (some .int) 0 0 ad (xW cy ad sc ar tau js mo cp cn al q3 pa pn) 0 [some (.ref (ad 0 0)), some (.int i), some (.int b), none] []
  obtain ⟨⟨hN, b2, b3, b4, b5, b6, b7, b8, b9, b10⟩, hS, hQ, hBl, hCh, hZ⟩ := id hI
  obtain ⟨⟨c0, c1, c2, c3, c4, c5⟩, hx, hq3⟩ := id hJ
  have x0 := hx 0 (by decide)
  have x1 := hx 1 (by decide)
  have x2 := hx 2 (by decide)
  have x3 := hx 3 (by decide)
  have x4 := hx 4 (by decide)
  have x5 := hx 5 (by decide)
  refine v_aload_n dX9_strip_0 rfl ?_
  refine v_iload_n dX9_strip_1 rfl ?_
  refine v_cVi1 hB k_X9_131 pX9_isStrip (by decide) ⟨by decide, by decide⟩ rfl rfl (Nat.le_of_ble_eq_true rfl) dX9_strip_2 ?_
  refine v_if_ne (tgt := 10) dX9_strip_5 (by decide) (fun h5 => ?_) (fun h5 => ?_)
  · rw [bI_ne] at h5
    have hr : 0 ≤ i ∧ i < sc 4 := by rw [hN 4 (by decide) (by decide), ← c2]; exact h5
    obtain ⟨n, hn, rfl⟩ := i_ix (by rw [hN 4 (by decide) (by decide)] at hr; exact hr) (by omega)
    refine v_aload_n dX9_strip_10 rfl ?_
    refine xg_X9_19 dX9_strip_11 ?_
    refine v_iload_n dX9_strip_14 rfl ?_
    refine v_cVr1 hB k_X9_113 (pJx4a65c_get_915e3 (by omega) (by omega) (by omega) (by omega)) (by decide) ⟨by decide, by decide⟩ rfl rfl (Nat.le_of_ble_eq_true rfl) dX9_strip_15 ?_
    refine v_cast (ci := 8) rfl cl_X9_120 (xW_X7 (by omega)) dX9_strip_18 ?_
    refine v_astore_n3 dX9_strip_21 (by decide) ?_
    refine v_iload_n dX9_strip_22 rfl ?_
    rcases sw8 b with hsw | rfl | rfl | rfl | rfl | rfl | rfl | rfl | rfl
    · refine v_tableOut (tgt := 117) dX9_strip_23 hsw (by decide) ?_
      refine v_iconst_v (v := -1) dX9_strip_117 (by decide) ?_
      exact v_iret hB (by decide) (by decide) dX9_strip_118 ⟨congrArg (fun z => some (Value.int z)) (by obtain ⟨e0, e1, e2, e3, e4, e5, e6, e7⟩ := swo8 hsw; unfold v_strip; rw [if_pos hr, if_neg e0, if_neg e1, if_neg e2, if_neg e3, if_neg e4, if_neg e5, if_neg e6, if_neg e7]), rfl, rfl⟩
    · refine v_tableIn (tgt := 68) dX9_strip_23 (by decide) (by decide) rfl (by decide) ?_
      refine v_aload_n dX9_strip_68 rfl ?_
      refine xg_X9_134 (by omega) dX9_strip_69 ?_
      exact v_iret hB (by decide) (by decide) dX9_strip_72 ⟨congrArg (fun z => some (Value.int z)) (by unfold v_strip; rw [if_pos hr, cl_nI (by omega)]; rfl), rfl, rfl⟩
    · refine v_tableIn (tgt := 73) dX9_strip_23 (by decide) (by decide) rfl (by decide) ?_
      refine v_aload_n dX9_strip_73 rfl ?_
      refine xg_X9_137 (by omega) dX9_strip_74 ?_
      exact v_iret hB (by decide) (by decide) dX9_strip_77 ⟨congrArg (fun z => some (Value.int z)) (by unfold v_strip; rw [if_pos hr, cl_nI (by omega)]; rfl), rfl, rfl⟩
    · refine v_tableIn (tgt := 78) dX9_strip_23 (by decide) (by decide) rfl (by decide) ?_
      refine v_aload_n dX9_strip_78 rfl ?_
      refine xg_X9_140 (by omega) dX9_strip_79 ?_
      exact v_iret hB (by decide) (by decide) dX9_strip_82 ⟨congrArg (fun z => some (Value.int z)) (by unfold v_strip; rw [if_pos hr, cl_nI (by omega)]; rfl), rfl, rfl⟩
    · refine v_tableIn (tgt := 83) dX9_strip_23 (by decide) (by decide) rfl (by decide) ?_
      refine v_aload_n dX9_strip_83 rfl ?_
      refine xg_X9_143 (by omega) dX9_strip_84 ?_
      exact v_iret hB (by decide) (by decide) dX9_strip_87 ⟨congrArg (fun z => some (Value.int z)) (by unfold v_strip; rw [if_pos hr, cl_nI (by omega)]; rfl), rfl, rfl⟩
    · refine v_tableIn (tgt := 88) dX9_strip_23 (by decide) (by decide) rfl (by decide) ?_
      refine v_aload_n dX9_strip_88 rfl ?_
      refine xg_X9_146 (by omega) dX9_strip_89 ?_
      exact v_iret hB (by decide) (by decide) dX9_strip_92 ⟨congrArg (fun z => some (Value.int z)) (by unfold v_strip; rw [if_pos hr, cl_nI (by omega)]; rfl), rfl, rfl⟩
    · refine v_tableIn (tgt := 93) dX9_strip_23 (by decide) (by decide) rfl (by decide) ?_
      refine v_aload_n dX9_strip_93 rfl ?_
      refine xg_X9_149 (by omega) dX9_strip_94 ?_
      exact v_iret hB (by decide) (by decide) dX9_strip_97 ⟨congrArg (fun z => some (Value.int z)) (by unfold v_strip; rw [if_pos hr, cl_nI (by omega)]; rfl), rfl, rfl⟩
    · refine v_tableIn (tgt := 98) dX9_strip_23 (by decide) (by decide) rfl (by decide) ?_
      refine v_aload_n dX9_strip_98 rfl ?_
      refine v_aload_n dX9_strip_99 rfl ?_
      refine v_cVi1 hB k_X9_152 (pX9_isDry hI hJ (by omega)) (by decide) ⟨by decide, by decide⟩ rfl rfl (Nat.le_of_ble_eq_true rfl) dX9_strip_100 ?_
      refine v_if_eq (tgt := 110) dX9_strip_103 (by decide) (fun h103 => ?_) (fun h103 => ?_)
      · rw [bI_eq] at h103
        refine v_iconst_v (v := 0) dX9_strip_110 (by decide) ?_
        exact v_iret hB (by decide) (by decide) dX9_strip_111 ⟨congrArg (fun z => some (Value.int z)) (by unfold v_strip; rw [if_pos hr, cl_nI (by omega)]; exact (bI_f h103).symm), rfl, rfl⟩
      · rw [bI_ne] at h103
        refine v_iconst_v (v := 1) dX9_strip_106 (by decide) ?_
        refine v_goto (tgt := 111) dX9_strip_107 (by decide) ?_
        exact v_iret hB (by decide) (by decide) dX9_strip_111 ⟨congrArg (fun z => some (Value.int z)) (by unfold v_strip; rw [if_pos hr, cl_nI (by omega)]; exact (bI_t h103).symm), rfl, rfl⟩
    · refine v_tableIn (tgt := 112) dX9_strip_23 (by decide) (by decide) rfl (by decide) ?_
      refine v_aload_n dX9_strip_112 rfl ?_
      refine xg_X9_156 (by omega) dX9_strip_113 ?_
      exact v_iret hB (by decide) (by decide) dX9_strip_116 ⟨congrArg (fun z => some (Value.int z)) (by unfold v_strip; rw [if_pos hr, cl_nI (by omega)]; rfl), rfl, rfl⟩
  · rw [bI_eq] at h5
    refine v_iconst_v (v := -1) dX9_strip_8 (by decide) ?_
    exact v_iret hB (by decide) (by decide) dX9_strip_9 ⟨congrArg (fun z => some (Value.int z)) (by unfold v_strip; rw [if_neg (fun z => h5 (by rw [c2, ← hN 4 (by decide) (by decide)]; exact z))]), rfl, rfl⟩

set_option maxHeartbeats 4000000 in
set_option maxRecDepth 100000 in
theorem pX9_dryOn {l : Launch} {D : va_G} {cy : Nat → ClassId} {s0 : State} {ad : zA} {sc : Nat → Int32} {ar tau : Nat → Nat → Int32} {js mo : Nat → Int32} {cp cn al : Nat → Nat} {q3 pa : Nat → Nat → Int32} {pn : Nat → Nat} {N : Nat → Nat} {i : Int32} (hI : MI N sc ar) (hJ : XI N ar cp cn al q3 pa pn) : zM l D cy s0 yX9_dryOn cX9_dryOn 2 (some .int) 6 0 0 [.ref (ad 0 0), .int i] ad (xW cy ad sc ar tau js mo cp cn al q3 pa pn) (zPi (v_dryOn i sc ar) ad (xW cy ad sc ar tau js mo cp cn al q3 pa pn)) := by
  refine zM_of (own := RX9) rfl (by decide) (by simp [Value.category]) (Nat.le_of_ble_eq_true rfl) ?_
  intro X hB
  show V X RX9 cX9_dryOn 2 (some .int) 0 0 ad (xW cy ad sc ar tau js mo cp cn al q3 pa pn) 0 [some (.ref (ad 0 0)), some (.int i)] []
  obtain ⟨⟨hN, b2, b3, b4, b5, b6, b7, b8, b9, b10⟩, hS, hQ, hBl, hCh, hZ⟩ := id hI
  obtain ⟨⟨c0, c1, c2, c3, c4, c5⟩, hx, hq3⟩ := id hJ
  have x0 := hx 0 (by decide)
  have x1 := hx 1 (by decide)
  have x2 := hx 2 (by decide)
  have x3 := hx 3 (by decide)
  have x4 := hx 4 (by decide)
  have x5 := hx 5 (by decide)
  refine v_aload_n dX9_dryOn_0 rfl ?_
  refine v_iload_n dX9_dryOn_1 rfl ?_
  refine v_cVi1 hB k_X9_131 pX9_isStrip (by decide) ⟨by decide, by decide⟩ rfl rfl (Nat.le_of_ble_eq_true rfl) dX9_dryOn_2 ?_
  refine v_if_eq (tgt := 26) dX9_dryOn_5 (by decide) (fun h5 => ?_) (fun h5 => ?_)
  · rw [bI_eq] at h5
    refine v_iconst_v (v := -1) dX9_dryOn_26 (by decide) ?_
    exact v_iret hB (by decide) (by decide) dX9_dryOn_27 ⟨congrArg (fun z => some (Value.int z)) (by unfold v_dryOn; rw [if_neg (fun z => h5 (by rw [c2, ← hN 4 (by decide) (by decide)]; exact z))]), rfl, rfl⟩
  · rw [bI_ne] at h5
    have hr : 0 ≤ i ∧ i < sc 4 := by rw [hN 4 (by decide) (by decide), ← c2]; exact h5
    obtain ⟨n, hn, rfl⟩ := i_ix (by rw [hN 4 (by decide) (by decide)] at hr; exact hr) (by omega)
    refine v_aload_n dX9_dryOn_8 rfl ?_
    refine v_aload_n dX9_dryOn_9 rfl ?_
    refine xg_X9_19 dX9_dryOn_10 ?_
    refine v_iload_n dX9_dryOn_13 rfl ?_
    refine v_cVr1 hB k_X9_113 (pJx4a65c_get_915e3 (by omega) (by omega) (by omega) (by omega)) (by decide) ⟨by decide, by decide⟩ rfl rfl (Nat.le_of_ble_eq_true rfl) dX9_dryOn_14 ?_
    refine v_cast (ci := 8) rfl cl_X9_120 (xW_X7 (by omega)) dX9_dryOn_17 ?_
    refine v_cVi1 hB k_X9_163 (pX9_dayOfDryness hI hJ (by omega)) (by decide) ⟨by decide, by decide⟩ rfl rfl (Nat.le_of_ble_eq_true rfl) dX9_dryOn_20 ?_
    refine v_goto (tgt := 27) dX9_dryOn_23 (by decide) ?_
    exact v_iret hB (by decide) (by decide) dX9_dryOn_27 ⟨congrArg (fun z => some (Value.int z)) (by unfold v_dryOn; rw [if_pos hr, cl_nI (by omega)]; rfl), rfl, rfl⟩

set_option maxHeartbeats 4000000 in
set_option maxRecDepth 100000 in
theorem pX9_ready {l : Launch} {D : va_G} {cy : Nat → ClassId} {s0 : State} {ad : zA} {sc : Nat → Int32} {ar tau : Nat → Nat → Int32} {js mo : Nat → Int32} {cp cn al : Nat → Nat} {q3 pa : Nat → Nat → Int32} {pn : Nat → Nat} {N : Nat → Nat} {f : Int32} (hI : MI N sc ar) (hJ : XI N ar cp cn al q3 pa pn) : zM l D cy s0 yX9_ready cX9_ready 4 (some .int) 6 0 0 [.ref (ad 0 0), .int f] ad (xW cy ad sc ar tau js mo cp cn al q3 pa pn) (zPi (v_ready f sc ar) ad (xW cy ad sc ar tau js mo cp cn al q3 pa pn)) := by
  refine zM_of (own := RX9) rfl (by decide) (by simp [Value.category]) (Nat.le_of_ble_eq_true rfl) ?_
  intro X hB
  show V X RX9 cX9_ready 4 (some .int) 0 0 ad (xW cy ad sc ar tau js mo cp cn al q3 pa pn) 0 [some (.ref (ad 0 0)), some (.int f), none, none] []
  obtain ⟨⟨hN, b2, b3, b4, b5, b6, b7, b8, b9, b10⟩, hS, hQ, hBl, hCh, hZ⟩ := id hI
  obtain ⟨⟨c0, c1, c2, c3, c4, c5⟩, hx, hq3⟩ := id hJ
  have x0 := hx 0 (by decide)
  have x1 := hx 1 (by decide)
  have x2 := hx 2 (by decide)
  have x3 := hx 3 (by decide)
  have x4 := hx 4 (by decide)
  have x5 := hx 5 (by decide)
  refine v_aload_n dX9_ready_0 rfl ?_
  refine v_iload_n dX9_ready_1 rfl ?_
  refine v_cVi1 hB k_X9_93 pX9_isFamily (by decide) ⟨by decide, by decide⟩ rfl rfl (Nat.le_of_ble_eq_true rfl) dX9_ready_2 ?_
  refine v_if_ne (tgt := 10) dX9_ready_5 (by decide) (fun h5 => ?_) (fun h5 => ?_)
  · rw [bI_ne] at h5
    have hr : 0 ≤ f ∧ f < sc 2 := by rw [hN 2 (by decide) (by decide), ← c0]; exact h5
    have loop : ∀ (m : Nat) (i : Nat), N 4 < i + m → i ≤ N 4 → V X RX9 cX9_ready 4 (some .int) 0 0 ad (xW cy ad sc ar tau js mo cp cn al q3 pa pn) 14 [some (.ref (ad 0 0)), some (.int f), some (.int (nI (ctN (mayB sc ar f) i))), some (.int (nI i))] [] := by
      intro m
      induction m with
      | zero => intro i h1 h2; omega
      | succ m ih =>
        intro i h1 h2
        refine v_iload_n dX9_ready_14 rfl ?_
        refine v_aload_n dX9_ready_15 rfl ?_
        refine xg_X9_19 dX9_ready_16 ?_
        refine v_cVi0 hB k_X9_77 (pJx4a65c_size_8abf5 (by omega)) (by decide) ⟨by decide, by decide⟩ rfl rfl (Nat.le_of_ble_eq_true rfl) dX9_ready_19 ?_
        refine v_icmp_ge (tgt := 53) dX9_ready_22 (by decide) (fun h22 => ?_) (fun h22 => ?_)
        · rw [nI_leI (by omega) (by omega)] at h22
          refine v_iload_n dX9_ready_53 rfl ?_
          exact v_iret hB (by decide) (by decide) dX9_ready_54 ⟨congrArg (fun z => some (Value.int z)) (by unfold v_ready; rw [if_pos hr, hN 4 (by decide) (by decide), cl_nI (by omega), show i = N 4 by omega]), rfl, rfl⟩
        · rw [nI_leI (by omega) (by omega)] at h22
          refine v_aload_n dX9_ready_25 rfl ?_
          refine v_aload_n dX9_ready_26 rfl ?_
          refine xg_X9_19 dX9_ready_27 ?_
          refine v_iload_n dX9_ready_30 rfl ?_
          refine v_cVr1 hB k_X9_113 (pJx4a65c_get_915e3 (by omega) (by omega) (by omega) (by omega)) (by decide) ⟨by decide, by decide⟩ rfl rfl (Nat.le_of_ble_eq_true rfl) dX9_ready_31 ?_
          refine v_cast (ci := 8) rfl cl_X9_120 (xW_X7 (by omega)) dX9_ready_34 ?_
          refine v_iload_n dX9_ready_37 rfl ?_
          refine v_cVi2 hB k_X9_159 (pX9_mayBeJoined hI hJ (by omega)) (by decide) ⟨by decide, by decide⟩ rfl rfl (Nat.le_of_ble_eq_true rfl) dX9_ready_38 ?_
          refine v_if_eq (tgt := 47) dX9_ready_41 (by decide) (fun h41 => ?_) (fun h41 => ?_)
          · rw [bI_eq] at h41
            have e : nI (ctN (mayB sc ar f) (i + 1)) = nI (ctN (mayB sc ar f) (i + 1)) := rfl
            refine v_iinc3 (v := 1) dX9_ready_47 (by decide) (by decide) ?_
            rw [nI_1 i]
            refine v_goto (tgt := 14) dX9_ready_50 (by decide) ?_
            first | (rw [show nI (ctN (mayB sc ar f) i) + 1 = nI (ctN (mayB sc ar f) (i + 1)) from by rw [ctN, if_pos h41]; exact nI_add _ 1]; exact ih (i + 1) (by omega) (by omega)) | (rw [show nI (ctN (mayB sc ar f) i) = nI (ctN (mayB sc ar f) (i + 1)) from by rw [ctN, if_neg h41]; rfl]; exact ih (i + 1) (by omega) (by omega))
          · rw [bI_ne] at h41
            refine v_iinc2 (v := 1) dX9_ready_44 (by decide) (by decide) ?_
            have e : nI (ctN (mayB sc ar f) (i + 1)) = nI (ctN (mayB sc ar f) (i + 1)) := rfl
            refine v_iinc3 (v := 1) dX9_ready_47 (by decide) (by decide) ?_
            rw [nI_1 i]
            refine v_goto (tgt := 14) dX9_ready_50 (by decide) ?_
            first | (rw [show nI (ctN (mayB sc ar f) i) + 1 = nI (ctN (mayB sc ar f) (i + 1)) from by rw [ctN, if_pos h41]; exact nI_add _ 1]; exact ih (i + 1) (by omega) (by omega)) | (rw [show nI (ctN (mayB sc ar f) i) = nI (ctN (mayB sc ar f) (i + 1)) from by rw [ctN, if_neg h41]; rfl]; exact ih (i + 1) (by omega) (by omega))
    refine v_iconst_v (v := 0) dX9_ready_10 (by decide) ?_
    refine v_istore_n2 dX9_ready_11 (by decide) ?_
    refine v_iconst_v (v := 0) dX9_ready_12 (by decide) ?_
    refine v_istore_n3 dX9_ready_13 (by decide) ?_
    exact loop (N 4 + 1) 0 (by omega) (by omega)
  · rw [bI_eq] at h5
    refine v_iconst_v (v := -1) dX9_ready_8 (by decide) ?_
    exact v_iret hB (by decide) (by decide) dX9_ready_9 ⟨congrArg (fun z => some (Value.int z)) (by unfold v_ready; rw [if_neg (fun z => h5 (by rw [c0, ← hN 2 (by decide) (by decide)]; exact z))]), rfl, rfl⟩

set_option maxHeartbeats 4000000 in
set_option maxRecDepth 100000 in
theorem pX9_quill {l : Launch} {D : va_G} {cy : Nat → ClassId} {s0 : State} {ad : zA} {sc : Nat → Int32} {ar tau : Nat → Nat → Int32} {js mo : Nat → Int32} {cp cn al : Nat → Nat} {q3 pa : Nat → Nat → Int32} {pn : Nat → Nat} {N : Nat → Nat} {i b : Int32} (hI : MI N sc ar) (hJ : XI N ar cp cn al q3 pa pn) : zM l D cy s0 yX9_quill cX9_quill 4 (some .int) 4 0 0 [.ref (ad 0 0), .int i, .int b] ad (xW cy ad sc ar tau js mo cp cn al q3 pa pn) (zPi (v_quill i b sc ar) ad (xW cy ad sc ar tau js mo cp cn al q3 pa pn)) := by
  refine zM_of (own := RX9) rfl (by decide) (by simp [Value.category]) (Nat.le_of_ble_eq_true rfl) ?_
  intro X hB
  show V X RX9 cX9_quill 4 (some .int) 0 0 ad (xW cy ad sc ar tau js mo cp cn al q3 pa pn) 0 [some (.ref (ad 0 0)), some (.int i), some (.int b), none] []
  obtain ⟨⟨hN, b2, b3, b4, b5, b6, b7, b8, b9, b10⟩, hS, hQ, hBl, hCh, hZ⟩ := id hI
  obtain ⟨⟨c0, c1, c2, c3, c4, c5⟩, hx, hq3⟩ := id hJ
  have x0 := hx 0 (by decide)
  have x1 := hx 1 (by decide)
  have x2 := hx 2 (by decide)
  have x3 := hx 3 (by decide)
  have x4 := hx 4 (by decide)
  have x5 := hx 5 (by decide)
  refine v_aload_n dX9_quill_0 rfl ?_
  refine v_iload_n dX9_quill_1 rfl ?_
  refine v_cVi1 hB k_X9_192 pX9_isQuill (by decide) ⟨by decide, by decide⟩ rfl rfl (Nat.le_of_ble_eq_true rfl) dX9_quill_2 ?_
  refine v_if_ne (tgt := 10) dX9_quill_5 (by decide) (fun h5 => ?_) (fun h5 => ?_)
  · rw [bI_ne] at h5
    have hr : 0 ≤ i ∧ i < sc 5 := by rw [hN 5 (by decide) (by decide), ← c3]; exact h5
    obtain ⟨n, hn, rfl⟩ := i_ix (by rw [hN 5 (by decide) (by decide)] at hr; exact hr) (by omega)
    obtain ⟨k1, k2, k3, k4, k5, k6⟩ := hq3 n hn
    refine v_aload_n dX9_quill_10 rfl ?_
    refine xg_X9_22 dX9_quill_11 ?_
    refine v_iload_n dX9_quill_14 rfl ?_
    refine v_cVr1 hB k_X9_113 (pJx4a65c_get_915e3 (by omega) (by omega) (by omega) (by omega)) (by decide) ⟨by decide, by decide⟩ rfl rfl (Nat.le_of_ble_eq_true rfl) dX9_quill_15 ?_
    refine v_cast (ci := 7) rfl cl_X9_170 (xW_X6 (by omega)) dX9_quill_18 ?_
    refine v_astore_n3 dX9_quill_21 (by decide) ?_
    refine v_iload_n dX9_quill_22 rfl ?_
    rcases sw6 b with hsw | rfl | rfl | rfl | rfl | rfl | rfl
    · refine v_tableOut (tgt := 90) dX9_quill_23 hsw (by decide) ?_
      refine v_iconst_v (v := -1) dX9_quill_90 (by decide) ?_
      exact v_iret hB (by decide) (by decide) dX9_quill_91 ⟨congrArg (fun z => some (Value.int z)) (by obtain ⟨e0, e1, e2, e3, e4, e5⟩ := swo6 hsw; unfold v_quill; rw [if_pos hr, if_neg e0, if_neg e1, if_neg e2, if_neg e3, if_neg e4, if_neg e5]), rfl, rfl⟩
    · refine v_tableIn (tgt := 60) dX9_quill_23 (by decide) (by decide) rfl (by decide) ?_
      refine v_aload_n dX9_quill_60 rfl ?_
      refine xg_X9_195 (by omega) dX9_quill_61 ?_
      exact v_iret hB (by decide) (by decide) dX9_quill_64 ⟨congrArg (fun z => some (Value.int z)) (by unfold v_quill; rw [if_pos hr, cl_nI (by omega)]; rfl), rfl, rfl⟩
    · refine v_tableIn (tgt := 65) dX9_quill_23 (by decide) (by decide) rfl (by decide) ?_
      refine v_aload_n dX9_quill_65 rfl ?_
      refine v_cVi0 hB k_X9_196 (pX6_grade (by omega)) (by decide) ⟨by decide, by decide⟩ (xW_X6 (by omega)) rfl (Nat.le_of_ble_eq_true rfl) dX9_quill_66 ?_
      exact v_iret hB (by decide) (by decide) dX9_quill_69 ⟨congrArg (fun z => some (Value.int z)) (by unfold v_quill; rw [if_pos hr, cl_nI (by omega)]; exact k6), rfl, rfl⟩
    · refine v_tableIn (tgt := 70) dX9_quill_23 (by decide) (by decide) rfl (by decide) ?_
      refine v_aload_n dX9_quill_70 rfl ?_
      refine v_cVi0 hB k_X9_199 (pX6_size (by omega)) (by decide) ⟨by decide, by decide⟩ (xW_X6 (by omega)) rfl (Nat.le_of_ble_eq_true rfl) dX9_quill_71 ?_
      exact v_iret hB (by decide) (by decide) dX9_quill_74 ⟨congrArg (fun z => some (Value.int z)) (by unfold v_quill; rw [if_pos hr, cl_nI (by omega)]; exact k1), rfl, rfl⟩
    · refine v_tableIn (tgt := 75) dX9_quill_23 (by decide) (by decide) rfl (by decide) ?_
      refine v_aload_n dX9_quill_75 rfl ?_
      refine xg_X9_200 (by omega) dX9_quill_76 ?_
      exact v_iret hB (by decide) (by decide) dX9_quill_79 ⟨congrArg (fun z => some (Value.int z)) (by unfold v_quill; rw [if_pos hr, cl_nI (by omega)]; rfl), rfl, rfl⟩
    · refine v_tableIn (tgt := 80) dX9_quill_23 (by decide) (by decide) rfl (by decide) ?_
      refine v_aload_n dX9_quill_80 rfl ?_
      refine xg_X9_201 (by omega) dX9_quill_81 ?_
      exact v_iret hB (by decide) (by decide) dX9_quill_84 ⟨congrArg (fun z => some (Value.int z)) (by unfold v_quill; rw [if_pos hr, cl_nI (by omega)]; rfl), rfl, rfl⟩
    · refine v_tableIn (tgt := 85) dX9_quill_23 (by decide) (by decide) rfl (by decide) ?_
      refine v_aload_n dX9_quill_85 rfl ?_
      refine xg_X9_204 (by omega) dX9_quill_86 ?_
      exact v_iret hB (by decide) (by decide) dX9_quill_89 ⟨congrArg (fun z => some (Value.int z)) (by unfold v_quill; rw [if_pos hr, cl_nI (by omega), ← k2, cl_nI (by omega)]; exact k5), rfl, rfl⟩
  · rw [bI_eq] at h5
    refine v_iconst_v (v := -1) dX9_quill_8 (by decide) ?_
    exact v_iret hB (by decide) (by decide) dX9_quill_9 ⟨congrArg (fun z => some (Value.int z)) (by unfold v_quill; rw [if_neg (fun z => h5 (by rw [c3, ← hN 5 (by decide) (by decide)]; exact z))]), rfl, rfl⟩

set_option maxHeartbeats 4000000 in
set_option maxRecDepth 100000 in
theorem pX9_baleOf {l : Launch} {D : va_G} {cy : Nat → ClassId} {s0 : State} {ad : zA} {sc : Nat → Int32} {ar tau : Nat → Nat → Int32} {js mo : Nat → Int32} {cp cn al : Nat → Nat} {q3 pa : Nat → Nat → Int32} {pn : Nat → Nat} {N : Nat → Nat} {i b : Int32} (hI : MI N sc ar) (hJ : XI N ar cp cn al q3 pa pn) : zM l D cy s0 yX9_baleOf cX9_baleOf 4 (some .int) 4 0 0 [.ref (ad 0 0), .int i, .int b] ad (xW cy ad sc ar tau js mo cp cn al q3 pa pn) (zPi (v_baleOf i b sc ar) ad (xW cy ad sc ar tau js mo cp cn al q3 pa pn)) := by
  refine zM_of (own := RX9) rfl (by decide) (by simp [Value.category]) (Nat.le_of_ble_eq_true rfl) ?_
  intro X hB
  show V X RX9 cX9_baleOf 4 (some .int) 0 0 ad (xW cy ad sc ar tau js mo cp cn al q3 pa pn) 0 [some (.ref (ad 0 0)), some (.int i), some (.int b), none] []
  obtain ⟨⟨hN, b2, b3, b4, b5, b6, b7, b8, b9, b10⟩, hS, hQ, hBl, hCh, hZ⟩ := id hI
  obtain ⟨⟨c0, c1, c2, c3, c4, c5⟩, hx, hq3⟩ := id hJ
  have x0 := hx 0 (by decide)
  have x1 := hx 1 (by decide)
  have x2 := hx 2 (by decide)
  have x3 := hx 3 (by decide)
  have x4 := hx 4 (by decide)
  have x5 := hx 5 (by decide)
  refine v_aload_n dX9_baleOf_0 rfl ?_
  refine v_iload_n dX9_baleOf_1 rfl ?_
  refine v_cVi1 hB k_X9_231 pX9_isBale (by decide) ⟨by decide, by decide⟩ rfl rfl (Nat.le_of_ble_eq_true rfl) dX9_baleOf_2 ?_
  refine v_if_ne (tgt := 10) dX9_baleOf_5 (by decide) (fun h5 => ?_) (fun h5 => ?_)
  · rw [bI_ne] at h5
    have hr : 0 ≤ i ∧ i < sc 6 := by rw [hN 6 (by decide) (by decide), ← c4]; exact h5
    obtain ⟨n, hn, rfl⟩ := i_ix (by rw [hN 6 (by decide) (by decide)] at hr; exact hr) (by omega)
    refine v_aload_n dX9_baleOf_10 rfl ?_
    refine xg_X9_25 dX9_baleOf_11 ?_
    refine v_iload_n dX9_baleOf_14 rfl ?_
    refine v_cVr1 hB k_X9_113 (pJx4a65c_get_915e3 (by omega) (by omega) (by omega) (by omega)) (by decide) ⟨by decide, by decide⟩ rfl rfl (Nat.le_of_ble_eq_true rfl) dX9_baleOf_15 ?_
    refine v_cast (ci := 1) rfl cl_X9_234 (xW_X0 (by omega)) dX9_baleOf_18 ?_
    refine v_astore_n3 dX9_baleOf_21 (by decide) ?_
    refine v_iload_n dX9_baleOf_22 rfl ?_
    rcases sw6 b with hsw | rfl | rfl | rfl | rfl | rfl | rfl
    · refine v_tableOut (tgt := 98) dX9_baleOf_23 hsw (by decide) ?_
      refine v_iconst_v (v := -1) dX9_baleOf_98 (by decide) ?_
      exact v_iret hB (by decide) (by decide) dX9_baleOf_99 ⟨congrArg (fun z => some (Value.int z)) (by obtain ⟨e0, e1, e2, e3, e4, e5⟩ := swo6 hsw; unfold v_baleOf; rw [if_pos hr, if_neg e0, if_neg e1, if_neg e2, if_neg e3, if_neg e4, if_neg e5]), rfl, rfl⟩
    · refine v_tableIn (tgt := 60) dX9_baleOf_23 (by decide) (by decide) rfl (by decide) ?_
      refine v_aload_n dX9_baleOf_60 rfl ?_
      refine xg_X9_236 (by omega) dX9_baleOf_61 ?_
      exact v_iret hB (by decide) (by decide) dX9_baleOf_64 ⟨congrArg (fun z => some (Value.int z)) (by unfold v_baleOf; rw [if_pos hr, cl_nI (by omega)]; rfl), rfl, rfl⟩
    · refine v_tableIn (tgt := 65) dX9_baleOf_23 (by decide) (by decide) rfl (by decide) ?_
      refine v_aload_n dX9_baleOf_65 rfl ?_
      refine xg_X9_237 (by omega) dX9_baleOf_66 ?_
      exact v_iret hB (by decide) (by decide) dX9_baleOf_69 ⟨congrArg (fun z => some (Value.int z)) (by unfold v_baleOf; rw [if_pos hr, cl_nI (by omega)]; rfl), rfl, rfl⟩
    · refine v_tableIn (tgt := 70) dX9_baleOf_23 (by decide) (by decide) rfl (by decide) ?_
      refine v_aload_n dX9_baleOf_70 rfl ?_
      refine xg_X9_239 (by omega) dX9_baleOf_71 ?_
      exact v_iret hB (by decide) (by decide) dX9_baleOf_74 ⟨congrArg (fun z => some (Value.int z)) (by unfold v_baleOf; rw [if_pos hr, cl_nI (by omega)]; rfl), rfl, rfl⟩
    · refine v_tableIn (tgt := 75) dX9_baleOf_23 (by decide) (by decide) rfl (by decide) ?_
      refine v_aload_n dX9_baleOf_75 rfl ?_
      refine xg_X9_240 (by omega) dX9_baleOf_76 ?_
      exact v_iret hB (by decide) (by decide) dX9_baleOf_79 ⟨congrArg (fun z => some (Value.int z)) (by unfold v_baleOf; rw [if_pos hr, cl_nI (by omega)]; rfl), rfl, rfl⟩
    · refine v_tableIn (tgt := 80) dX9_baleOf_23 (by decide) (by decide) rfl (by decide) ?_
      refine v_aload_n dX9_baleOf_80 rfl ?_
      refine xg_X9_243 (by omega) dX9_baleOf_81 ?_
      refine v_if_eq (tgt := 91) dX9_baleOf_84 (by decide) (fun h84 => ?_) (fun h84 => ?_)
      · refine v_iconst_v (v := 0) dX9_baleOf_91 (by decide) ?_
        exact v_iret hB (by decide) (by decide) dX9_baleOf_92 ⟨congrArg (fun z => some (Value.int z)) (by unfold v_baleOf; rw [if_pos hr, cl_nI (by omega)]; exact (bI_f (fun z => z h84)).symm), rfl, rfl⟩
      · refine v_iconst_v (v := 1) dX9_baleOf_87 (by decide) ?_
        refine v_goto (tgt := 92) dX9_baleOf_88 (by decide) ?_
        exact v_iret hB (by decide) (by decide) dX9_baleOf_92 ⟨congrArg (fun z => some (Value.int z)) (by unfold v_baleOf; rw [if_pos hr, cl_nI (by omega)]; exact (bI_t h84).symm), rfl, rfl⟩
    · refine v_tableIn (tgt := 93) dX9_baleOf_23 (by decide) (by decide) rfl (by decide) ?_
      refine v_aload_n dX9_baleOf_93 rfl ?_
      refine xg_X9_247 (by omega) dX9_baleOf_94 ?_
      exact v_iret hB (by decide) (by decide) dX9_baleOf_97 ⟨congrArg (fun z => some (Value.int z)) (by unfold v_baleOf; rw [if_pos hr, cl_nI (by omega)]; rfl), rfl, rfl⟩
  · rw [bI_eq] at h5
    refine v_iconst_v (v := -1) dX9_baleOf_8 (by decide) ?_
    exact v_iret hB (by decide) (by decide) dX9_baleOf_9 ⟨congrArg (fun z => some (Value.int z)) (by unfold v_baleOf; rw [if_neg (fun z => h5 (by rw [c4, ← hN 6 (by decide) (by decide)]; exact z))]), rfl, rfl⟩

set_option maxHeartbeats 4000000 in
set_option maxRecDepth 100000 in
theorem pX9_chest {l : Launch} {D : va_G} {cy : Nat → ClassId} {s0 : State} {ad : zA} {sc : Nat → Int32} {ar tau : Nat → Nat → Int32} {js mo : Nat → Int32} {cp cn al : Nat → Nat} {q3 pa : Nat → Nat → Int32} {pn : Nat → Nat} {N : Nat → Nat} {i b : Int32} (hI : MI N sc ar) (hJ : XI N ar cp cn al q3 pa pn) : zM l D cy s0 yX9_chest cX9_chest 4 (some .int) 4 0 0 [.ref (ad 0 0), .int i, .int b] ad (xW cy ad sc ar tau js mo cp cn al q3 pa pn) (zPi (v_chest i b sc ar) ad (xW cy ad sc ar tau js mo cp cn al q3 pa pn)) := by
  refine zM_of (own := RX9) rfl (by decide) (by simp [Value.category]) (Nat.le_of_ble_eq_true rfl) ?_
  intro X hB
  show V X RX9 cX9_chest 4 (some .int) 0 0 ad (xW cy ad sc ar tau js mo cp cn al q3 pa pn) 0 [some (.ref (ad 0 0)), some (.int i), some (.int b), none] []
  obtain ⟨⟨hN, b2, b3, b4, b5, b6, b7, b8, b9, b10⟩, hS, hQ, hBl, hCh, hZ⟩ := id hI
  obtain ⟨⟨c0, c1, c2, c3, c4, c5⟩, hx, hq3⟩ := id hJ
  have x0 := hx 0 (by decide)
  have x1 := hx 1 (by decide)
  have x2 := hx 2 (by decide)
  have x3 := hx 3 (by decide)
  have x4 := hx 4 (by decide)
  have x5 := hx 5 (by decide)
  refine v_aload_n dX9_chest_0 rfl ?_
  refine v_iload_n dX9_chest_1 rfl ?_
  refine v_cVi1 hB k_X9_266 pX9_isChest (by decide) ⟨by decide, by decide⟩ rfl rfl (Nat.le_of_ble_eq_true rfl) dX9_chest_2 ?_
  refine v_if_ne (tgt := 10) dX9_chest_5 (by decide) (fun h5 => ?_) (fun h5 => ?_)
  · rw [bI_ne] at h5
    have hr : 0 ≤ i ∧ i < sc 7 := by rw [hN 7 (by decide) (by decide), ← c5]; exact h5
    obtain ⟨n, hn, rfl⟩ := i_ix (by rw [hN 7 (by decide) (by decide)] at hr; exact hr) (by omega)
    refine v_aload_n dX9_chest_10 rfl ?_
    refine xg_X9_28 dX9_chest_11 ?_
    refine v_iload_n dX9_chest_14 rfl ?_
    refine v_cVr1 hB k_X9_113 (pJx4a65c_get_915e3 (by omega) (by omega) (by omega) (by omega)) (by decide) ⟨by decide, by decide⟩ rfl rfl (Nat.le_of_ble_eq_true rfl) dX9_chest_15 ?_
    refine v_cast (ci := 2) rfl cl_X9_269 (xW_X1 (by omega)) dX9_chest_18 ?_
    refine v_astore_n3 dX9_chest_21 (by decide) ?_
    refine v_iload_n dX9_chest_22 rfl ?_
    rcases sw3 b with hsw | rfl | rfl | rfl
    · refine v_tableOut (tgt := 63) dX9_chest_23 hsw (by decide) ?_
      refine v_iconst_v (v := -1) dX9_chest_63 (by decide) ?_
      exact v_iret hB (by decide) (by decide) dX9_chest_64 ⟨congrArg (fun z => some (Value.int z)) (by obtain ⟨e0, e1, e2⟩ := swo3 hsw; unfold v_chest; rw [if_pos hr, if_neg e0, if_neg e1, if_neg e2]), rfl, rfl⟩
    · refine v_tableIn (tgt := 48) dX9_chest_23 (by decide) (by decide) rfl (by decide) ?_
      refine v_aload_n dX9_chest_48 rfl ?_
      refine xg_X9_271 (by omega) dX9_chest_49 ?_
      exact v_iret hB (by decide) (by decide) dX9_chest_52 ⟨congrArg (fun z => some (Value.int z)) (by unfold v_chest; rw [if_pos hr, cl_nI (by omega)]; rfl), rfl, rfl⟩
    · refine v_tableIn (tgt := 53) dX9_chest_23 (by decide) (by decide) rfl (by decide) ?_
      refine v_aload_n dX9_chest_53 rfl ?_
      refine xg_X9_272 (by omega) dX9_chest_54 ?_
      exact v_iret hB (by decide) (by decide) dX9_chest_57 ⟨congrArg (fun z => some (Value.int z)) (by unfold v_chest; rw [if_pos hr, cl_nI (by omega)]; rfl), rfl, rfl⟩
    · refine v_tableIn (tgt := 58) dX9_chest_23 (by decide) (by decide) rfl (by decide) ?_
      refine v_aload_n dX9_chest_58 rfl ?_
      refine xg_X9_275 (by omega) dX9_chest_59 ?_
      exact v_iret hB (by decide) (by decide) dX9_chest_62 ⟨congrArg (fun z => some (Value.int z)) (by unfold v_chest; rw [if_pos hr, cl_nI (by omega)]; rfl), rfl, rfl⟩
  · rw [bI_eq] at h5
    refine v_iconst_v (v := -1) dX9_chest_8 (by decide) ?_
    exact v_iret hB (by decide) (by decide) dX9_chest_9 ⟨congrArg (fun z => some (Value.int z)) (by unfold v_chest; rw [if_neg (fun z => h5 (by rw [c5, ← hN 7 (by decide) (by decide)]; exact z))]), rfl, rfl⟩

set_option maxHeartbeats 4000000 in
set_option maxRecDepth 100000 in
theorem pX9_count {l : Launch} {D : va_G} {cy : Nat → ClassId} {s0 : State} {ad : zA} {sc : Nat → Int32} {ar tau : Nat → Nat → Int32} {js mo : Nat → Int32} {cp cn al : Nat → Nat} {q3 pa : Nat → Nat → Int32} {pn : Nat → Nat} {N : Nat → Nat} {b : Int32} (hI : MI N sc ar) (hJ : XI N ar cp cn al q3 pa pn) : zM l D cy s0 yX9_count cX9_count 2 (some .int) 2 0 0 [.ref (ad 0 0), .int b] ad (xW cy ad sc ar tau js mo cp cn al q3 pa pn) (zPi (v_count b sc) ad (xW cy ad sc ar tau js mo cp cn al q3 pa pn)) := by
  refine zM_of (own := RX9) rfl (by decide) (by simp [Value.category]) (Nat.le_of_ble_eq_true rfl) ?_
  intro X hB
  show V X RX9 cX9_count 2 (some .int) 0 0 ad (xW cy ad sc ar tau js mo cp cn al q3 pa pn) 0 [some (.ref (ad 0 0)), some (.int b)] []
  obtain ⟨⟨hN, b2, b3, b4, b5, b6, b7, b8, b9, b10⟩, hS, hQ, hBl, hCh, hZ⟩ := id hI
  obtain ⟨⟨c0, c1, c2, c3, c4, c5⟩, hx, hq3⟩ := id hJ
  have x0 := hx 0 (by decide)
  have x1 := hx 1 (by decide)
  have x2 := hx 2 (by decide)
  have x3 := hx 3 (by decide)
  have x4 := hx 4 (by decide)
  have x5 := hx 5 (by decide)
  refine v_iload_n dX9_count_0 rfl ?_
  rcases sw8 b with hsw | rfl | rfl | rfl | rfl | rfl | rfl | rfl | rfl
  · refine v_tableOut (tgt := 106) dX9_count_1 hsw (by decide) ?_
    refine v_iconst_v (v := -1) dX9_count_106 (by decide) ?_
    exact v_iret hB (by decide) (by decide) dX9_count_107 ⟨congrArg (fun z => some (Value.int z)) (by obtain ⟨e0, e1, e2, e3, e4, e5, e6, e7⟩ := swo8 hsw; unfold v_count; rw [if_neg e0, if_neg e1, if_neg e2, if_neg e3, if_neg e4, if_neg e5, if_neg e6, if_neg e7]), rfl, rfl⟩
  · refine v_tableIn (tgt := 48) dX9_count_1 (by decide) (by decide) rfl (by decide) ?_
    refine v_aload_n dX9_count_48 rfl ?_
    refine xg_X9_10 dX9_count_49 ?_
    refine v_cVi0 hB k_X9_77 (pJx4a65c_size_8abf5 (by omega)) (by decide) ⟨by decide, by decide⟩ rfl rfl (Nat.le_of_ble_eq_true rfl) dX9_count_52 ?_
    exact v_iret hB (by decide) (by decide) dX9_count_55 ⟨congrArg (fun z => some (Value.int z)) (by unfold v_count; show nI (cn 0) = sc 2; rw [c0, hN 2 (by decide) (by decide)]), rfl, rfl⟩
  · refine v_tableIn (tgt := 56) dX9_count_1 (by decide) (by decide) rfl (by decide) ?_
    refine v_aload_n dX9_count_56 rfl ?_
    refine xg_X9_16 dX9_count_57 ?_
    refine v_cVi0 hB k_X9_77 (pJx4a65c_size_8abf5 (by omega)) (by decide) ⟨by decide, by decide⟩ rfl rfl (Nat.le_of_ble_eq_true rfl) dX9_count_60 ?_
    exact v_iret hB (by decide) (by decide) dX9_count_63 ⟨congrArg (fun z => some (Value.int z)) (by unfold v_count; show nI (cn 1) = sc 3; rw [c1, hN 3 (by decide) (by decide)]), rfl, rfl⟩
  · refine v_tableIn (tgt := 64) dX9_count_1 (by decide) (by decide) rfl (by decide) ?_
    refine v_aload_n dX9_count_64 rfl ?_
    refine xg_X9_19 dX9_count_65 ?_
    refine v_cVi0 hB k_X9_77 (pJx4a65c_size_8abf5 (by omega)) (by decide) ⟨by decide, by decide⟩ rfl rfl (Nat.le_of_ble_eq_true rfl) dX9_count_68 ?_
    exact v_iret hB (by decide) (by decide) dX9_count_71 ⟨congrArg (fun z => some (Value.int z)) (by unfold v_count; show nI (cn 2) = sc 4; rw [c2, hN 4 (by decide) (by decide)]), rfl, rfl⟩
  · refine v_tableIn (tgt := 72) dX9_count_1 (by decide) (by decide) rfl (by decide) ?_
    refine v_aload_n dX9_count_72 rfl ?_
    refine xg_X9_22 dX9_count_73 ?_
    refine v_cVi0 hB k_X9_77 (pJx4a65c_size_8abf5 (by omega)) (by decide) ⟨by decide, by decide⟩ rfl rfl (Nat.le_of_ble_eq_true rfl) dX9_count_76 ?_
    exact v_iret hB (by decide) (by decide) dX9_count_79 ⟨congrArg (fun z => some (Value.int z)) (by unfold v_count; show nI (cn 3) = sc 5; rw [c3, hN 5 (by decide) (by decide)]), rfl, rfl⟩
  · refine v_tableIn (tgt := 80) dX9_count_1 (by decide) (by decide) rfl (by decide) ?_
    refine v_aload_n dX9_count_80 rfl ?_
    refine xg_X9_25 dX9_count_81 ?_
    refine v_cVi0 hB k_X9_77 (pJx4a65c_size_8abf5 (by omega)) (by decide) ⟨by decide, by decide⟩ rfl rfl (Nat.le_of_ble_eq_true rfl) dX9_count_84 ?_
    exact v_iret hB (by decide) (by decide) dX9_count_87 ⟨congrArg (fun z => some (Value.int z)) (by unfold v_count; show nI (cn 4) = sc 6; rw [c4, hN 6 (by decide) (by decide)]), rfl, rfl⟩
  · refine v_tableIn (tgt := 88) dX9_count_1 (by decide) (by decide) rfl (by decide) ?_
    refine v_aload_n dX9_count_88 rfl ?_
    refine xg_X9_28 dX9_count_89 ?_
    refine v_cVi0 hB k_X9_77 (pJx4a65c_size_8abf5 (by omega)) (by decide) ⟨by decide, by decide⟩ rfl rfl (Nat.le_of_ble_eq_true rfl) dX9_count_92 ?_
    exact v_iret hB (by decide) (by decide) dX9_count_95 ⟨congrArg (fun z => some (Value.int z)) (by unfold v_count; show nI (cn 5) = sc 7; rw [c5, hN 7 (by decide) (by decide)]), rfl, rfl⟩
  · refine v_tableIn (tgt := 96) dX9_count_1 (by decide) (by decide) rfl (by decide) ?_
    refine v_aload_n dX9_count_96 rfl ?_
    refine xg_X9_63 dX9_count_97 ?_
    exact v_iret hB (by decide) (by decide) dX9_count_100 ⟨congrArg (fun z => some (Value.int z)) (by unfold v_count; rfl), rfl, rfl⟩
  · refine v_tableIn (tgt := 101) dX9_count_1 (by decide) (by decide) rfl (by decide) ?_
    refine v_aload_n dX9_count_101 rfl ?_
    refine v_cVi0 hB k_X9_125 pX9_thisYear (by decide) ⟨by decide, by decide⟩ rfl rfl (Nat.le_of_ble_eq_true rfl) dX9_count_102 ?_
    exact v_iret hB (by decide) (by decide) dX9_count_105 ⟨congrArg (fun z => some (Value.int z)) (by unfold v_count; rfl), rfl, rfl⟩

set_option maxHeartbeats 4000000 in
set_option maxRecDepth 100000 in
theorem pX9_trouble {l : Launch} {D : va_G} {cy : Nat → ClassId} {s0 : State} {ad : zA} {sc : Nat → Int32} {ar tau : Nat → Nat → Int32} {js mo : Nat → Int32} {cp cn al : Nat → Nat} {q3 pa : Nat → Nat → Int32} {pn : Nat → Nat} {N : Nat → Nat}  (hI : MI N sc ar) (hJ : XI N ar cp cn al q3 pa pn) : zM l D cy s0 yX9_trouble cX9_trouble 1 (some .int) 1 0 0 [.ref (ad 0 0)] ad (xW cy ad sc ar tau js mo cp cn al q3 pa pn) (zPi (sc 1) ad (xW cy ad sc ar tau js mo cp cn al q3 pa pn)) := by
  refine zM_of (own := RX9) rfl (by decide) (by simp [Value.category]) (Nat.le_of_ble_eq_true rfl) ?_
  intro X hB
  show V X RX9 cX9_trouble 1 (some .int) 0 0 ad (xW cy ad sc ar tau js mo cp cn al q3 pa pn) 0 [some (.ref (ad 0 0))] []
  obtain ⟨⟨hN, b2, b3, b4, b5, b6, b7, b8, b9, b10⟩, hS, hQ, hBl, hCh, hZ⟩ := id hI
  obtain ⟨⟨c0, c1, c2, c3, c4, c5⟩, hx, hq3⟩ := id hJ
  have x0 := hx 0 (by decide)
  have x1 := hx 1 (by decide)
  have x2 := hx 2 (by decide)
  have x3 := hx 3 (by decide)
  have x4 := hx 4 (by decide)
  have x5 := hx 5 (by decide)
  refine v_aload_n dX9_trouble_0 rfl ?_
  refine xg_X9_66 dX9_trouble_1 ?_
  exact v_iret hB (by decide) (by decide) dX9_trouble_4 ⟨congrArg (fun z => some (Value.int z)) (by rfl), rfl, rfl⟩

set_option maxHeartbeats 4000000 in
set_option maxRecDepth 100000 in
theorem pX9_stripsOf {l : Launch} {D : va_G} {cy : Nat → ClassId} {s0 : State} {ad : zA} {sc : Nat → Int32} {ar tau : Nat → Nat → Int32} {js mo : Nat → Int32} {cp cn al : Nat → Nat} {q3 pa : Nat → Nat → Int32} {pn : Nat → Nat} {N : Nat → Nat} {f : Int32} (hI : MI N sc ar) (hJ : XI N ar cp cn al q3 pa pn) : zM l D cy s0 yX9_stripsOf cX9_stripsOf 4 (some .int) 4 0 0 [.ref (ad 0 0), .int f] ad (xW cy ad sc ar tau js mo cp cn al q3 pa pn) (zPi (nI (ctN (fun i => decide (ar 18 i = f)) (N 4))) ad (xW cy ad sc ar tau js mo cp cn al q3 pa pn)) := by
  refine zM_of (own := RX9) rfl (by decide) (by simp [Value.category]) (Nat.le_of_ble_eq_true rfl) ?_
  intro X hB
  show V X RX9 cX9_stripsOf 4 (some .int) 0 0 ad (xW cy ad sc ar tau js mo cp cn al q3 pa pn) 0 [some (.ref (ad 0 0)), some (.int f), none, none] []
  obtain ⟨⟨hN, b2, b3, b4, b5, b6, b7, b8, b9, b10⟩, hS, hQ, hBl, hCh, hZ⟩ := id hI
  obtain ⟨⟨c0, c1, c2, c3, c4, c5⟩, hx, hq3⟩ := id hJ
  have x0 := hx 0 (by decide)
  have x1 := hx 1 (by decide)
  have x2 := hx 2 (by decide)
  have x3 := hx 3 (by decide)
  have x4 := hx 4 (by decide)
  have x5 := hx 5 (by decide)
  have loop : ∀ (m : Nat) (i : Nat), N 4 < i + m → i ≤ N 4 → V X RX9 cX9_stripsOf 4 (some .int) 0 0 ad (xW cy ad sc ar tau js mo cp cn al q3 pa pn) 4 [some (.ref (ad 0 0)), some (.int f), some (.int (nI (ctN (fun i => decide (ar 18 i = f)) i))), some (.int (nI i))] [] := by
    intro m
    induction m with
    | zero => intro i h1 h2; omega
    | succ m ih =>
      intro i h1 h2
      refine v_iload_n dX9_stripsOf_4 rfl ?_
      refine v_aload_n dX9_stripsOf_5 rfl ?_
      refine xg_X9_19 dX9_stripsOf_6 ?_
      refine v_cVi0 hB k_X9_77 (pJx4a65c_size_8abf5 (by omega)) (by decide) ⟨by decide, by decide⟩ rfl rfl (Nat.le_of_ble_eq_true rfl) dX9_stripsOf_9 ?_
      refine v_icmp_ge (tgt := 42) dX9_stripsOf_12 (by decide) (fun h12 => ?_) (fun h12 => ?_)
      · rw [nI_leI (by omega) (by omega)] at h12
        refine v_iload_n dX9_stripsOf_42 rfl ?_
        exact v_iret hB (by decide) (by decide) dX9_stripsOf_43 ⟨by rw [show i = N 4 by omega], rfl, rfl⟩
      · rw [nI_leI (by omega) (by omega)] at h12
        refine v_aload_n dX9_stripsOf_15 rfl ?_
        refine xg_X9_19 dX9_stripsOf_16 ?_
        refine v_iload_n dX9_stripsOf_19 rfl ?_
        refine v_cVr1 hB k_X9_113 (pJx4a65c_get_915e3 (by omega) (by omega) (by omega) (by omega)) (by decide) ⟨by decide, by decide⟩ rfl rfl (Nat.le_of_ble_eq_true rfl) dX9_stripsOf_20 ?_
        refine v_cast (ci := 8) rfl cl_X9_120 (xW_X7 (by omega)) dX9_stripsOf_23 ?_
        refine xg_X9_134 (by omega) dX9_stripsOf_26 ?_
        refine v_iload_n dX9_stripsOf_29 rfl ?_
        refine v_icmp_ne (tgt := 36) dX9_stripsOf_30 (by decide) (fun h30 => ?_) (fun h30 => ?_)
        · refine v_iinc3 (v := 1) dX9_stripsOf_36 (by decide) (by decide) ?_
          rw [nI_1 i]
          refine v_goto (tgt := 4) dX9_stripsOf_39 (by decide) ?_
          first | (rw [show nI (ctN (fun i => decide (ar 18 i = f)) i) + 1 = nI (ctN (fun i => decide (ar 18 i = f)) (i + 1)) from by rw [ctN, if_pos (decide_eq_true h30)]; exact nI_add _ 1]; exact ih (i + 1) (by omega) (by omega)) | (rw [show nI (ctN (fun i => decide (ar 18 i = f)) i) = nI (ctN (fun i => decide (ar 18 i = f)) (i + 1)) from by rw [ctN, if_neg (fun z => h30 (of_decide_eq_true z))]; rfl]; exact ih (i + 1) (by omega) (by omega))
        · refine v_iinc2 (v := 1) dX9_stripsOf_33 (by decide) (by decide) ?_
          refine v_iinc3 (v := 1) dX9_stripsOf_36 (by decide) (by decide) ?_
          rw [nI_1 i]
          refine v_goto (tgt := 4) dX9_stripsOf_39 (by decide) ?_
          first | (rw [show nI (ctN (fun i => decide (ar 18 i = f)) i) + 1 = nI (ctN (fun i => decide (ar 18 i = f)) (i + 1)) from by rw [ctN, if_pos (decide_eq_true h30)]; exact nI_add _ 1]; exact ih (i + 1) (by omega) (by omega)) | (rw [show nI (ctN (fun i => decide (ar 18 i = f)) i) = nI (ctN (fun i => decide (ar 18 i = f)) (i + 1)) from by rw [ctN, if_neg (fun z => h30 (of_decide_eq_true z))]; rfl]; exact ih (i + 1) (by omega) (by omega))
  refine v_iconst_v (v := 0) dX9_stripsOf_0 (by decide) ?_
  refine v_istore_n2 dX9_stripsOf_1 (by decide) ?_
  refine v_iconst_v (v := 0) dX9_stripsOf_2 (by decide) ?_
  refine v_istore_n3 dX9_stripsOf_3 (by decide) ?_
  exact loop (N 4 + 1) 0 (by omega) (by omega)

set_option maxHeartbeats 4000000 in
set_option maxRecDepth 100000 in
theorem pX9_looseOf {l : Launch} {D : va_G} {cy : Nat → ClassId} {s0 : State} {ad : zA} {sc : Nat → Int32} {ar tau : Nat → Nat → Int32} {js mo : Nat → Int32} {cp cn al : Nat → Nat} {q3 pa : Nat → Nat → Int32} {pn : Nat → Nat} {N : Nat → Nat} {f g : Int32} (hI : MI N sc ar) (hJ : XI N ar cp cn al q3 pa pn) : zM l D cy s0 yX9_looseOf cX9_looseOf 5 (some .int) 4 0 0 [.ref (ad 0 0), .int f, .int g] ad (xW cy ad sc ar tau js mo cp cn al q3 pa pn) (zPi (nI (ctN (gqB ar f g) (N 5))) ad (xW cy ad sc ar tau js mo cp cn al q3 pa pn)) := by
  refine zM_of (own := RX9) rfl (by decide) (by simp [Value.category]) (Nat.le_of_ble_eq_true rfl) ?_
  intro X hB
  show V X RX9 cX9_looseOf 5 (some .int) 0 0 ad (xW cy ad sc ar tau js mo cp cn al q3 pa pn) 0 [some (.ref (ad 0 0)), some (.int f), some (.int g), none, none] []
  obtain ⟨⟨hN, b2, b3, b4, b5, b6, b7, b8, b9, b10⟩, hS, hQ, hBl, hCh, hZ⟩ := id hI
  obtain ⟨⟨c0, c1, c2, c3, c4, c5⟩, hx, hq3⟩ := id hJ
  have x0 := hx 0 (by decide)
  have x1 := hx 1 (by decide)
  have x2 := hx 2 (by decide)
  have x3 := hx 3 (by decide)
  have x4 := hx 4 (by decide)
  have x5 := hx 5 (by decide)
  have loop : ∀ (m : Nat) (i : Nat), N 5 < i + m → i ≤ N 5 → V X RX9 cX9_looseOf 5 (some .int) 0 0 ad (xW cy ad sc ar tau js mo cp cn al q3 pa pn) 5 [some (.ref (ad 0 0)), some (.int f), some (.int g), some (.int (nI (ctN (gqB ar f g) i))), some (.int (nI i))] [] := by
    intro m
    induction m with
    | zero => intro i h1 h2; omega
    | succ m ih =>
      intro i h1 h2
      refine v_iload dX9_looseOf_5 rfl ?_
      refine v_aload_n dX9_looseOf_7 rfl ?_
      refine xg_X9_22 dX9_looseOf_8 ?_
      refine v_cVi0 hB k_X9_77 (pJx4a65c_size_8abf5 (by omega)) (by decide) ⟨by decide, by decide⟩ rfl rfl (Nat.le_of_ble_eq_true rfl) dX9_looseOf_11 ?_
      refine v_icmp_ge (tgt := 46) dX9_looseOf_14 (by decide) (fun h14 => ?_) (fun h14 => ?_)
      · rw [nI_leI (by omega) (by omega)] at h14
        refine v_iload_n dX9_looseOf_46 rfl ?_
        exact v_iret hB (by decide) (by decide) dX9_looseOf_47 ⟨by rw [show i = N 5 by omega], rfl, rfl⟩
      · rw [nI_leI (by omega) (by omega)] at h14
        obtain ⟨k1, k2, k3, k4, k5, k6⟩ := hq3 i (by omega)
        refine v_aload_n dX9_looseOf_17 rfl ?_
        refine xg_X9_22 dX9_looseOf_18 ?_
        refine v_iload dX9_looseOf_21 rfl ?_
        refine v_cVr1 hB k_X9_113 (pJx4a65c_get_915e3 (by omega) (by omega) (by omega) (by omega)) (by decide) ⟨by decide, by decide⟩ rfl rfl (Nat.le_of_ble_eq_true rfl) dX9_looseOf_23 ?_
        refine v_cast (ci := 7) rfl cl_X9_170 (xW_X6 (by omega)) dX9_looseOf_26 ?_
        refine v_iload_n dX9_looseOf_29 rfl ?_
        refine v_iload_n dX9_looseOf_30 rfl ?_
        refine v_cVi2 hB k_X9_297 (pX6_isLoose (by omega)) (by decide) ⟨by decide, by decide⟩ (xW_X6 (by omega)) rfl (Nat.le_of_ble_eq_true rfl) dX9_looseOf_31 ?_
        refine v_if_eq (tgt := 40) dX9_looseOf_34 (by decide) (fun h34 => ?_) (fun h34 => ?_)
        · rw [bI_eq, k6] at h34
          refine v_iinc4 (v := 1) dX9_looseOf_40 (by decide) (by decide) ?_
          rw [nI_1 i]
          refine v_goto (tgt := 5) dX9_looseOf_43 (by decide) ?_
          first | (rw [show nI (ctN (gqB ar f g) i) + 1 = nI (ctN (gqB ar f g) (i + 1)) from by rw [ctN, if_pos (gqB_t.mpr ⟨looB_t.mpr ⟨h34.2.1, h34.1⟩, h34.2.2⟩)]; exact nI_add _ 1]; exact ih (i + 1) (by omega) (by omega)) | (rw [show nI (ctN (gqB ar f g) i) = nI (ctN (gqB ar f g) (i + 1)) from by rw [ctN, if_neg (fun z => h34 ⟨(looB_t.mp (gqB_t.mp z).1).2, (looB_t.mp (gqB_t.mp z).1).1, (gqB_t.mp z).2⟩)]; rfl]; exact ih (i + 1) (by omega) (by omega))
        · rw [bI_ne, k6] at h34
          refine v_iinc3 (v := 1) dX9_looseOf_37 (by decide) (by decide) ?_
          refine v_iinc4 (v := 1) dX9_looseOf_40 (by decide) (by decide) ?_
          rw [nI_1 i]
          refine v_goto (tgt := 5) dX9_looseOf_43 (by decide) ?_
          first | (rw [show nI (ctN (gqB ar f g) i) + 1 = nI (ctN (gqB ar f g) (i + 1)) from by rw [ctN, if_pos (gqB_t.mpr ⟨looB_t.mpr ⟨h34.2.1, h34.1⟩, h34.2.2⟩)]; exact nI_add _ 1]; exact ih (i + 1) (by omega) (by omega)) | (rw [show nI (ctN (gqB ar f g) i) = nI (ctN (gqB ar f g) (i + 1)) from by rw [ctN, if_neg (fun z => h34 ⟨(looB_t.mp (gqB_t.mp z).1).2, (looB_t.mp (gqB_t.mp z).1).1, (gqB_t.mp z).2⟩)]; rfl]; exact ih (i + 1) (by omega) (by omega))
  refine v_iconst_v (v := 0) dX9_looseOf_0 (by decide) ?_
  refine v_istore_n3 dX9_looseOf_1 (by decide) ?_
  refine v_iconst_v (v := 0) dX9_looseOf_2 (by decide) ?_
  refine v_istore4 dX9_looseOf_3 (by decide) ?_
  exact loop (N 5 + 1) 0 (by omega) (by omega)

theorem grd_in (a b : Int32) : grd a b = 1 ∨ grd a b = 2 ∨ grd a b = 3 ∨ grd a b = 4 := by
  unfold grd
  split
  · exact Or.inl rfl
  · split
    · exact Or.inr (Or.inl rfl)
    · split
      · exact Or.inr (Or.inr (Or.inl rfl))
      · exact Or.inr (Or.inr (Or.inr rfl))
theorem ct_grades (ar : Nat → Nat → Int32) (f : Int32) : ∀ n, (∀ q, q < n → ar 26 q = 1 ∨ ar 26 q = 2 ∨ ar 26 q = 3 ∨ ar 26 q = 4) → ctN (gqB ar f 1) n + ctN (gqB ar f 2) n + ctN (gqB ar f 3) n + ctN (gqB ar f 4) n = ctN (looB ar f) n
  | 0, _ => rfl
  | n + 1, h => by
    have ih := ct_grades ar f n (fun q hq => h q (by omega))
    show (ctN (gqB ar f 1) n + (if gqB ar f 1 n then 1 else 0)) + (ctN (gqB ar f 2) n + (if gqB ar f 2 n then 1 else 0)) + (ctN (gqB ar f 3) n + (if gqB ar f 3 n then 1 else 0)) + (ctN (gqB ar f 4) n + (if gqB ar f 4 n then 1 else 0)) = ctN (looB ar f) n + (if looB ar f n then 1 else 0)
    cases hl : looB ar f n with
    | false => simp only [gqB, hl]; simp; omega
    | true =>
      rcases h n (by omega) with e | e | e | e <;> (simp only [gqB, hl, e]; simp; omega)
set_option maxHeartbeats 4000000 in
set_option maxRecDepth 100000 in
theorem pX9_quillsInNoBale {l : Launch} {D : va_G} {cy : Nat → ClassId} {s0 : State} {ad : zA} {sc : Nat → Int32} {ar tau : Nat → Nat → Int32} {js mo : Nat → Int32} {cp cn al : Nat → Nat} {q3 pa : Nat → Nat → Int32} {pn : Nat → Nat} {N : Nat → Nat} {f : Int32} (hI : MI N sc ar) (hJ : XI N ar cp cn al q3 pa pn) : zM l D cy s0 yX9_quillsInNoBale cX9_quillsInNoBale 4 (some .int) 5 0 0 [.ref (ad 0 0), .int f] ad (xW cy ad sc ar tau js mo cp cn al q3 pa pn) (zPi (nI (ctN (looB ar f) (N 5))) ad (xW cy ad sc ar tau js mo cp cn al q3 pa pn)) := by
  refine zM_of (own := RX9) rfl (by decide) (by simp [Value.category]) (Nat.le_of_ble_eq_true rfl) ?_
  intro X hB
  show V X RX9 cX9_quillsInNoBale 4 (some .int) 0 0 ad (xW cy ad sc ar tau js mo cp cn al q3 pa pn) 0 [some (.ref (ad 0 0)), some (.int f), none, none] []
  obtain ⟨⟨hN, b2, b3, b4, b5, b6, b7, b8, b9, b10⟩, hS, hQ, hBl, hCh, hZ⟩ := id hI
  obtain ⟨⟨c0, c1, c2, c3, c4, c5⟩, hx, hq3⟩ := id hJ
  have x0 := hx 0 (by decide)
  have x1 := hx 1 (by decide)
  have x2 := hx 2 (by decide)
  have x3 := hx 3 (by decide)
  have x4 := hx 4 (by decide)
  have x5 := hx 5 (by decide)
  have loop : ∀ (m : Nat) (g c : Nat), 5 < g + m → g ≤ 5 → 1 ≤ g → c ≤ 120 * g → c + (if g ≤ 1 then ctN (gqB ar f 1) (N 5) else 0) + (if g ≤ 2 then ctN (gqB ar f 2) (N 5) else 0) + (if g ≤ 3 then ctN (gqB ar f 3) (N 5) else 0) + (if g ≤ 4 then ctN (gqB ar f 4) (N 5) else 0) = ctN (looB ar f) (N 5) → V X RX9 cX9_quillsInNoBale 4 (some .int) 0 0 ad (xW cy ad sc ar tau js mo cp cn al q3 pa pn) 4 [some (.ref (ad 0 0)), some (.int f), some (.int (nI c)), some (.int (nI g))] [] := by
    intro m
    induction m with
    | zero => intro g c h1 h2 h3 h4 h5; omega
    | succ m ih =>
      intro g c h1 h2 h3 h4 h5
      refine v_iload_n dX9_quillsInNoBale_4 rfl ?_
      refine v_iconst_v (v := 4) dX9_quillsInNoBale_5 (by decide) ?_
      refine v_icmp_gt (tgt := 24) dX9_quillsInNoBale_6 (by decide) (fun h6 => ?_) (fun h6 => ?_)
      · have h6 := (n_ltI (a := 4) (by decide) (by omega)).mp h6
        refine v_iload_n dX9_quillsInNoBale_24 rfl ?_
        exact v_iret hB (by decide) (by decide) dX9_quillsInNoBale_25 ⟨by rw [if_neg (by omega), if_neg (by omega), if_neg (by omega), if_neg (by omega)] at h5; rw [← h5]; rfl, rfl, rfl⟩
      · have h6 : ¬ 4 < g := fun z => h6 ((n_ltI (a := 4) (by decide) (by omega)).mpr z)
        refine v_iload_n dX9_quillsInNoBale_9 rfl ?_
        refine v_aload_n dX9_quillsInNoBale_10 rfl ?_
        refine v_iload_n dX9_quillsInNoBale_11 rfl ?_
        refine v_iload_n dX9_quillsInNoBale_12 rfl ?_
        refine v_cVi2 hB k_X9_215 (pX9_looseOf hI hJ) (by decide) ⟨by decide, by decide⟩ rfl rfl (Nat.le_of_ble_eq_true rfl) dX9_quillsInNoBale_13 ?_
        refine v_iadd dX9_quillsInNoBale_16 ?_
        refine v_eq (nI_add c _) ?_
        refine v_istore_n2 dX9_quillsInNoBale_17 (by decide) ?_
        refine v_iinc3 (v := 1) dX9_quillsInNoBale_18 (by decide) (by decide) ?_
        rw [nI_1 g]
        refine v_goto (tgt := 4) dX9_quillsInNoBale_21 (by decide) ?_
        have l1 := ctN_le (gqB ar f (nI g)) (N 5)
        refine ih (g + 1) (c + ctN (gqB ar f (nI g)) (N 5)) (by omega) (by omega) (by omega) (by omega) ?_
        rcases (by omega : g = 1 ∨ g = 2 ∨ g = 3 ∨ g = 4) with rfl | rfl | rfl | rfl
        · simp only [show (1 : Nat) ≤ 1 from by decide, show (1 : Nat) ≤ 2 from by decide, show (1 : Nat) ≤ 3 from by decide, show (1 : Nat) ≤ 4 from by decide, if_true] at h5
          rw [if_neg (by decide), if_pos (by decide), if_pos (by decide), if_pos (by decide)]
          show c + ctN (gqB ar f 1) (N 5) + 0 + _ + _ + _ = _
          omega
        · rw [if_neg (by decide), if_pos (by decide), if_pos (by decide), if_pos (by decide)] at h5
          rw [if_neg (by decide), if_neg (by decide), if_pos (by decide), if_pos (by decide)]
          show c + ctN (gqB ar f 2) (N 5) + 0 + 0 + _ + _ = _
          omega
        · rw [if_neg (by decide), if_neg (by decide), if_pos (by decide), if_pos (by decide)] at h5
          rw [if_neg (by decide), if_neg (by decide), if_neg (by decide), if_pos (by decide)]
          show c + ctN (gqB ar f 3) (N 5) + 0 + 0 + 0 + _ = _
          omega
        · rw [if_neg (by decide), if_neg (by decide), if_neg (by decide), if_pos (by decide)] at h5
          rw [if_neg (by decide), if_neg (by decide), if_neg (by decide), if_neg (by decide)]
          show c + ctN (gqB ar f 4) (N 5) + 0 + 0 + 0 + 0 = _
          omega
  refine v_iconst_v (v := 0) dX9_quillsInNoBale_0 (by decide) ?_
  refine v_istore_n2 dX9_quillsInNoBale_1 (by decide) ?_
  refine v_iconst_v (v := 1) dX9_quillsInNoBale_2 (by decide) ?_
  refine v_istore_n3 dX9_quillsInNoBale_3 (by decide) ?_
  refine loop 5 1 0 (by omega) (by omega) (by omega) (by omega) ?_
  rw [if_pos (by decide), if_pos (by decide), if_pos (by decide), if_pos (by decide), Nat.zero_add]
  exact ct_grades ar f (N 5) (fun q hq => by rw [← (hq3 q hq).2.2.2.2.2]; exact grd_in _ _)

set_option maxHeartbeats 4000000 in
set_option maxRecDepth 100000 in
theorem pX9_about {l : Launch} {D : va_G} {cy : Nat → ClassId} {s0 : State} {ad : zA} {sc : Nat → Int32} {ar tau : Nat → Nat → Int32} {js mo : Nat → Int32} {cp cn al : Nat → Nat} {q3 pa : Nat → Nat → Int32} {pn : Nat → Nat} {N : Nat → Nat} {f b : Int32} (hI : MI N sc ar) (hJ : XI N ar cp cn al q3 pa pn) : zM l D cy s0 yX9_about cX9_about 4 (some .int) 6 0 0 [.ref (ad 0 0), .int f, .int b] ad (xW cy ad sc ar tau js mo cp cn al q3 pa pn) (zPi (v_about f b sc ar) ad (xW cy ad sc ar tau js mo cp cn al q3 pa pn)) := by
  refine zM_of (own := RX9) rfl (by decide) (by simp [Value.category]) (Nat.le_of_ble_eq_true rfl) ?_
  intro X hB
  show V X RX9 cX9_about 4 (some .int) 0 0 ad (xW cy ad sc ar tau js mo cp cn al q3 pa pn) 0 [some (.ref (ad 0 0)), some (.int f), some (.int b), none] []
  obtain ⟨⟨hN, b2, b3, b4, b5, b6, b7, b8, b9, b10⟩, hS, hQ, hBl, hCh, hZ⟩ := id hI
  obtain ⟨⟨c0, c1, c2, c3, c4, c5⟩, hx, hq3⟩ := id hJ
  have x0 := hx 0 (by decide)
  have x1 := hx 1 (by decide)
  have x2 := hx 2 (by decide)
  have x3 := hx 3 (by decide)
  have x4 := hx 4 (by decide)
  have x5 := hx 5 (by decide)
  refine v_aload_n dX9_about_0 rfl ?_
  refine v_iload_n dX9_about_1 rfl ?_
  refine v_cVi1 hB k_X9_93 pX9_isFamily (by decide) ⟨by decide, by decide⟩ rfl rfl (Nat.le_of_ble_eq_true rfl) dX9_about_2 ?_
  refine v_if_ne (tgt := 10) dX9_about_5 (by decide) (fun h5 => ?_) (fun h5 => ?_)
  · rw [bI_ne] at h5
    have hr : 0 ≤ f ∧ f < sc 2 := by rw [hN 2 (by decide) (by decide), ← c0]; exact h5
    obtain ⟨n, hn, rfl⟩ := i_ix (by rw [hN 2 (by decide) (by decide)] at hr; exact hr) (by omega)
    refine v_aload_n dX9_about_10 rfl ?_
    refine xg_X9_10 dX9_about_11 ?_
    refine v_iload_n dX9_about_14 rfl ?_
    refine v_cVr1 hB k_X9_113 (pJx4a65c_get_915e3 (by omega) (by omega) (by omega) (by omega)) (by decide) ⟨by decide, by decide⟩ rfl rfl (Nat.le_of_ble_eq_true rfl) dX9_about_15 ?_
    refine v_cast (ci := 3) rfl cl_X9_81 (xW_X2 (by omega)) dX9_about_18 ?_
    refine v_astore_n3 dX9_about_21 (by decide) ?_
    refine v_iload_n dX9_about_22 rfl ?_
    rcases sw6 b with hsw | rfl | rfl | rfl | rfl | rfl | rfl
    · refine v_tableOut (tgt := 92) dX9_about_23 hsw (by decide) ?_
      refine v_iconst_v (v := -1) dX9_about_92 (by decide) ?_
      exact v_iret hB (by decide) (by decide) dX9_about_93 ⟨congrArg (fun z => some (Value.int z)) (by obtain ⟨e0, e1, e2, e3, e4, e5⟩ := swo6 hsw; unfold v_about; rw [if_pos hr, if_neg e0, if_neg e1, if_neg e2, if_neg e3, if_neg e4, if_neg e5]), rfl, rfl⟩
    · refine v_tableIn (tgt := 60) dX9_about_23 (by decide) (by decide) rfl (by decide) ?_
      refine v_aload_n dX9_about_60 rfl ?_
      refine xg_X9_250 (by omega) dX9_about_61 ?_
      exact v_iret hB (by decide) (by decide) dX9_about_64 ⟨congrArg (fun z => some (Value.int z)) (by unfold v_about; rw [if_pos hr, cl_nI (by omega)]; rfl), rfl, rfl⟩
    · refine v_tableIn (tgt := 65) dX9_about_23 (by decide) (by decide) rfl (by decide) ?_
      refine v_aload_n dX9_about_65 rfl ?_
      refine xg_X9_253 (by omega) dX9_about_66 ?_
      exact v_iret hB (by decide) (by decide) dX9_about_69 ⟨congrArg (fun z => some (Value.int z)) (by unfold v_about; rw [if_pos hr, cl_nI (by omega)]; rfl), rfl, rfl⟩
    · refine v_tableIn (tgt := 70) dX9_about_23 (by decide) (by decide) rfl (by decide) ?_
      refine v_aload_n dX9_about_70 rfl ?_
      refine xg_X9_256 (by omega) dX9_about_71 ?_
      exact v_iret hB (by decide) (by decide) dX9_about_74 ⟨congrArg (fun z => some (Value.int z)) (by unfold v_about; rw [if_pos hr, cl_nI (by omega)]; rfl), rfl, rfl⟩
    · refine v_tableIn (tgt := 75) dX9_about_23 (by decide) (by decide) rfl (by decide) ?_
      refine v_aload_n dX9_about_75 rfl ?_
      refine xg_X9_259 (by omega) dX9_about_76 ?_
      exact v_iret hB (by decide) (by decide) dX9_about_79 ⟨congrArg (fun z => some (Value.int z)) (by unfold v_about; rw [if_pos hr, cl_nI (by omega)]; rfl), rfl, rfl⟩
    · refine v_tableIn (tgt := 80) dX9_about_23 (by decide) (by decide) rfl (by decide) ?_
      refine v_aload_n dX9_about_80 rfl ?_
      refine v_iload_n dX9_about_81 rfl ?_
      refine v_cVi1 hB k_X9_260 (pX9_quillsInNoBale hI hJ) (by decide) ⟨by decide, by decide⟩ rfl rfl (Nat.le_of_ble_eq_true rfl) dX9_about_82 ?_
      exact v_iret hB (by decide) (by decide) dX9_about_85 ⟨congrArg (fun z => some (Value.int z)) (by unfold v_about; rw [if_pos hr, hN 5 (by decide) (by decide), cl_nI (n := N 5) (by omega)]; rfl), rfl, rfl⟩
    · refine v_tableIn (tgt := 86) dX9_about_23 (by decide) (by decide) rfl (by decide) ?_
      refine v_aload_n dX9_about_86 rfl ?_
      refine v_iload_n dX9_about_87 rfl ?_
      refine v_cVi1 hB k_X9_263 (pX9_stripsOf hI hJ) (by decide) ⟨by decide, by decide⟩ rfl rfl (Nat.le_of_ble_eq_true rfl) dX9_about_88 ?_
      exact v_iret hB (by decide) (by decide) dX9_about_91 ⟨congrArg (fun z => some (Value.int z)) (by unfold v_about; rw [if_pos hr, hN 4 (by decide) (by decide), cl_nI (n := N 4) (by omega)]; rfl), rfl, rfl⟩
  · rw [bI_eq] at h5
    refine v_iconst_v (v := -1) dX9_about_8 (by decide) ?_
    exact v_iret hB (by decide) (by decide) dX9_about_9 ⟨congrArg (fun z => some (Value.int z)) (by unfold v_about; rw [if_neg (fun z => h5 (by rw [c0, ← hN 2 (by decide) (by decide)]; exact z))]), rfl, rfl⟩

set_option maxHeartbeats 4000000 in
set_option maxRecDepth 100000 in
theorem pX9_chestOf {l : Launch} {D : va_G} {cy : Nat → ClassId} {s0 : State} {ad : zA} {sc : Nat → Int32} {ar tau : Nat → Nat → Int32} {js mo : Nat → Int32} {cp cn al : Nat → Nat} {q3 pa : Nat → Nat → Int32} {pn : Nat → Nat} {N : Nat → Nat} {n : Nat} (hI : MI N sc ar) (hJ : XI N ar cp cn al q3 pa pn) (hn : n < N 4) : zM l D cy s0 yX9_chestOf cX9_chestOf 3 (some .int) 4 0 0 [.ref (ad 0 0), .ref (ad 10 n)] ad (xW cy ad sc ar tau js mo cp cn al q3 pa pn) (zPi (chO ar n) ad (xW cy ad sc ar tau js mo cp cn al q3 pa pn)) := by
  refine zM_of (own := RX9) rfl (by decide) (by simp [Value.category]) (Nat.le_of_ble_eq_true rfl) ?_
  intro X hB
  show V X RX9 cX9_chestOf 3 (some .int) 0 0 ad (xW cy ad sc ar tau js mo cp cn al q3 pa pn) 0 [some (.ref (ad 0 0)), some (.ref (ad 10 n)), none] []
  obtain ⟨⟨hN, b2, b3, b4, b5, b6, b7, b8, b9, b10⟩, hS, hQ, hBl, hCh, hZ⟩ := id hI
  obtain ⟨⟨c0, c1, c2, c3, c4, c5⟩, hx, hq3⟩ := id hJ
  have x0 := hx 0 (by decide)
  have x1 := hx 1 (by decide)
  have x2 := hx 2 (by decide)
  have x3 := hx 3 (by decide)
  have x4 := hx 4 (by decide)
  have x5 := hx 5 (by decide)
  obtain ⟨-, -, -, -, -, -, hq⟩ := hS n hn
  refine v_aload_n dX9_chestOf_0 rfl ?_
  refine v_aload_n dX9_chestOf_1 rfl ?_
  refine xg_X9_156 (by omega) dX9_chestOf_2 ?_
  refine v_cVi1 hB k_X9_192 pX9_isQuill (by decide) ⟨by decide, by decide⟩ rfl rfl (Nat.le_of_ble_eq_true rfl) dX9_chestOf_5 ?_
  refine v_if_ne (tgt := 13) dX9_chestOf_8 (by decide) (fun h8 => ?_) (fun h8 => ?_)
  · rw [bI_ne] at h8
    obtain ⟨q, hq1, hq2⟩ : ∃ q, q < N 5 ∧ ar 24 n = nI q := by
      rcases hq with e | e
      · exact absurd h8.1 (by rw [e]; decide)
      · exact e
    obtain ⟨-, -, hbq⟩ := hQ q hq1
    have ec : cl (ar 24 n) = q := by rw [hq2, cl_nI (by omega)]
    refine v_aload_n dX9_chestOf_13 rfl ?_
    refine xg_X9_22 dX9_chestOf_14 ?_
    refine v_aload_n dX9_chestOf_17 rfl ?_
    refine xg_X9_156 (by omega) dX9_chestOf_18 ?_
    refine v_eq hq2 ?_
    refine v_cVr1 hB k_X9_113 (pJx4a65c_get_915e3 (by omega) (by omega) (by omega) (by omega)) (by decide) ⟨by decide, by decide⟩ rfl rfl (Nat.le_of_ble_eq_true rfl) dX9_chestOf_21 ?_
    refine v_cast (ci := 7) rfl cl_X9_170 (xW_X6 (by omega)) dX9_chestOf_24 ?_
    refine xg_X9_201 (by omega) dX9_chestOf_27 ?_
    refine v_istore_n2 dX9_chestOf_30 (by decide) ?_
    refine v_aload_n dX9_chestOf_31 rfl ?_
    refine v_iload_n dX9_chestOf_32 rfl ?_
    refine v_cVi1 hB k_X9_231 pX9_isBale (by decide) ⟨by decide, by decide⟩ rfl rfl (Nat.le_of_ble_eq_true rfl) dX9_chestOf_33 ?_
    refine v_if_eq (tgt := 56) dX9_chestOf_36 (by decide) (fun h36 => ?_) (fun h36 => ?_)
    · rw [bI_eq] at h36
      refine v_iconst_v (v := -1) dX9_chestOf_56 (by decide) ?_
      exact v_iret hB (by decide) (by decide) dX9_chestOf_57 ⟨congrArg (fun z => some (Value.int z)) (by rw [chO_neg (Or.inr (by
        rw [ec]
        rcases hbq with e | ⟨q2, z1, z2⟩
        · rw [e]; exact n2lt
        · exact absurd (by rw [z2, c4]; exact n_fit z1 (by omega)) h36))]), rfl, rfl⟩
    · rw [bI_ne] at h36
      obtain ⟨b, hb1, hb2⟩ : ∃ b, b < N 6 ∧ ar 29 q = nI b := by
        rcases hbq with e | e
        · exact absurd h36.1 (by rw [e]; decide)
        · exact e
      refine v_aload_n dX9_chestOf_39 rfl ?_
      refine xg_X9_25 dX9_chestOf_40 ?_
      refine v_iload_n dX9_chestOf_43 rfl ?_
      refine v_eq hb2 ?_
      refine v_cVr1 hB k_X9_113 (pJx4a65c_get_915e3 (by omega) (by omega) (by omega) (by omega)) (by decide) ⟨by decide, by decide⟩ rfl rfl (Nat.le_of_ble_eq_true rfl) dX9_chestOf_44 ?_
      refine v_cast (ci := 1) rfl cl_X9_234 (xW_X0 (by omega)) dX9_chestOf_47 ?_
      refine xg_X9_240 (by omega) dX9_chestOf_50 ?_
      refine v_goto (tgt := 57) dX9_chestOf_53 (by decide) ?_
      exact v_iret hB (by decide) (by decide) dX9_chestOf_57 ⟨congrArg (fun z => some (Value.int z)) (by rw [chO_pos (by rw [ec, hb2, hq2]; exact fun z => z.elim (nI_pos (by omega)) (nI_pos (by omega))), ec, hb2, cl_nI (by omega)]), rfl, rfl⟩
  · rw [bI_eq] at h8
    refine v_iconst_v (v := -1) dX9_chestOf_11 (by decide) ?_
    exact v_iret hB (by decide) (by decide) dX9_chestOf_12 ⟨congrArg (fun z => some (Value.int z)) (by rw [chO_neg (Or.inl (by
      rcases hq with e | ⟨q, q1, q2⟩
      · rw [e]; exact n2lt
      · exact absurd (by rw [q2, c3]; exact n_fit q1 (by omega)) h8))]), rfl, rfl⟩

set_option maxHeartbeats 4000000 in
set_option maxRecDepth 100000 in
theorem pX9_share {l : Launch} {D : va_G} {cy : Nat → ClassId} {s0 : State} {ad : zA} {sc : Nat → Int32} {ar tau : Nat → Nat → Int32} {js mo : Nat → Int32} {cp cn al : Nat → Nat} {q3 pa : Nat → Nat → Int32} {pn : Nat → Nat} {N : Nat → Nat} {c g : Int32} (hI : MI N sc ar) (hJ : XI N ar cp cn al q3 pa pn) : zM l D cy s0 yX9_share cX9_share 6 (some .int) 5 0 0 [.ref (ad 0 0), .int c, .int g] ad (xW cy ad sc ar tau js mo cp cn al q3 pa pn) (zPi (v_share c g sc ar) ad (xW cy ad sc ar tau js mo cp cn al q3 pa pn)) := by
  refine zM_of (own := RX9) rfl (by decide) (by simp [Value.category]) (Nat.le_of_ble_eq_true rfl) ?_
  intro X hB
  show V X RX9 cX9_share 6 (some .int) 0 0 ad (xW cy ad sc ar tau js mo cp cn al q3 pa pn) 0 [some (.ref (ad 0 0)), some (.int c), some (.int g), none, none, none] []
  obtain ⟨⟨hN, b2, b3, b4, b5, b6, b7, b8, b9, b10⟩, hS, hQ, hBl, hCh, hZ⟩ := id hI
  obtain ⟨⟨c0, c1, c2, c3, c4, c5⟩, hx, hq3⟩ := id hJ
  have x0 := hx 0 (by decide)
  have x1 := hx 1 (by decide)
  have x2 := hx 2 (by decide)
  have x3 := hx 3 (by decide)
  have x4 := hx 4 (by decide)
  have x5 := hx 5 (by decide)
  refine v_aload_n dX9_share_0 rfl ?_
  refine v_iload_n dX9_share_1 rfl ?_
  refine v_cVi1 hB k_X9_266 pX9_isChest (by decide) ⟨by decide, by decide⟩ rfl rfl (Nat.le_of_ble_eq_true rfl) dX9_share_2 ?_
  refine v_if_eq (tgt := 16) dX9_share_5 (by decide) (fun h5 => ?_) (fun h5 => ?_)
  · rw [bI_eq] at h5
    refine v_iconst_v (v := -1) dX9_share_16 (by decide) ?_
    exact v_iret hB (by decide) (by decide) dX9_share_17 ⟨congrArg (fun z => some (Value.int z)) (by unfold v_share; rw [hN 7 (by decide) (by decide), ← c5, hN 3 (by decide) (by decide), ← c1]; first | rw [if_neg (fun z => h5 z.1)] | rw [if_neg (fun z => h13 z.2)]), rfl, rfl⟩
  · rw [bI_ne] at h5
    refine v_aload_n dX9_share_8 rfl ?_
    refine v_iload_n dX9_share_9 rfl ?_
    refine v_cVi1 hB k_X9_110 pX9_isGarden (by decide) ⟨by decide, by decide⟩ rfl rfl (Nat.le_of_ble_eq_true rfl) dX9_share_10 ?_
    refine v_if_ne (tgt := 18) dX9_share_13 (by decide) (fun h13 => ?_) (fun h13 => ?_)
    · rw [bI_ne] at h13
      have hr : (0 ≤ c ∧ c < sc 7) ∧ (0 ≤ g ∧ g < sc 3) := by rw [hN 7 (by decide) (by decide), ← c5, hN 3 (by decide) (by decide), ← c1]; exact ⟨h5, h13⟩
      have loop : ∀ (m : Nat) (i : Nat) (z : Option Value), N 4 < i + m → i ≤ N 4 → V X RX9 cX9_share 6 (some .int) 0 0 ad (xW cy ad sc ar tau js mo cp cn al q3 pa pn) 23 [some (.ref (ad 0 0)), some (.int c), some (.int g), some (.int (smI (shF ar g c) i)), some (.int (nI i)), z] [] := by
        intro m
        induction m with
        | zero => intro i z h1 h2; omega
        | succ m ih =>
          intro i z h1 h2
          refine v_iload dX9_share_23 rfl ?_
          refine v_aload_n dX9_share_25 rfl ?_
          refine xg_X9_19 dX9_share_26 ?_
          refine v_cVi0 hB k_X9_77 (pJx4a65c_size_8abf5 (by omega)) (by decide) ⟨by decide, by decide⟩ rfl rfl (Nat.le_of_ble_eq_true rfl) dX9_share_29 ?_
          refine v_icmp_ge (tgt := 82) dX9_share_32 (by decide) (fun h32 => ?_) (fun h32 => ?_)
          · rw [nI_leI (by omega) (by omega)] at h32
            refine v_iload_n dX9_share_82 rfl ?_
            exact v_iret hB (by decide) (by decide) dX9_share_83 ⟨congrArg (fun z => some (Value.int z)) (by unfold v_share; rw [if_pos hr, hN 4 (by decide) (by decide), cl_nI (by omega), show i = N 4 by omega]; rfl), rfl, rfl⟩
          · rw [nI_leI (by omega) (by omega)] at h32
            refine v_aload_n dX9_share_35 rfl ?_
            refine xg_X9_19 dX9_share_36 ?_
            refine v_iload dX9_share_39 rfl ?_
            refine v_cVr1 hB k_X9_113 (pJx4a65c_get_915e3 (by omega) (by omega) (by omega) (by omega)) (by decide) ⟨by decide, by decide⟩ rfl rfl (Nat.le_of_ble_eq_true rfl) dX9_share_41 ?_
            refine v_cast (ci := 8) rfl cl_X9_120 (xW_X7 (by omega)) dX9_share_44 ?_
            refine v_astore5 dX9_share_47 (by decide) ?_
            refine v_aload dX9_share_49 rfl ?_
            refine xg_X9_137 (by omega) dX9_share_51 ?_
            refine v_iload_n dX9_share_54 rfl ?_
            refine v_icmp_ne (tgt := 76) dX9_share_55 (by decide) (fun h55 => ?_) (fun h55 => ?_)
            · refine v_iinc4 (v := 1) dX9_share_76 (by decide) (by decide) ?_
              rw [nI_1 i]
              refine v_goto (tgt := 23) dX9_share_79 (by decide) ?_
              first | exact ih (i + 1) _ (by omega) (by omega) | (rw [← Int32.add_zero (smI (shF ar g c) i)]; first | (rw [sh_n1 h55]; exact ih (i + 1) _ (by omega) (by omega)) | (rw [sh_n2 h65]; exact ih (i + 1) _ (by omega) (by omega)))
            · refine v_aload_n dX9_share_58 rfl ?_
              refine v_aload dX9_share_59 rfl ?_
              refine v_cVi1 hB k_X9_278 (pX9_chestOf hI hJ (by omega)) (by decide) ⟨by decide, by decide⟩ rfl rfl (Nat.le_of_ble_eq_true rfl) dX9_share_61 ?_
              refine v_iload_n dX9_share_64 rfl ?_
              refine v_icmp_ne (tgt := 76) dX9_share_65 (by decide) (fun h65 => ?_) (fun h65 => ?_)
              · refine v_iinc4 (v := 1) dX9_share_76 (by decide) (by decide) ?_
                rw [nI_1 i]
                refine v_goto (tgt := 23) dX9_share_79 (by decide) ?_
                first | exact ih (i + 1) _ (by omega) (by omega) | (rw [← Int32.add_zero (smI (shF ar g c) i)]; first | (rw [sh_n1 h55]; exact ih (i + 1) _ (by omega) (by omega)) | (rw [sh_n2 h65]; exact ih (i + 1) _ (by omega) (by omega)))
              · refine v_iload_n dX9_share_68 rfl ?_
                refine v_aload dX9_share_69 rfl ?_
                refine xg_X9_140 (by omega) dX9_share_71 ?_
                refine v_iadd dX9_share_74 ?_
                refine v_eq (sh_pos h55 h65) ?_
                refine v_istore_n3 dX9_share_75 (by decide) ?_
                refine v_iinc4 (v := 1) dX9_share_76 (by decide) (by decide) ?_
                rw [nI_1 i]
                refine v_goto (tgt := 23) dX9_share_79 (by decide) ?_
                first | exact ih (i + 1) _ (by omega) (by omega) | (rw [← Int32.add_zero (smI (shF ar g c) i)]; first | (rw [sh_n1 h55]; exact ih (i + 1) _ (by omega) (by omega)) | (rw [sh_n2 h65]; exact ih (i + 1) _ (by omega) (by omega)))
      refine v_iconst_v (v := 0) dX9_share_18 (by decide) ?_
      refine v_istore_n3 dX9_share_19 (by decide) ?_
      refine v_iconst_v (v := 0) dX9_share_20 (by decide) ?_
      refine v_istore4 dX9_share_21 (by decide) ?_
      exact loop (N 4 + 1) 0 none (by omega) (by omega)
    · rw [bI_eq] at h13
      refine v_iconst_v (v := -1) dX9_share_16 (by decide) ?_
      exact v_iret hB (by decide) (by decide) dX9_share_17 ⟨congrArg (fun z => some (Value.int z)) (by unfold v_share; rw [hN 7 (by decide) (by decide), ← c5, hN 3 (by decide) (by decide), ← c1]; first | rw [if_neg (fun z => h5 z.1)] | rw [if_neg (fun z => h13 z.2)]), rfl, rfl⟩

set_option maxHeartbeats 4000000 in
set_option maxRecDepth 100000 in
theorem pX9_traced {l : Launch} {D : va_G} {cy : Nat → ClassId} {s0 : State} {ad : zA} {sc : Nat → Int32} {ar tau : Nat → Nat → Int32} {js mo : Nat → Int32} {cp cn al : Nat → Nat} {q3 pa : Nat → Nat → Int32} {pn : Nat → Nat} {N : Nat → Nat} {g a b : Int32} (hI : MI N sc ar) (hJ : XI N ar cp cn al q3 pa pn) : zM l D cy s0 yX9_traced cX9_traced 8 (some .int) 5 0 0 [.ref (ad 0 0), .int g, .int a, .int b] ad (xW cy ad sc ar tau js mo cp cn al q3 pa pn) (zPi (v_traced g a b sc ar) ad (xW cy ad sc ar tau js mo cp cn al q3 pa pn)) := by
  refine zM_of (own := RX9) rfl (by decide) (by simp [Value.category]) (Nat.le_of_ble_eq_true rfl) ?_
  intro X hB
  show V X RX9 cX9_traced 8 (some .int) 0 0 ad (xW cy ad sc ar tau js mo cp cn al q3 pa pn) 0 [some (.ref (ad 0 0)), some (.int g), some (.int a), some (.int b), none, none, none, none] []
  obtain ⟨⟨hN, b2, b3, b4, b5, b6, b7, b8, b9, b10⟩, hS, hQ, hBl, hCh, hZ⟩ := id hI
  obtain ⟨⟨c0, c1, c2, c3, c4, c5⟩, hx, hq3⟩ := id hJ
  have x0 := hx 0 (by decide)
  have x1 := hx 1 (by decide)
  have x2 := hx 2 (by decide)
  have x3 := hx 3 (by decide)
  have x4 := hx 4 (by decide)
  have x5 := hx 5 (by decide)
  refine v_aload_n dX9_traced_0 rfl ?_
  refine v_iload_n dX9_traced_1 rfl ?_
  refine v_cVi1 hB k_X9_110 pX9_isGarden (by decide) ⟨by decide, by decide⟩ rfl rfl (Nat.le_of_ble_eq_true rfl) dX9_traced_2 ?_
  refine v_if_ne (tgt := 10) dX9_traced_5 (by decide) (fun h5 => ?_) (fun h5 => ?_)
  · rw [bI_ne] at h5
    have hr : 0 ≤ g ∧ g < sc 3 := by rw [hN 3 (by decide) (by decide), ← c1]; exact h5
    have loop : ∀ (m : Nat) (i : Nat) (z6 z7 : Option Value), N 4 < i + m → i ≤ N 4 → V X RX9 cX9_traced 8 (some .int) 0 0 ad (xW cy ad sc ar tau js mo cp cn al q3 pa pn) 17 [some (Value.ref (ad 0 0)), some (Value.int g), some (Value.int a), some (Value.int b), some (Value.int (trF ar g a b i)), some (Value.int (nI (i))), z6, z7] [] := by
      intro m
      induction m with
      | zero => intro i z6 z7 h1 h2; omega
      | succ m ih =>
        intro i z6 z7 h1 h2
        refine v_iload dX9_traced_17 rfl ?_
        refine v_aload_n dX9_traced_19 rfl ?_
        refine xg_X9_19 dX9_traced_20 ?_
        refine v_cVi0 hB k_X9_77 (pJx4a65c_size_8abf5 (by omega)) (by decide) ⟨by decide, by decide⟩ rfl rfl (Nat.le_of_ble_eq_true rfl) dX9_traced_23 ?_
        refine v_icmp_ge (tgt := 103) dX9_traced_26 (by decide) (fun h26 => ?_) (fun h26 => ?_)
        · rw [nI_leI (by omega) (by omega)] at h26
          refine v_iload dX9_traced_103 rfl ?_
          exact v_iret hB (by decide) (by decide) dX9_traced_105 ⟨congrArg (fun z => some (Value.int z)) (by unfold v_traced; rw [if_pos hr, hN 4 (by decide) (by decide), cl_nI (by omega), show i = N 4 by omega]), rfl, rfl⟩
        · rw [nI_leI (by omega) (by omega)] at h26
          refine v_aload_n dX9_traced_29 rfl ?_
          refine xg_X9_19 dX9_traced_30 ?_
          refine v_iload dX9_traced_33 rfl ?_
          refine v_cVr1 hB k_X9_113 (pJx4a65c_get_915e3 (by omega) (by omega) (by omega) (by omega)) (by decide) ⟨by decide, by decide⟩ rfl rfl (Nat.le_of_ble_eq_true rfl) dX9_traced_35 ?_
          refine v_cast (ci := 8) rfl cl_X9_120 (xW_X7 (by omega)) dX9_traced_38 ?_
          refine v_astore6 dX9_traced_41 (by decide) ?_
          refine v_aload dX9_traced_43 rfl ?_
          refine xg_X9_137 (by omega) dX9_traced_45 ?_
          refine v_iload_n dX9_traced_48 rfl ?_
          refine v_icmp_ne (tgt := 97) dX9_traced_49 (by decide) (fun h49 => ?_) (fun h49 => ?_)
          · refine v_iinc5 (v := 1) dX9_traced_97 (by decide) (by decide) ?_
            rw [nI_1 i]
            refine v_goto (tgt := 17) dX9_traced_100 (by decide) ?_
            by_cases hc : (ar 19 i = g ∧ (a ≤ ar 23 i ∧ ar 23 i ≤ b) ∧ ¬ chO ar i = -1) ∧ (trF ar g a b i = -2 ∨ chO ar i < trF ar g a b i)
            · have e2 : trF ar g a b (i + 1) = chO ar i := by rw [trF, if_pos hc]
              first
                | exact absurd hc.1.1 h49
                | exact absurd hc.1.2.1 h62
                | exact absurd h76 hc.1.2.2
                | exact (hc.2.elim h83 (i_nlt.mpr h90)).elim
                | (have e := ih (i + 1) (some (Value.ref (ad 10 i))) (some (Value.int (chO ar i))) (by omega) (by omega); rw [e2] at e; exact e)
            · have e2 : trF ar g a b (i + 1) = trF ar g a b i := by rw [trF, if_neg hc]
              first
                | exact (hc (And.intro (And.intro h49 (And.intro h62 h76)) (Or.inl h83))).elim
                | exact (hc (And.intro (And.intro h49 (And.intro h62 h76)) (Or.inr (i_nle.mp h90)))).elim
                | (rw [← e2]; exact ih (i + 1) _ _ (by omega) (by omega))
          · refine v_aload dX9_traced_52 rfl ?_
            refine xg_X9_149 (by omega) dX9_traced_54 ?_
            refine v_iload_n dX9_traced_57 rfl ?_
            refine v_iload_n dX9_traced_58 rfl ?_
            refine v_cSi3 hB k_X9_69 pX9_isFrom (by decide) ⟨by decide, by decide⟩ (Nat.le_of_ble_eq_true rfl) dX9_traced_59 ?_
            refine v_if_eq (tgt := 97) dX9_traced_62 (by decide) (fun h62 => ?_) (fun h62 => ?_)
            · rw [bI_eq] at h62
              refine v_iinc5 (v := 1) dX9_traced_97 (by decide) (by decide) ?_
              rw [nI_1 i]
              refine v_goto (tgt := 17) dX9_traced_100 (by decide) ?_
              by_cases hc : (ar 19 i = g ∧ (a ≤ ar 23 i ∧ ar 23 i ≤ b) ∧ ¬ chO ar i = -1) ∧ (trF ar g a b i = -2 ∨ chO ar i < trF ar g a b i)
              · have e2 : trF ar g a b (i + 1) = chO ar i := by rw [trF, if_pos hc]
                first
                  | exact absurd hc.1.1 h49
                  | exact absurd hc.1.2.1 h62
                  | exact absurd h76 hc.1.2.2
                  | exact (hc.2.elim h83 (i_nlt.mpr h90)).elim
                  | (have e := ih (i + 1) (some (Value.ref (ad 10 i))) (some (Value.int (chO ar i))) (by omega) (by omega); rw [e2] at e; exact e)
              · have e2 : trF ar g a b (i + 1) = trF ar g a b i := by rw [trF, if_neg hc]
                first
                  | exact (hc (And.intro (And.intro h49 (And.intro h62 h76)) (Or.inl h83))).elim
                  | exact (hc (And.intro (And.intro h49 (And.intro h62 h76)) (Or.inr (i_nle.mp h90)))).elim
                  | (rw [← e2]; exact ih (i + 1) _ _ (by omega) (by omega))
            · rw [bI_ne] at h62
              refine v_aload_n dX9_traced_65 rfl ?_
              refine v_aload dX9_traced_66 rfl ?_
              refine v_cVi1 hB k_X9_278 (pX9_chestOf hI hJ (by omega)) (by decide) ⟨by decide, by decide⟩ rfl rfl (Nat.le_of_ble_eq_true rfl) dX9_traced_68 ?_
              refine v_istore7 dX9_traced_71 (by decide) ?_
              refine v_iload dX9_traced_73 rfl ?_
              refine v_iconst_v (v := -1) dX9_traced_75 (by decide) ?_
              refine v_icmp_eq (tgt := 97) dX9_traced_76 (by decide) (fun h76 => ?_) (fun h76 => ?_)
              · refine v_iinc5 (v := 1) dX9_traced_97 (by decide) (by decide) ?_
                rw [nI_1 i]
                refine v_goto (tgt := 17) dX9_traced_100 (by decide) ?_
                by_cases hc : (ar 19 i = g ∧ (a ≤ ar 23 i ∧ ar 23 i ≤ b) ∧ ¬ chO ar i = -1) ∧ (trF ar g a b i = -2 ∨ chO ar i < trF ar g a b i)
                · have e2 : trF ar g a b (i + 1) = chO ar i := by rw [trF, if_pos hc]
                  first
                    | exact absurd hc.1.1 h49
                    | exact absurd hc.1.2.1 h62
                    | exact absurd h76 hc.1.2.2
                    | exact (hc.2.elim h83 (i_nlt.mpr h90)).elim
                    | (have e := ih (i + 1) (some (Value.ref (ad 10 i))) (some (Value.int (chO ar i))) (by omega) (by omega); rw [e2] at e; exact e)
                · have e2 : trF ar g a b (i + 1) = trF ar g a b i := by rw [trF, if_neg hc]
                  first
                    | exact (hc (And.intro (And.intro h49 (And.intro h62 h76)) (Or.inl h83))).elim
                    | exact (hc (And.intro (And.intro h49 (And.intro h62 h76)) (Or.inr (i_nle.mp h90)))).elim
                    | (rw [← e2]; exact ih (i + 1) _ _ (by omega) (by omega))
              · refine v_iload dX9_traced_79 rfl ?_
                refine v_bipush_v (v := -2) dX9_traced_81 (by decide) ?_
                refine v_icmp_eq (tgt := 93) dX9_traced_83 (by decide) (fun h83 => ?_) (fun h83 => ?_)
                · refine v_iload dX9_traced_93 rfl ?_
                  refine v_istore4 dX9_traced_95 (by decide) ?_
                  refine v_iinc5 (v := 1) dX9_traced_97 (by decide) (by decide) ?_
                  rw [nI_1 i]
                  refine v_goto (tgt := 17) dX9_traced_100 (by decide) ?_
                  by_cases hc : (ar 19 i = g ∧ (a ≤ ar 23 i ∧ ar 23 i ≤ b) ∧ ¬ chO ar i = -1) ∧ (trF ar g a b i = -2 ∨ chO ar i < trF ar g a b i)
                  · have e2 : trF ar g a b (i + 1) = chO ar i := by rw [trF, if_pos hc]
                    first
                      | exact absurd hc.1.1 h49
                      | exact absurd hc.1.2.1 h62
                      | exact absurd h76 hc.1.2.2
                      | exact (hc.2.elim h83 (i_nlt.mpr h90)).elim
                      | (have e := ih (i + 1) (some (Value.ref (ad 10 i))) (some (Value.int (chO ar i))) (by omega) (by omega); rw [e2] at e; exact e)
                  · have e2 : trF ar g a b (i + 1) = trF ar g a b i := by rw [trF, if_neg hc]
                    first
                      | exact (hc (And.intro (And.intro h49 (And.intro h62 h76)) (Or.inl h83))).elim
                      | exact (hc (And.intro (And.intro h49 (And.intro h62 h76)) (Or.inr (i_nle.mp h90)))).elim
                      | (rw [← e2]; exact ih (i + 1) _ _ (by omega) (by omega))
                · refine v_iload dX9_traced_86 rfl ?_
                  refine v_iload dX9_traced_88 rfl ?_
                  refine v_icmp_ge (tgt := 97) dX9_traced_90 (by decide) (fun h90 => ?_) (fun h90 => ?_)
                  · refine v_iinc5 (v := 1) dX9_traced_97 (by decide) (by decide) ?_
                    rw [nI_1 i]
                    refine v_goto (tgt := 17) dX9_traced_100 (by decide) ?_
                    by_cases hc : (ar 19 i = g ∧ (a ≤ ar 23 i ∧ ar 23 i ≤ b) ∧ ¬ chO ar i = -1) ∧ (trF ar g a b i = -2 ∨ chO ar i < trF ar g a b i)
                    · have e2 : trF ar g a b (i + 1) = chO ar i := by rw [trF, if_pos hc]
                      first
                        | exact absurd hc.1.1 h49
                        | exact absurd hc.1.2.1 h62
                        | exact absurd h76 hc.1.2.2
                        | exact (hc.2.elim h83 (i_nlt.mpr h90)).elim
                        | (have e := ih (i + 1) (some (Value.ref (ad 10 i))) (some (Value.int (chO ar i))) (by omega) (by omega); rw [e2] at e; exact e)
                    · have e2 : trF ar g a b (i + 1) = trF ar g a b i := by rw [trF, if_neg hc]
                      first
                        | exact (hc (And.intro (And.intro h49 (And.intro h62 h76)) (Or.inl h83))).elim
                        | exact (hc (And.intro (And.intro h49 (And.intro h62 h76)) (Or.inr (i_nle.mp h90)))).elim
                        | (rw [← e2]; exact ih (i + 1) _ _ (by omega) (by omega))
                  · refine v_iload dX9_traced_93 rfl ?_
                    refine v_istore4 dX9_traced_95 (by decide) ?_
                    refine v_iinc5 (v := 1) dX9_traced_97 (by decide) (by decide) ?_
                    rw [nI_1 i]
                    refine v_goto (tgt := 17) dX9_traced_100 (by decide) ?_
                    by_cases hc : (ar 19 i = g ∧ (a ≤ ar 23 i ∧ ar 23 i ≤ b) ∧ ¬ chO ar i = -1) ∧ (trF ar g a b i = -2 ∨ chO ar i < trF ar g a b i)
                    · have e2 : trF ar g a b (i + 1) = chO ar i := by rw [trF, if_pos hc]
                      first
                        | exact absurd hc.1.1 h49
                        | exact absurd hc.1.2.1 h62
                        | exact absurd h76 hc.1.2.2
                        | exact (hc.2.elim h83 (i_nlt.mpr h90)).elim
                        | (have e := ih (i + 1) (some (Value.ref (ad 10 i))) (some (Value.int (chO ar i))) (by omega) (by omega); rw [e2] at e; exact e)
                    · have e2 : trF ar g a b (i + 1) = trF ar g a b i := by rw [trF, if_neg hc]
                      first
                        | exact (hc (And.intro (And.intro h49 (And.intro h62 h76)) (Or.inl h83))).elim
                        | exact (hc (And.intro (And.intro h49 (And.intro h62 h76)) (Or.inr (i_nle.mp h90)))).elim
                        | (rw [← e2]; exact ih (i + 1) _ _ (by omega) (by omega))
    refine v_bipush_v (v := -2) dX9_traced_10 (by decide) ?_
    refine v_istore4 dX9_traced_12 (by decide) ?_
    refine v_iconst_v (v := 0) dX9_traced_14 (by decide) ?_
    refine v_istore5 dX9_traced_15 (by decide) ?_
    exact loop (N 4 + 1) 0 none none (by omega) (by omega)
  · rw [bI_eq] at h5
    refine v_iconst_v (v := -1) dX9_traced_8 (by decide) ?_
    exact v_iret hB (by decide) (by decide) dX9_traced_9 ⟨congrArg (fun z => some (Value.int z)) (by unfold v_traced; rw [if_neg (fun z => h5 (by rw [c1, ← hN 3 (by decide) (by decide)]; exact z))]), rfl, rfl⟩

