theorem dryF_0 (rn : Nat → Int32) (k d : Nat) : dryF rn k 0 d = d := by cases k <;> simp [dryF]
theorem dryF_s (rn : Nat → Int32) {k nd d : Nat} (h : ¬ nd = 0) : dryF rn (k + 1) nd d = dryF rn k (if d + 1 ≤ 3000 ∧ rn (d + 1) = 0 then nd - 1 else nd) (d + 1) := by rw [dryF, if_neg h]
theorem n_le0 {n : Nat} (h : n < 2 ^ 31) : nI n ≤ 0 ↔ n = 0 := by
  rw [show (0 : Int32) = nI 0 by decide, nI_leI h (by decide)]; omega
theorem n_ltI {a b : Nat} (ha : a < 2 ^ 31) (hb : b < 2 ^ 31) : nI a < nI b ↔ a < b := nI_ltI ha hb
theorem n_ge0 {n : Nat} (h : n < 2 ^ 31) : 0 ≤ nI n := nI_pos' h
theorem n_fit {n N : Nat} (h : n < N) (hN : N < 2 ^ 31) : 0 ≤ nI n ∧ nI n < nI N := ⟨nI_pos' (by omega), nI_lt h hN⟩
set_option maxHeartbeats 4000000 in
set_option maxRecDepth 100000 in
theorem cM_dry {l : Launch} {D : va_G} {cy : Nat → ClassId} {s0 : State} {ad : zA} {N : Nat → Nat} {sc : Nat → Int32} {ar : Nat → Nat → Int32} {n : Nat}  (hI : MI N sc ar) (hn : n < N 4) : zM l D cy s0 yX10_dry cX10_dry 4 (some .int) 1 0 0 [.ref (ad 30 0), .int (nI n)] ad (mW cy ad sc ar) (zPi (nI (dryD ar n)) ad (mW cy ad sc ar)) := by
  refine zM_of (own := RX10) rfl (by decide) (by simp [Value.category]) (Nat.le_of_ble_eq_true rfl) ?_
  intro X hB
  show V X RX10 cX10_dry 4 (some .int) 0 0 ad (mW cy ad sc ar) 0 [some (.ref (ad 30 0)), some (.int (nI n)), none, none] []
  obtain ⟨⟨hN, b2, b3, b4, b5, b6, b7, b8, b9, b10⟩, hS, hQ, hBl, hCh, hZ⟩ := id hI
  obtain ⟨-, -, -, ⟨wd, hw1, hw2, hw⟩, -, ⟨d0, hd1, hd⟩, -⟩ := hS n hn
  have loop : ∀ (m : Nat) (k nd d : Nat), d + k = 3001 → k < m → nd ≤ 11 → dryF (ar 17) k nd d = dryD ar n → V X RX10 cX10_dry 4 (some .int) 0 0 ad (mW cy ad sc ar) 16 [some (.ref (ad 30 0)), some (.int (nI n)), some (.int (nI nd)), some (.int (nI d))] [] := by
    intro m
    induction m with
    | zero => intro k nd d h1 h2 h3 h4; omega
    | succ m ih =>
      intro k nd d h1 h2 h3 h4
      refine v_iload_n dX10_dry_16 rfl ?_
      refine v_if_le (tgt := 57) dX10_dry_17 (by decide) (fun h17 => ?_) (fun h17 => ?_)
      · rw [n_le0 (by omega)] at h17
        refine v_iload_n dX10_dry_57 rfl ?_
        exact v_iret hB (by decide) (by decide) dX10_dry_58 ⟨by rw [← h4]; first | (rw [h17, dryF_0]) | (rw [show k = 0 by omega]; rfl), rfl, rfl⟩
      · rw [n_le0 (by omega)] at h17
        refine v_iload_n dX10_dry_20 rfl ?_
        refine v_sipush_v (v := 3000) dX10_dry_21 (by decide) ?_
        refine v_icmp_gt (tgt := 57) dX10_dry_24 (by decide) (fun h24 => ?_) (fun h24 => ?_)
        · have h24 := (n_ltI (a := 3000) (b := d) (by decide) (by omega)).mp h24
          refine v_iload_n dX10_dry_57 rfl ?_
          exact v_iret hB (by decide) (by decide) dX10_dry_58 ⟨by rw [← h4]; first | (rw [h17, dryF_0]) | (rw [show k = 0 by omega]; rfl), rfl, rfl⟩
        · have h24 : ¬ 3000 < d := fun z => h24 ((n_ltI (a := 3000) (b := d) (by decide) (by omega)).mpr z)
          refine v_iinc3 (v := 1) dX10_dry_27 (by decide) (by decide) ?_
          rw [nI_1]
          obtain ⟨k, rfl⟩ : ∃ k2, k = k2 + 1 := ⟨k - 1, by omega⟩
          refine v_iload_n dX10_dry_30 rfl ?_
          refine v_iload_n dX10_dry_31 rfl ?_
          refine v_sipush_v (v := 3000) dX10_dry_32 (by decide) ?_
          refine v_icmp_gt (tgt := 51) dX10_dry_35 (by decide) (fun h35 => ?_) (fun h35 => ?_)
          · have h35 := (n_ltI (a := 3000) (b := d + 1) (by decide) (by omega)).mp h35
            refine v_iconst_v (v := 0) dX10_dry_51 (by decide) ?_
            refine v_isub dX10_dry_52 ?_
            first | refine v_eq (pk_sub (a := nd) (b := 1) (by omega)) ?_ | refine v_eq (pk_sub (a := nd) (b := 0) (by omega)) ?_
            refine v_istore_n2 dX10_dry_53 (by decide) ?_
            refine v_goto (tgt := 16) dX10_dry_54 (by decide) ?_
            refine ih k _ _ (by omega) (by omega) (by omega) ?_
            rw [← h4, dryF_s _ h17]
            first | (rw [if_pos (And.intro (show d + 1 ≤ 3000 by omega) h44)]; done) | (rw [if_neg (fun z : d + 1 ≤ 3000 ∧ ar 17 (d + 1) = 0 => absurd z.2 h44)]; rfl) | (rw [if_neg (fun z : d + 1 ≤ 3000 ∧ ar 17 (d + 1) = 0 => absurd z.1 (by omega))]; rfl)
          · have h35 : ¬ 3000 < d + 1 := fun z => h35 ((n_ltI (a := 3000) (b := d + 1) (by decide) (by omega)).mpr z)
            refine v_aload_n dX10_dry_38 rfl ?_
            refine mg41 dX10_dry_39 ?_
            refine v_iload_n dX10_dry_42 rfl ?_
            refine m_lzN 17 (L := 3001) hB.cy ⟨rfl, rfl, rfl⟩ rfl (by omega) (by decide) dX10_dry_43 ?_
            refine v_if_ne (tgt := 51) dX10_dry_44 (by decide) (fun h44 => ?_) (fun h44 => ?_)
            · refine v_iconst_v (v := 0) dX10_dry_51 (by decide) ?_
              refine v_isub dX10_dry_52 ?_
              first | refine v_eq (pk_sub (a := nd) (b := 1) (by omega)) ?_ | refine v_eq (pk_sub (a := nd) (b := 0) (by omega)) ?_
              refine v_istore_n2 dX10_dry_53 (by decide) ?_
              refine v_goto (tgt := 16) dX10_dry_54 (by decide) ?_
              refine ih k _ _ (by omega) (by omega) (by omega) ?_
              rw [← h4, dryF_s _ h17]
              first | (rw [if_pos (And.intro (show d + 1 ≤ 3000 by omega) h44)]; done) | (rw [if_neg (fun z : d + 1 ≤ 3000 ∧ ar 17 (d + 1) = 0 => absurd z.2 h44)]; rfl) | (rw [if_neg (fun z : d + 1 ≤ 3000 ∧ ar 17 (d + 1) = 0 => absurd z.1 (by omega))]; rfl)
            · refine v_iconst_v (v := 1) dX10_dry_47 (by decide) ?_
              refine v_goto (tgt := 52) dX10_dry_48 (by decide) ?_
              refine v_isub dX10_dry_52 ?_
              first | refine v_eq (pk_sub (a := nd) (b := 1) (by omega)) ?_ | refine v_eq (pk_sub (a := nd) (b := 0) (by omega)) ?_
              refine v_istore_n2 dX10_dry_53 (by decide) ?_
              refine v_goto (tgt := 16) dX10_dry_54 (by decide) ?_
              refine ih k _ _ (by omega) (by omega) (by omega) ?_
              rw [← h4, dryF_s _ h17]
              first | (rw [if_pos (And.intro (show d + 1 ≤ 3000 by omega) h44)]; done) | (rw [if_neg (fun z : d + 1 ≤ 3000 ∧ ar 17 (d + 1) = 0 => absurd z.2 h44)]; rfl) | (rw [if_neg (fun z : d + 1 ≤ 3000 ∧ ar 17 (d + 1) = 0 => absurd z.1 (by omega))]; rfl)
  refine v_aload_n dX10_dry_0 rfl ?_
  refine mg54 dX10_dry_1 ?_
  refine v_iload_n dX10_dry_4 rfl ?_
  refine m_ldN 21 (L := 200) hB.cy ⟨rfl, rfl, rfl⟩ rfl (by omega) (by decide) dX10_dry_5 ?_
  refine v_iconst_v (v := 2) dX10_dry_6 (by decide) ?_
  refine v_iadd dX10_dry_7 ?_
  refine v_eq (show ar 21 n + 2 = nI (wd + 2) from by rw [hw]; exact nI_add wd 2) ?_
  refine v_istore_n2 dX10_dry_8 (by decide) ?_
  refine v_aload_n dX10_dry_9 rfl ?_
  refine mg60 dX10_dry_10 ?_
  refine v_iload_n dX10_dry_13 rfl ?_
  refine m_ldN 23 (L := 200) hB.cy ⟨rfl, rfl, rfl⟩ rfl (by omega) (by decide) dX10_dry_14 ?_
  refine v_eq hd ?_
  refine v_istore_n3 dX10_dry_15 (by decide) ?_
  exact loop 3002 (3001 - d0) (wd + 2) d0 (by omega) (by omega) (by omega) (by unfold dryD; rw [hw, hd, cl_nI (by omega), cl_nI (by omega)])

theorem mayB_t {sc : Nat → Int32} {ar : Nat → Nat → Int32} {f : Int32} {i : Nat} : mayB sc ar f i = true ↔ ar 18 i = f ∧ ar 24 i = -2 ∧ dryD ar i ≤ cl (sc 8) := by unfold mayB; exact decide_eq_true_iff
theorem dryD_le {N : Nat → Nat} {sc : Nat → Int32} {ar : Nat → Nat → Int32} (hI : MI N sc ar) {i : Nat} (hi : i < N 4) : dryD ar i ≤ 3001 := by
  obtain ⟨⟨hN, b2, b3, b4, b5, b6, b7, b8, b9, b10⟩, hS, -⟩ := hI
  obtain ⟨-, -, -, -, -, ⟨d0, hd1, hd⟩, -⟩ := hS i hi
  unfold dryD
  rw [hd, cl_nI (by omega)]
  have := (dryF_le (ar 17) (3001 - d0) (cl (ar 21 i) + 2) d0).2
  omega
set_option maxHeartbeats 4000000 in
set_option maxRecDepth 100000 in
theorem cM_mayBe {l : Launch} {D : va_G} {cy : Nat → ClassId} {s0 : State} {ad : zA} {N : Nat → Nat} {sc : Nat → Int32} {ar : Nat → Nat → Int32} {f : Int32} {n : Nat}  (hI : MI N sc ar) (hn : n < N 4) : zM l D cy s0 yX10_mayBe cX10_mayBe 3 (some .boolean) 2 0 0 [.ref (ad 30 0), .int f, .int (nI n)] ad (mW cy ad sc ar) (zPi (bI (mayB sc ar f n = true)) ad (mW cy ad sc ar)) := by
  refine zM_of (own := RX10) rfl (by decide) (by simp [Value.category]) (Nat.le_of_ble_eq_true rfl) ?_
  intro X hB
  show V X RX10 cX10_mayBe 3 (some .boolean) 0 0 ad (mW cy ad sc ar) 0 [some (.ref (ad 30 0)), some (.int f), some (.int (nI n))] []
  obtain ⟨⟨hN, b2, b3, b4, b5, b6, b7, b8, b9, b10⟩, hS, hQ, hBl, hCh, hZ⟩ := id hI
  have hdl := dryD_le hI hn
  refine v_aload_n dX10_mayBe_0 rfl ?_
  refine mg45 dX10_mayBe_1 ?_
  refine v_iload_n dX10_mayBe_4 rfl ?_
  refine m_ldN 18 (L := 200) hB.cy ⟨rfl, rfl, rfl⟩ rfl (by omega) (by decide) dX10_mayBe_5 ?_
  refine v_iload_n dX10_mayBe_6 rfl ?_
  refine v_icmp_ne (tgt := 37) dX10_mayBe_7 (by decide) (fun h7 => ?_) (fun h7 => ?_)
  · refine v_iconst_v (v := 0) dX10_mayBe_37 (by decide) ?_
    exact v_zret hB (by decide) (by decide) dX10_mayBe_38 rfl ⟨congrArg (fun z => some (Value.int z)) ((bI_f (fun z => by obtain ⟨z1, z2, z3⟩ := mayB_t.mp z; rw [hN 8 (by decide) (by decide), cl_nI (by omega)] at z3; first | exact h7 z1 | exact h18 z2 | omega)).symm), rfl, rfl⟩
  · refine v_aload_n dX10_mayBe_10 rfl ?_
    refine mg63 dX10_mayBe_11 ?_
    refine v_iload_n dX10_mayBe_14 rfl ?_
    refine m_ldN 24 (L := 200) hB.cy ⟨rfl, rfl, rfl⟩ rfl (by omega) (by decide) dX10_mayBe_15 ?_
    refine v_bipush_v (v := -2) dX10_mayBe_16 (by decide) ?_
    refine v_icmp_ne (tgt := 37) dX10_mayBe_18 (by decide) (fun h18 => ?_) (fun h18 => ?_)
    · refine v_iconst_v (v := 0) dX10_mayBe_37 (by decide) ?_
      exact v_zret hB (by decide) (by decide) dX10_mayBe_38 rfl ⟨congrArg (fun z => some (Value.int z)) ((bI_f (fun z => by obtain ⟨z1, z2, z3⟩ := mayB_t.mp z; rw [hN 8 (by decide) (by decide), cl_nI (by omega)] at z3; first | exact h7 z1 | exact h18 z2 | omega)).symm), rfl, rfl⟩
    · refine v_aload_n dX10_mayBe_21 rfl ?_
      refine v_iload_n dX10_mayBe_22 rfl ?_
      refine v_cVi1 hB k_X10_160 (cM_dry hI (by omega)) (by decide) ⟨by decide, by decide⟩ rfl rfl (Nat.le_of_ble_eq_true rfl) dX10_mayBe_23 ?_
      refine v_aload_n dX10_mayBe_26 rfl ?_
      refine mg154 dX10_mayBe_27 ?_
      refine v_icmp_gt (tgt := 37) dX10_mayBe_30 (by decide) (fun h30 => ?_) (fun h30 => ?_)
      · rw [hN 8 (by decide) (by decide), n_ltI (by omega) (by omega)] at h30
        refine v_iconst_v (v := 0) dX10_mayBe_37 (by decide) ?_
        exact v_zret hB (by decide) (by decide) dX10_mayBe_38 rfl ⟨congrArg (fun z => some (Value.int z)) ((bI_f (fun z => by obtain ⟨z1, z2, z3⟩ := mayB_t.mp z; rw [hN 8 (by decide) (by decide), cl_nI (by omega)] at z3; first | exact h7 z1 | exact h18 z2 | omega)).symm), rfl, rfl⟩
      · rw [hN 8 (by decide) (by decide), n_ltI (by omega) (by omega)] at h30
        refine v_iconst_v (v := 1) dX10_mayBe_33 (by decide) ?_
        refine v_goto (tgt := 38) dX10_mayBe_34 (by decide) ?_
        exact v_zret hB (by decide) (by decide) dX10_mayBe_38 rfl ⟨congrArg (fun z => some (Value.int z)) ((bI_t (mayB_t.mpr ⟨h7, h18, by rw [hN 8 (by decide) (by decide), cl_nI (by omega)]; omega⟩)).symm), rfl, rfl⟩

set_option maxHeartbeats 4000000 in
set_option maxRecDepth 100000 in
theorem cM_strip {l : Launch} {D : va_G} {cy : Nat → ClassId} {s0 : State} {ad : zA} {N : Nat → Nat} {sc : Nat → Int32} {ar : Nat → Nat → Int32} {i b : Int32}  (hI : MI N (upd sc 0 0) ar) : zM l D cy s0 yX10_strip cX10_strip 3 (some .int) 4 0 0 [.ref (ad 30 0), .int i, .int b] ad (mW cy ad sc ar) (zPi (v_strip i b (upd sc 0 0) ar) ad (mW cy ad (upd sc 0 0) ar)) := by
  refine zM_of (own := RX10) rfl (by decide) (by simp [Value.category]) (Nat.le_of_ble_eq_true rfl) ?_
  intro X hB
  show V X RX10 cX10_strip 3 (some .int) 0 0 ad (mW cy ad sc ar) 0 [some (.ref (ad 30 0)), some (.int i), some (.int b)] []
  refine v_aload_n dX10_strip_0 rfl ?_
  refine v_iconst_v (v := 0) dX10_strip_1 (by decide) ?_
  refine mp1 dX10_strip_2 ?_
  generalize upd sc 0 0 = sc at hI hB ⊢
  obtain ⟨⟨hN, b2, b3, b4, b5, b6, b7, b8, b9, b10⟩, hS, hQ, hBl, hCh, hZ⟩ := id hI
  refine v_aload_n dX10_strip_5 rfl ?_
  refine v_iload_n dX10_strip_6 rfl ?_
  refine v_cVi1 hB k_X10_163 cM_isStrip (by decide) ⟨by decide, by decide⟩ rfl rfl (Nat.le_of_ble_eq_true rfl) dX10_strip_7 ?_
  refine v_if_ne (tgt := 15) dX10_strip_10 (by decide) (fun h10 => ?_) (fun h10 => ?_)
  · rw [bI_ne] at h10
    obtain ⟨n, hn, rfl⟩ := i_ix (by rw [hN 4 (by decide) (by decide)] at h10; exact h10) (by omega)
    have hdl := dryD_le hI hn
    refine v_iload_n dX10_strip_15 rfl ?_
    rcases sw8 b with hsw | rfl | rfl | rfl | rfl | rfl | rfl | rfl | rfl
    · refine v_tableOut (tgt := 131) dX10_strip_16 hsw (by decide) ?_
      refine v_iconst_v (v := -1) dX10_strip_131 (by decide) ?_
      exact v_iret hB (by decide) (by decide) dX10_strip_132 ⟨congrArg (fun z => some (Value.int z)) (by obtain ⟨e0, e1, e2, e3, e4, e5, e6, e7⟩ := swo8 hsw; unfold v_strip; rw [if_pos h10, if_neg e0, if_neg e1, if_neg e2, if_neg e3, if_neg e4, if_neg e5, if_neg e6, if_neg e7]), rfl, rfl⟩
    · refine v_tableIn (tgt := 64) dX10_strip_16 (by decide) (by decide) rfl (by decide) ?_
      refine v_aload_n dX10_strip_64 rfl ?_
      refine mg45 dX10_strip_65 ?_
      refine v_iload_n dX10_strip_68 rfl ?_
      refine m_ldN 18 (L := 200) hB.cy ⟨rfl, rfl, rfl⟩ rfl (by omega) (by decide) dX10_strip_69 ?_
      exact v_iret hB (by decide) (by decide) dX10_strip_70 ⟨congrArg (fun z => some (Value.int z)) (by unfold v_strip; rw [if_pos h10, cl_nI (by omega)]; rfl), rfl, rfl⟩
    · refine v_tableIn (tgt := 71) dX10_strip_16 (by decide) (by decide) rfl (by decide) ?_
      refine v_aload_n dX10_strip_71 rfl ?_
      refine mg48 dX10_strip_72 ?_
      refine v_iload_n dX10_strip_75 rfl ?_
      refine m_ldN 19 (L := 200) hB.cy ⟨rfl, rfl, rfl⟩ rfl (by omega) (by decide) dX10_strip_76 ?_
      exact v_iret hB (by decide) (by decide) dX10_strip_77 ⟨congrArg (fun z => some (Value.int z)) (by unfold v_strip; rw [if_pos h10, cl_nI (by omega)]; rfl), rfl, rfl⟩
    · refine v_tableIn (tgt := 78) dX10_strip_16 (by decide) (by decide) rfl (by decide) ?_
      refine v_aload_n dX10_strip_78 rfl ?_
      refine mg51 dX10_strip_79 ?_
      refine v_iload_n dX10_strip_82 rfl ?_
      refine m_ldN 20 (L := 200) hB.cy ⟨rfl, rfl, rfl⟩ rfl (by omega) (by decide) dX10_strip_83 ?_
      exact v_iret hB (by decide) (by decide) dX10_strip_84 ⟨congrArg (fun z => some (Value.int z)) (by unfold v_strip; rw [if_pos h10, cl_nI (by omega)]; rfl), rfl, rfl⟩
    · refine v_tableIn (tgt := 85) dX10_strip_16 (by decide) (by decide) rfl (by decide) ?_
      refine v_aload_n dX10_strip_85 rfl ?_
      refine mg54 dX10_strip_86 ?_
      refine v_iload_n dX10_strip_89 rfl ?_
      refine m_ldN 21 (L := 200) hB.cy ⟨rfl, rfl, rfl⟩ rfl (by omega) (by decide) dX10_strip_90 ?_
      exact v_iret hB (by decide) (by decide) dX10_strip_91 ⟨congrArg (fun z => some (Value.int z)) (by unfold v_strip; rw [if_pos h10, cl_nI (by omega)]; rfl), rfl, rfl⟩
    · refine v_tableIn (tgt := 92) dX10_strip_16 (by decide) (by decide) rfl (by decide) ?_
      refine v_aload_n dX10_strip_92 rfl ?_
      refine mg57 dX10_strip_93 ?_
      refine v_iload_n dX10_strip_96 rfl ?_
      refine m_ldN 22 (L := 200) hB.cy ⟨rfl, rfl, rfl⟩ rfl (by omega) (by decide) dX10_strip_97 ?_
      exact v_iret hB (by decide) (by decide) dX10_strip_98 ⟨congrArg (fun z => some (Value.int z)) (by unfold v_strip; rw [if_pos h10, cl_nI (by omega)]; rfl), rfl, rfl⟩
    · refine v_tableIn (tgt := 99) dX10_strip_16 (by decide) (by decide) rfl (by decide) ?_
      refine v_aload_n dX10_strip_99 rfl ?_
      refine mg60 dX10_strip_100 ?_
      refine v_iload_n dX10_strip_103 rfl ?_
      refine m_ldN 23 (L := 200) hB.cy ⟨rfl, rfl, rfl⟩ rfl (by omega) (by decide) dX10_strip_104 ?_
      exact v_iret hB (by decide) (by decide) dX10_strip_105 ⟨congrArg (fun z => some (Value.int z)) (by unfold v_strip; rw [if_pos h10, cl_nI (by omega)]; rfl), rfl, rfl⟩
    · refine v_tableIn (tgt := 106) dX10_strip_16 (by decide) (by decide) rfl (by decide) ?_
      refine v_aload_n dX10_strip_106 rfl ?_
      refine v_iload_n dX10_strip_107 rfl ?_
      refine v_cVi1 hB k_X10_160 (cM_dry hI (by omega)) (by decide) ⟨by decide, by decide⟩ rfl rfl (Nat.le_of_ble_eq_true rfl) dX10_strip_108 ?_
      refine v_aload_n dX10_strip_111 rfl ?_
      refine mg154 dX10_strip_112 ?_
      refine v_icmp_gt (tgt := 122) dX10_strip_115 (by decide) (fun h115 => ?_) (fun h115 => ?_)
      · rw [hN 8 (by decide) (by decide), n_ltI (by omega) (by omega)] at h115
        refine v_iconst_v (v := 0) dX10_strip_122 (by decide) ?_
        exact v_iret hB (by decide) (by decide) dX10_strip_123 ⟨congrArg (fun z => some (Value.int z)) (by unfold v_strip; rw [if_pos h10, cl_nI (by omega)]; exact (bI_f (by rw [hN 8 (by decide) (by decide), cl_nI (by omega)]; omega)).symm), rfl, rfl⟩
      · rw [hN 8 (by decide) (by decide), n_ltI (by omega) (by omega)] at h115
        refine v_iconst_v (v := 1) dX10_strip_118 (by decide) ?_
        refine v_goto (tgt := 123) dX10_strip_119 (by decide) ?_
        exact v_iret hB (by decide) (by decide) dX10_strip_123 ⟨congrArg (fun z => some (Value.int z)) (by unfold v_strip; rw [if_pos h10, cl_nI (by omega)]; exact (bI_t (by rw [hN 8 (by decide) (by decide), cl_nI (by omega)]; omega)).symm), rfl, rfl⟩
    · refine v_tableIn (tgt := 124) dX10_strip_16 (by decide) (by decide) rfl (by decide) ?_
      refine v_aload_n dX10_strip_124 rfl ?_
      refine mg63 dX10_strip_125 ?_
      refine v_iload_n dX10_strip_128 rfl ?_
      refine m_ldN 24 (L := 200) hB.cy ⟨rfl, rfl, rfl⟩ rfl (by omega) (by decide) dX10_strip_129 ?_
      exact v_iret hB (by decide) (by decide) dX10_strip_130 ⟨congrArg (fun z => some (Value.int z)) (by unfold v_strip; rw [if_pos h10, cl_nI (by omega)]; rfl), rfl, rfl⟩
  · rw [bI_eq] at h10
    refine v_iconst_v (v := -1) dX10_strip_13 (by decide) ?_
    exact v_iret hB (by decide) (by decide) dX10_strip_14 ⟨congrArg (fun z => some (Value.int z)) (by unfold v_strip; rw [if_neg h10]), rfl, rfl⟩

set_option maxHeartbeats 4000000 in
set_option maxRecDepth 100000 in
theorem cM_dryOn {l : Launch} {D : va_G} {cy : Nat → ClassId} {s0 : State} {ad : zA} {N : Nat → Nat} {sc : Nat → Int32} {ar : Nat → Nat → Int32} {i : Int32}  (hI : MI N (upd sc 0 0) ar) : zM l D cy s0 yX10_dryOn cX10_dryOn 3 (some .int) 4 0 0 [.ref (ad 30 0), .int i] ad (mW cy ad sc ar) (zPi (v_dryOn i (upd sc 0 0) ar) ad (mW cy ad (upd sc 0 0) ar)) := by
  refine zM_of (own := RX10) rfl (by decide) (by simp [Value.category]) (Nat.le_of_ble_eq_true rfl) ?_
  intro X hB
  show V X RX10 cX10_dryOn 3 (some .int) 0 0 ad (mW cy ad sc ar) 0 [some (.ref (ad 30 0)), some (.int i), none] []
  refine v_aload_n dX10_dryOn_0 rfl ?_
  refine v_iconst_v (v := 0) dX10_dryOn_1 (by decide) ?_
  refine mp1 dX10_dryOn_2 ?_
  generalize upd sc 0 0 = sc at hI hB ⊢
  obtain ⟨⟨hN, b2, b3, b4, b5, b6, b7, b8, b9, b10⟩, hS, hQ, hBl, hCh, hZ⟩ := id hI
  refine v_aload_n dX10_dryOn_5 rfl ?_
  refine v_iload_n dX10_dryOn_6 rfl ?_
  refine v_cVi1 hB k_X10_163 cM_isStrip (by decide) ⟨by decide, by decide⟩ rfl rfl (Nat.le_of_ble_eq_true rfl) dX10_dryOn_7 ?_
  refine v_if_ne (tgt := 15) dX10_dryOn_10 (by decide) (fun h10 => ?_) (fun h10 => ?_)
  · rw [bI_ne] at h10
    obtain ⟨n, hn, rfl⟩ := i_ix (by rw [hN 4 (by decide) (by decide)] at h10; exact h10) (by omega)
    have hdl := dryD_le hI hn
    refine v_aload_n dX10_dryOn_15 rfl ?_
    refine v_iload_n dX10_dryOn_16 rfl ?_
    refine v_cVi1 hB k_X10_160 (cM_dry hI (by omega)) (by decide) ⟨by decide, by decide⟩ rfl rfl (Nat.le_of_ble_eq_true rfl) dX10_dryOn_17 ?_
    refine v_istore_n2 dX10_dryOn_20 (by decide) ?_
    refine v_iload_n dX10_dryOn_21 rfl ?_
    refine v_sipush_v (v := 3000) dX10_dryOn_22 (by decide) ?_
    refine v_icmp_le (tgt := 33) dX10_dryOn_25 (by decide) (fun h25 => ?_) (fun h25 => ?_)
    · have h25 := (nI_leI (a := dryD ar n) (b := 3000) (by omega) (by decide)).mp h25
      refine v_iload_n dX10_dryOn_33 rfl ?_
      exact v_iret hB (by decide) (by decide) dX10_dryOn_34 ⟨congrArg (fun z => some (Value.int z)) (by unfold v_dryOn; rw [if_pos h10, cl_nI (by omega)]; first | rw [if_pos h25] | rw [if_neg h25]), rfl, rfl⟩
    · have h25 : ¬ dryD ar n ≤ 3000 := fun z => h25 ((nI_leI (a := dryD ar n) (b := 3000) (by omega) (by decide)).mpr z)
      refine v_bipush_v (v := -2) dX10_dryOn_28 (by decide) ?_
      refine v_goto (tgt := 34) dX10_dryOn_30 (by decide) ?_
      exact v_iret hB (by decide) (by decide) dX10_dryOn_34 ⟨congrArg (fun z => some (Value.int z)) (by unfold v_dryOn; rw [if_pos h10, cl_nI (by omega)]; first | rw [if_pos h25] | rw [if_neg h25]), rfl, rfl⟩
  · rw [bI_eq] at h10
    refine v_iconst_v (v := -1) dX10_dryOn_13 (by decide) ?_
    exact v_iret hB (by decide) (by decide) dX10_dryOn_14 ⟨congrArg (fun z => some (Value.int z)) (by unfold v_dryOn; rw [if_neg h10]), rfl, rfl⟩

set_option maxHeartbeats 4000000 in
set_option maxRecDepth 100000 in
theorem cM_ready {l : Launch} {D : va_G} {cy : Nat → ClassId} {s0 : State} {ad : zA} {N : Nat → Nat} {sc : Nat → Int32} {ar : Nat → Nat → Int32} {f : Int32}  (hI : MI N (upd sc 0 0) ar) : zM l D cy s0 yX10_ready cX10_ready 4 (some .int) 4 0 0 [.ref (ad 30 0), .int f] ad (mW cy ad sc ar) (zPi (v_ready f (upd sc 0 0) ar) ad (mW cy ad (upd sc 0 0) ar)) := by
  refine zM_of (own := RX10) rfl (by decide) (by simp [Value.category]) (Nat.le_of_ble_eq_true rfl) ?_
  intro X hB
  show V X RX10 cX10_ready 4 (some .int) 0 0 ad (mW cy ad sc ar) 0 [some (.ref (ad 30 0)), some (.int f), none, none] []
  refine v_aload_n dX10_ready_0 rfl ?_
  refine v_iconst_v (v := 0) dX10_ready_1 (by decide) ?_
  refine mp1 dX10_ready_2 ?_
  generalize upd sc 0 0 = sc at hI hB ⊢
  obtain ⟨⟨hN, b2, b3, b4, b5, b6, b7, b8, b9, b10⟩, hS, hQ, hBl, hCh, hZ⟩ := id hI
  refine v_aload_n dX10_ready_5 rfl ?_
  refine v_iload_n dX10_ready_6 rfl ?_
  refine v_cVi1 hB k_X10_143 cM_isFamily (by decide) ⟨by decide, by decide⟩ rfl rfl (Nat.le_of_ble_eq_true rfl) dX10_ready_7 ?_
  refine v_if_ne (tgt := 15) dX10_ready_10 (by decide) (fun h10 => ?_) (fun h10 => ?_)
  · rw [bI_ne] at h10
    have loop : ∀ (m : Nat) (i : Nat), N 4 < i + m → i ≤ N 4 → V X RX10 cX10_ready 4 (some .int) 0 0 ad (mW cy ad sc ar) 19 [some (.ref (ad 30 0)), some (.int f), some (.int (nI (ctN (mayB sc ar f) i))), some (.int (nI i))] [] := by
      intro m
      induction m with
      | zero => intro i h1 h2; omega
      | succ m ih =>
        intro i h1 h2
        refine v_iload_n dX10_ready_19 rfl ?_
        refine v_aload_n dX10_ready_20 rfl ?_
        refine mg129 dX10_ready_21 ?_
        refine v_icmp_ge (tgt := 50) dX10_ready_24 (by decide) (fun h24 => ?_) (fun h24 => ?_)
        · rw [hN 4 (by decide) (by decide), nI_leI (by omega) (by omega)] at h24
          refine v_iload_n dX10_ready_50 rfl ?_
          exact v_iret hB (by decide) (by decide) dX10_ready_51 ⟨congrArg (fun z => some (Value.int z)) (by unfold v_ready; rw [if_pos h10, hN 4 (by decide) (by decide), cl_nI (by omega), show i = N 4 by omega]), rfl, rfl⟩
        · rw [hN 4 (by decide) (by decide), nI_leI (by omega) (by omega)] at h24
          refine v_iload_n dX10_ready_27 rfl ?_
          refine v_aload_n dX10_ready_28 rfl ?_
          refine v_iload_n dX10_ready_29 rfl ?_
          refine v_iload_n dX10_ready_30 rfl ?_
          refine v_cVi2 hB k_X10_166 (cM_mayBe hI (by omega)) (by decide) ⟨by decide, by decide⟩ rfl rfl (Nat.le_of_ble_eq_true rfl) dX10_ready_31 ?_
          refine v_if_eq (tgt := 41) dX10_ready_34 (by decide) (fun h34 => ?_) (fun h34 => ?_)
          · rw [bI_eq] at h34
            refine v_iconst_v (v := 0) dX10_ready_41 (by decide) ?_
            refine v_iadd dX10_ready_42 ?_
            have hct := ctN_le (mayB sc ar f) i
            first | refine v_eq (show nI (ctN (mayB sc ar f) i) + 1 = nI (ctN (mayB sc ar f) (i + 1)) from by rw [ctN, if_pos h34]; exact nI_add _ 1) ?_ | refine v_eq (show nI (ctN (mayB sc ar f) i) + 0 = nI (ctN (mayB sc ar f) (i + 1)) from by rw [ctN, if_neg h34]; exact Int32.add_zero _) ?_
            refine v_istore_n2 dX10_ready_43 (by decide) ?_
            refine v_iinc3 (v := 1) dX10_ready_44 (by decide) (by decide) ?_
            rw [nI_1]
            refine v_goto (tgt := 19) dX10_ready_47 (by decide) ?_
            exact ih (i + 1) (by omega) (by omega)
          · rw [bI_ne] at h34
            refine v_iconst_v (v := 1) dX10_ready_37 (by decide) ?_
            refine v_goto (tgt := 42) dX10_ready_38 (by decide) ?_
            refine v_iadd dX10_ready_42 ?_
            have hct := ctN_le (mayB sc ar f) i
            first | refine v_eq (show nI (ctN (mayB sc ar f) i) + 1 = nI (ctN (mayB sc ar f) (i + 1)) from by rw [ctN, if_pos h34]; exact nI_add _ 1) ?_ | refine v_eq (show nI (ctN (mayB sc ar f) i) + 0 = nI (ctN (mayB sc ar f) (i + 1)) from by rw [ctN, if_neg h34]; exact Int32.add_zero _) ?_
            refine v_istore_n2 dX10_ready_43 (by decide) ?_
            refine v_iinc3 (v := 1) dX10_ready_44 (by decide) (by decide) ?_
            rw [nI_1]
            refine v_goto (tgt := 19) dX10_ready_47 (by decide) ?_
            exact ih (i + 1) (by omega) (by omega)
    refine v_iconst_v (v := 0) dX10_ready_15 (by decide) ?_
    refine v_istore_n2 dX10_ready_16 (by decide) ?_
    refine v_iconst_v (v := 0) dX10_ready_17 (by decide) ?_
    refine v_istore_n3 dX10_ready_18 (by decide) ?_
    exact loop (N 4 + 1) 0 (by omega) (by omega)
  · rw [bI_eq] at h10
    refine v_iconst_v (v := -1) dX10_ready_13 (by decide) ?_
    exact v_iret hB (by decide) (by decide) dX10_ready_14 ⟨congrArg (fun z => some (Value.int z)) (by unfold v_ready; rw [if_neg h10]), rfl, rfl⟩

set_option maxHeartbeats 4000000 in
set_option maxRecDepth 100000 in
theorem cM_count {l : Launch} {D : va_G} {cy : Nat → ClassId} {s0 : State} {ad : zA} {N : Nat → Nat} {sc : Nat → Int32} {ar : Nat → Nat → Int32} {b : Int32}  (hI : MI N (upd sc 0 0) ar) : zM l D cy s0 yX10_count cX10_count 2 (some .int) 4 0 0 [.ref (ad 30 0), .int b] ad (mW cy ad sc ar) (zPi (v_count b (upd sc 0 0)) ad (mW cy ad (upd sc 0 0) ar)) := by
  refine zM_of (own := RX10) rfl (by decide) (by simp [Value.category]) (Nat.le_of_ble_eq_true rfl) ?_
  intro X hB
  show V X RX10 cX10_count 2 (some .int) 0 0 ad (mW cy ad sc ar) 0 [some (.ref (ad 30 0)), some (.int b)] []
  refine v_aload_n dX10_count_0 rfl ?_
  refine v_iconst_v (v := 0) dX10_count_1 (by decide) ?_
  refine mp1 dX10_count_2 ?_
  generalize upd sc 0 0 = sc at hI hB ⊢
  obtain ⟨⟨hN, b2, b3, b4, b5, b6, b7, b8, b9, b10⟩, hS, hQ, hBl, hCh, hZ⟩ := id hI
  refine v_iload_n dX10_count_5 rfl ?_
  rcases sw8 b with hsw | rfl | rfl | rfl | rfl | rfl | rfl | rfl | rfl
  · refine v_tableOut (tgt := 95) dX10_count_6 hsw (by decide) ?_
    refine v_iconst_v (v := -1) dX10_count_95 (by decide) ?_
    exact v_iret hB (by decide) (by decide) dX10_count_96 ⟨congrArg (fun z => some (Value.int z)) (by obtain ⟨e0, e1, e2, e3, e4, e5, e6, e7⟩ := swo8 hsw; unfold v_count; rw [if_neg e0, if_neg e1, if_neg e2, if_neg e3, if_neg e4, if_neg e5, if_neg e6, if_neg e7]), rfl, rfl⟩
  · refine v_tableIn (tgt := 52) dX10_count_6 (by decide) (by decide) rfl (by decide) ?_
    refine v_aload_n dX10_count_52 rfl ?_
    refine mg123 dX10_count_53 ?_
    exact v_iret hB (by decide) (by decide) dX10_count_56 ⟨congrArg (fun z => some (Value.int z)) (by unfold v_count; rfl), rfl, rfl⟩
  · refine v_tableIn (tgt := 57) dX10_count_6 (by decide) (by decide) rfl (by decide) ?_
    refine v_aload_n dX10_count_57 rfl ?_
    refine mg126 dX10_count_58 ?_
    exact v_iret hB (by decide) (by decide) dX10_count_61 ⟨congrArg (fun z => some (Value.int z)) (by unfold v_count; rfl), rfl, rfl⟩
  · refine v_tableIn (tgt := 62) dX10_count_6 (by decide) (by decide) rfl (by decide) ?_
    refine v_aload_n dX10_count_62 rfl ?_
    refine mg129 dX10_count_63 ?_
    exact v_iret hB (by decide) (by decide) dX10_count_66 ⟨congrArg (fun z => some (Value.int z)) (by unfold v_count; rfl), rfl, rfl⟩
  · refine v_tableIn (tgt := 67) dX10_count_6 (by decide) (by decide) rfl (by decide) ?_
    refine v_aload_n dX10_count_67 rfl ?_
    refine mg196 dX10_count_68 ?_
    exact v_iret hB (by decide) (by decide) dX10_count_71 ⟨congrArg (fun z => some (Value.int z)) (by unfold v_count; rfl), rfl, rfl⟩
  · refine v_tableIn (tgt := 72) dX10_count_6 (by decide) (by decide) rfl (by decide) ?_
    refine v_aload_n dX10_count_72 rfl ?_
    refine mg211 dX10_count_73 ?_
    exact v_iret hB (by decide) (by decide) dX10_count_76 ⟨congrArg (fun z => some (Value.int z)) (by unfold v_count; rfl), rfl, rfl⟩
  · refine v_tableIn (tgt := 77) dX10_count_6 (by decide) (by decide) rfl (by decide) ?_
    refine v_aload_n dX10_count_77 rfl ?_
    refine mg208 dX10_count_78 ?_
    exact v_iret hB (by decide) (by decide) dX10_count_81 ⟨congrArg (fun z => some (Value.int z)) (by unfold v_count; rfl), rfl, rfl⟩
  · refine v_tableIn (tgt := 82) dX10_count_6 (by decide) (by decide) rfl (by decide) ?_
    refine v_aload_n dX10_count_82 rfl ?_
    refine mg154 dX10_count_83 ?_
    exact v_iret hB (by decide) (by decide) dX10_count_86 ⟨congrArg (fun z => some (Value.int z)) (by unfold v_count; rfl), rfl, rfl⟩
  · refine v_tableIn (tgt := 87) dX10_count_6 (by decide) (by decide) rfl (by decide) ?_
    refine v_aload_n dX10_count_87 rfl ?_
    refine mg154 dX10_count_88 ?_
    refine v_bipush_v (v := 60) dX10_count_91 (by decide) ?_
    refine v_idiv dX10_count_93 (by decide) ?_
    exact v_iret hB (by decide) (by decide) dX10_count_94 ⟨congrArg (fun z => some (Value.int z)) (by unfold v_count; rfl), rfl, rfl⟩

set_option maxHeartbeats 4000000 in
set_option maxRecDepth 100000 in
theorem cM_trouble {l : Launch} {D : va_G} {cy : Nat → ClassId} {s0 : State} {ad : zA} {N : Nat → Nat} {sc : Nat → Int32} {ar : Nat → Nat → Int32}  (hI : MI N (upd sc 0 0) ar) : zM l D cy s0 yX10_trouble cX10_trouble 1 (some .int) 4 0 0 [.ref (ad 30 0)] ad (mW cy ad sc ar) (zPi ((upd sc 0 0) 1) ad (mW cy ad (upd sc 0 0) ar)) := by
  refine zM_of (own := RX10) rfl (by decide) (by simp [Value.category]) (Nat.le_of_ble_eq_true rfl) ?_
  intro X hB
  show V X RX10 cX10_trouble 1 (some .int) 0 0 ad (mW cy ad sc ar) 0 [some (.ref (ad 30 0))] []
  refine v_aload_n dX10_trouble_0 rfl ?_
  refine v_iconst_v (v := 0) dX10_trouble_1 (by decide) ?_
  refine mp1 dX10_trouble_2 ?_
  generalize upd sc 0 0 = sc at hI hB ⊢
  obtain ⟨⟨hN, b2, b3, b4, b5, b6, b7, b8, b9, b10⟩, hS, hQ, hBl, hCh, hZ⟩ := id hI
  refine v_aload_n dX10_trouble_5 rfl ?_
  refine mg7 dX10_trouble_6 ?_
  exact v_iret hB (by decide) (by decide) dX10_trouble_9 ⟨congrArg (fun z => some (Value.int z)) (by rfl), rfl, rfl⟩

set_option maxHeartbeats 4000000 in
set_option maxRecDepth 100000 in
theorem cM_chest {l : Launch} {D : va_G} {cy : Nat → ClassId} {s0 : State} {ad : zA} {N : Nat → Nat} {sc : Nat → Int32} {ar : Nat → Nat → Int32} {i b : Int32}  (hI : MI N (upd sc 0 0) ar) : zM l D cy s0 yX10_chest cX10_chest 3 (some .int) 4 0 0 [.ref (ad 30 0), .int i, .int b] ad (mW cy ad sc ar) (zPi (v_chest i b (upd sc 0 0) ar) ad (mW cy ad (upd sc 0 0) ar)) := by
  refine zM_of (own := RX10) rfl (by decide) (by simp [Value.category]) (Nat.le_of_ble_eq_true rfl) ?_
  intro X hB
  show V X RX10 cX10_chest 3 (some .int) 0 0 ad (mW cy ad sc ar) 0 [some (.ref (ad 30 0)), some (.int i), some (.int b)] []
  refine v_aload_n dX10_chest_0 rfl ?_
  refine v_iconst_v (v := 0) dX10_chest_1 (by decide) ?_
  refine mp1 dX10_chest_2 ?_
  generalize upd sc 0 0 = sc at hI hB ⊢
  obtain ⟨⟨hN, b2, b3, b4, b5, b6, b7, b8, b9, b10⟩, hS, hQ, hBl, hCh, hZ⟩ := id hI
  refine v_iload_n dX10_chest_5 rfl ?_
  refine v_if_lt (tgt := 17) dX10_chest_6 (by decide) (fun h6 => ?_) (fun h6 => ?_)
  · refine v_iconst_v (v := -1) dX10_chest_17 (by decide) ?_
    exact v_iret hB (by decide) (by decide) dX10_chest_18 ⟨congrArg (fun z => some (Value.int z)) (by unfold v_chest; first | rw [if_neg (fun z => (i_nlt.mpr z.1) h6)] | rw [if_neg (fun z => h14 z.2)]), rfl, rfl⟩
  · refine v_iload_n dX10_chest_9 rfl ?_
    refine v_aload_n dX10_chest_10 rfl ?_
    refine mg208 dX10_chest_11 ?_
    refine v_icmp_lt (tgt := 19) dX10_chest_14 (by decide) (fun h14 => ?_) (fun h14 => ?_)
    · have hr : 0 ≤ i ∧ i < sc 7 := ⟨i_nlt.mp h6, h14⟩
      obtain ⟨n, hn, rfl⟩ := i_ix (by rw [hN 7 (by decide) (by decide)] at hr; exact hr) (by omega)
      refine v_iload_n dX10_chest_19 rfl ?_
      refine v_if_ne (tgt := 32) dX10_chest_20 (by decide) (fun h20 => ?_) (fun h20 => ?_)
      · refine v_iload_n dX10_chest_32 rfl ?_
        refine v_iconst_v (v := 1) dX10_chest_33 (by decide) ?_
        refine v_icmp_ne (tgt := 46) dX10_chest_34 (by decide) (fun h34 => ?_) (fun h34 => ?_)
        · refine v_iload_n dX10_chest_46 rfl ?_
          refine v_iconst_v (v := 2) dX10_chest_47 (by decide) ?_
          refine v_icmp_ne (tgt := 60) dX10_chest_48 (by decide) (fun h48 => ?_) (fun h48 => ?_)
          · refine v_iconst_v (v := -1) dX10_chest_60 (by decide) ?_
            exact v_iret hB (by decide) (by decide) dX10_chest_61 ⟨congrArg (fun z => some (Value.int z)) (by unfold v_chest; rw [if_pos hr, cl_nI (by omega)]; first | rw [if_pos h20] | rw [if_neg h20, if_pos h34] | rw [if_neg h20, if_neg h34, if_pos h48] | rw [if_neg h20, if_neg h34, if_neg h48]), rfl, rfl⟩
          · refine v_aload_n dX10_chest_51 rfl ?_
            refine mg105 dX10_chest_52 ?_
            refine v_iload_n dX10_chest_55 rfl ?_
            refine m_ldN 38 (L := 20) hB.cy ⟨rfl, rfl, rfl⟩ rfl (by omega) (by decide) dX10_chest_56 ?_
            refine v_goto (tgt := 61) dX10_chest_57 (by decide) ?_
            exact v_iret hB (by decide) (by decide) dX10_chest_61 ⟨congrArg (fun z => some (Value.int z)) (by unfold v_chest; rw [if_pos hr, cl_nI (by omega)]; first | rw [if_pos h20] | rw [if_neg h20, if_pos h34] | rw [if_neg h20, if_neg h34, if_pos h48] | rw [if_neg h20, if_neg h34, if_neg h48]), rfl, rfl⟩
        · refine v_aload_n dX10_chest_37 rfl ?_
          refine mg102 dX10_chest_38 ?_
          refine v_iload_n dX10_chest_41 rfl ?_
          refine m_ldN 37 (L := 20) hB.cy ⟨rfl, rfl, rfl⟩ rfl (by omega) (by decide) dX10_chest_42 ?_
          refine v_goto (tgt := 61) dX10_chest_43 (by decide) ?_
          exact v_iret hB (by decide) (by decide) dX10_chest_61 ⟨congrArg (fun z => some (Value.int z)) (by unfold v_chest; rw [if_pos hr, cl_nI (by omega)]; first | rw [if_pos h20] | rw [if_neg h20, if_pos h34] | rw [if_neg h20, if_neg h34, if_pos h48] | rw [if_neg h20, if_neg h34, if_neg h48]), rfl, rfl⟩
      · refine v_aload_n dX10_chest_23 rfl ?_
        refine mg99 dX10_chest_24 ?_
        refine v_iload_n dX10_chest_27 rfl ?_
        refine m_ldN 36 (L := 20) hB.cy ⟨rfl, rfl, rfl⟩ rfl (by omega) (by decide) dX10_chest_28 ?_
        refine v_goto (tgt := 61) dX10_chest_29 (by decide) ?_
        exact v_iret hB (by decide) (by decide) dX10_chest_61 ⟨congrArg (fun z => some (Value.int z)) (by unfold v_chest; rw [if_pos hr, cl_nI (by omega)]; first | rw [if_pos h20] | rw [if_neg h20, if_pos h34] | rw [if_neg h20, if_neg h34, if_pos h48] | rw [if_neg h20, if_neg h34, if_neg h48]), rfl, rfl⟩
    · refine v_iconst_v (v := -1) dX10_chest_17 (by decide) ?_
      exact v_iret hB (by decide) (by decide) dX10_chest_18 ⟨congrArg (fun z => some (Value.int z)) (by unfold v_chest; first | rw [if_neg (fun z => (i_nlt.mpr z.1) h6)] | rw [if_neg (fun z => h14 z.2)]), rfl, rfl⟩

set_option maxHeartbeats 4000000 in
set_option maxRecDepth 100000 in
theorem cM_baleOf {l : Launch} {D : va_G} {cy : Nat → ClassId} {s0 : State} {ad : zA} {N : Nat → Nat} {sc : Nat → Int32} {ar : Nat → Nat → Int32} {i b : Int32}  (hI : MI N (upd sc 0 0) ar) : zM l D cy s0 yX10_baleOf cX10_baleOf 3 (some .int) 4 0 0 [.ref (ad 30 0), .int i, .int b] ad (mW cy ad sc ar) (zPi (v_baleOf i b (upd sc 0 0) ar) ad (mW cy ad (upd sc 0 0) ar)) := by
  refine zM_of (own := RX10) rfl (by decide) (by simp [Value.category]) (Nat.le_of_ble_eq_true rfl) ?_
  intro X hB
  show V X RX10 cX10_baleOf 3 (some .int) 0 0 ad (mW cy ad sc ar) 0 [some (.ref (ad 30 0)), some (.int i), some (.int b)] []
  refine v_aload_n dX10_baleOf_0 rfl ?_
  refine v_iconst_v (v := 0) dX10_baleOf_1 (by decide) ?_
  refine mp1 dX10_baleOf_2 ?_
  generalize upd sc 0 0 = sc at hI hB ⊢
  obtain ⟨⟨hN, b2, b3, b4, b5, b6, b7, b8, b9, b10⟩, hS, hQ, hBl, hCh, hZ⟩ := id hI
  refine v_iload_n dX10_baleOf_5 rfl ?_
  refine v_if_lt (tgt := 17) dX10_baleOf_6 (by decide) (fun h6 => ?_) (fun h6 => ?_)
  · refine v_iconst_v (v := -1) dX10_baleOf_17 (by decide) ?_
    exact v_iret hB (by decide) (by decide) dX10_baleOf_18 ⟨congrArg (fun z => some (Value.int z)) (by unfold v_baleOf; first | rw [if_neg (fun z => (i_nlt.mpr z.1) h6)] | rw [if_neg (fun z => h14 z.2)]), rfl, rfl⟩
  · refine v_iload_n dX10_baleOf_9 rfl ?_
    refine v_aload_n dX10_baleOf_10 rfl ?_
    refine mg211 dX10_baleOf_11 ?_
    refine v_icmp_lt (tgt := 19) dX10_baleOf_14 (by decide) (fun h14 => ?_) (fun h14 => ?_)
    · have hr : 0 ≤ i ∧ i < sc 6 := ⟨i_nlt.mp h6, h14⟩
      obtain ⟨n, hn, rfl⟩ := i_ix (by rw [hN 6 (by decide) (by decide)] at hr; exact hr) (by omega)
      refine v_iload_n dX10_baleOf_19 rfl ?_
      rcases sw6 b with hsw | rfl | rfl | rfl | rfl | rfl | rfl
      · refine v_tableOut (tgt := 110) dX10_baleOf_20 hsw (by decide) ?_
        refine v_iconst_v (v := -1) dX10_baleOf_110 (by decide) ?_
        exact v_iret hB (by decide) (by decide) dX10_baleOf_111 ⟨congrArg (fun z => some (Value.int z)) (by obtain ⟨e0, e1, e2, e3, e4, e5⟩ := swo6 hsw; unfold v_baleOf; rw [if_pos hr, if_neg e0, if_neg e1, if_neg e2, if_neg e3, if_neg e4, if_neg e5]), rfl, rfl⟩
      · refine v_tableIn (tgt := 60) dX10_baleOf_20 (by decide) (by decide) rfl (by decide) ?_
        refine v_aload_n dX10_baleOf_60 rfl ?_
        refine mg84 dX10_baleOf_61 ?_
        refine v_iload_n dX10_baleOf_64 rfl ?_
        refine m_ldN 31 (L := 60) hB.cy ⟨rfl, rfl, rfl⟩ rfl (by omega) (by decide) dX10_baleOf_65 ?_
        exact v_iret hB (by decide) (by decide) dX10_baleOf_66 ⟨congrArg (fun z => some (Value.int z)) (by unfold v_baleOf; rw [if_pos hr, cl_nI (by omega)]; rfl), rfl, rfl⟩
      · refine v_tableIn (tgt := 67) dX10_baleOf_20 (by decide) (by decide) rfl (by decide) ?_
        refine v_aload_n dX10_baleOf_67 rfl ?_
        refine mg87 dX10_baleOf_68 ?_
        refine v_iload_n dX10_baleOf_71 rfl ?_
        refine m_ldN 32 (L := 60) hB.cy ⟨rfl, rfl, rfl⟩ rfl (by omega) (by decide) dX10_baleOf_72 ?_
        exact v_iret hB (by decide) (by decide) dX10_baleOf_73 ⟨congrArg (fun z => some (Value.int z)) (by unfold v_baleOf; rw [if_pos hr, cl_nI (by omega)]; rfl), rfl, rfl⟩
      · refine v_tableIn (tgt := 74) dX10_baleOf_20 (by decide) (by decide) rfl (by decide) ?_
        refine v_aload_n dX10_baleOf_74 rfl ?_
        refine mg90 dX10_baleOf_75 ?_
        refine v_iload_n dX10_baleOf_78 rfl ?_
        refine m_ldN 33 (L := 60) hB.cy ⟨rfl, rfl, rfl⟩ rfl (by omega) (by decide) dX10_baleOf_79 ?_
        exact v_iret hB (by decide) (by decide) dX10_baleOf_80 ⟨congrArg (fun z => some (Value.int z)) (by unfold v_baleOf; rw [if_pos hr, cl_nI (by omega)]; rfl), rfl, rfl⟩
      · refine v_tableIn (tgt := 81) dX10_baleOf_20 (by decide) (by decide) rfl (by decide) ?_
        refine v_aload_n dX10_baleOf_81 rfl ?_
        refine mg93 dX10_baleOf_82 ?_
        refine v_iload_n dX10_baleOf_85 rfl ?_
        refine m_ldN 34 (L := 60) hB.cy ⟨rfl, rfl, rfl⟩ rfl (by omega) (by decide) dX10_baleOf_86 ?_
        exact v_iret hB (by decide) (by decide) dX10_baleOf_87 ⟨congrArg (fun z => some (Value.int z)) (by unfold v_baleOf; rw [if_pos hr, cl_nI (by omega)]; rfl), rfl, rfl⟩
      · refine v_tableIn (tgt := 88) dX10_baleOf_20 (by decide) (by decide) rfl (by decide) ?_
        refine v_aload_n dX10_baleOf_88 rfl ?_
        refine mg108 dX10_baleOf_89 ?_
        refine v_iload_n dX10_baleOf_92 rfl ?_
        refine m_lzN 39 (L := 60) hB.cy ⟨rfl, rfl, rfl⟩ rfl (by omega) (by decide) dX10_baleOf_93 ?_
        refine v_if_eq (tgt := 101) dX10_baleOf_94 (by decide) (fun h94 => ?_) (fun h94 => ?_)
        · refine v_iconst_v (v := 0) dX10_baleOf_101 (by decide) ?_
          exact v_iret hB (by decide) (by decide) dX10_baleOf_102 ⟨congrArg (fun z => some (Value.int z)) (by unfold v_baleOf; rw [if_pos hr, cl_nI (by omega)]; exact (bI_f (fun z => z h94)).symm), rfl, rfl⟩
        · refine v_iconst_v (v := 1) dX10_baleOf_97 (by decide) ?_
          refine v_goto (tgt := 102) dX10_baleOf_98 (by decide) ?_
          exact v_iret hB (by decide) (by decide) dX10_baleOf_102 ⟨congrArg (fun z => some (Value.int z)) (by unfold v_baleOf; rw [if_pos hr, cl_nI (by omega)]; exact (bI_t h94).symm), rfl, rfl⟩
      · refine v_tableIn (tgt := 103) dX10_baleOf_20 (by decide) (by decide) rfl (by decide) ?_
        refine v_aload_n dX10_baleOf_103 rfl ?_
        refine mg96 dX10_baleOf_104 ?_
        refine v_iload_n dX10_baleOf_107 rfl ?_
        refine m_ldN 35 (L := 60) hB.cy ⟨rfl, rfl, rfl⟩ rfl (by omega) (by decide) dX10_baleOf_108 ?_
        exact v_iret hB (by decide) (by decide) dX10_baleOf_109 ⟨congrArg (fun z => some (Value.int z)) (by unfold v_baleOf; rw [if_pos hr, cl_nI (by omega)]; rfl), rfl, rfl⟩
    · refine v_iconst_v (v := -1) dX10_baleOf_17 (by decide) ?_
      exact v_iret hB (by decide) (by decide) dX10_baleOf_18 ⟨congrArg (fun z => some (Value.int z)) (by unfold v_baleOf; first | rw [if_neg (fun z => (i_nlt.mpr z.1) h6)] | rw [if_neg (fun z => h14 z.2)]), rfl, rfl⟩

