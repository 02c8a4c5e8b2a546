theorem putA_i (ar : Nat → Nat → Int32) (j n : Nat) (x : Int32) {a i : Nat} (h : i ≠ n) : putA ar j n x a i = ar a i := by
  by_cases e : a = j
  · subst e; exact putA_m _ _ _ h
  · rw [putA_n _ _ _ e]
set_option maxHeartbeats 4000000 in
set_option maxRecDepth 100000 in
theorem pX9_family {l : Launch} {D : va_G} {cy : Nat → ClassId} {s0 : State} {ad : zA} {sc : Nat → Int32} {ar tau : Nat → Nat → Int32} {js mo : Nat → Int32} {cp cn al : Nat → Nat} {q3 pa : Nat → Nat → Int32} {pn : Nat → Nat} {N : Nat → Nat} {a : Int32} (hI : MI N sc ar) (hJ : XI N ar cp cn al q3 pa pn) (hG : zG s0) (hZ : XZ s0 cp ad) : zM l D cy s0 yX9_family cX9_family 2 (some .int) 8 2 320 [.ref (ad 0 0), .int a] ad (xW cy ad sc ar tau js mo cp cn al q3 pa pn) (clP cy ad s0 (s_family a sc ar)) := by
  refine zM_of (own := RX9) rfl (by decide) (by simp [Value.category]) (Nat.le_of_ble_eq_true rfl) ?_
  intro X hB
  show V X RX9 cX9_family 2 (some .int) 0 0 ad (xW cy ad sc ar tau js mo cp cn al q3 pa pn) 0 [some (.ref (ad 0 0)), some (.int a)] []
  obtain ⟨⟨hN, b2, b3, b4, b5, b6, b7, b8, b9, b10⟩, hS, hQ, hBl, hCh, hZ0⟩ := id hI
  obtain ⟨⟨c0, c1, c2, c3, c4, c5⟩, hx, hq3⟩ := id hJ
  have x0 := hx 0 (by decide)
  have x1 := hx 1 (by decide)
  have x2 := hx 2 (by decide)
  have x3 := hx 3 (by decide)
  have x4 := hx 4 (by decide)
  have x5 := hx 5 (by decide)
  obtain ⟨n, hn⟩ : ∃ n, N 2 = n := ⟨_, rfl⟩
  have e2 : sc 2 = nI n := by rw [hN 2 (by decide) (by decide), hn]
  refine v_iload_n dX9_family_0 rfl ?_
  refine v_iconst_v (v := 0) dX9_family_1 (by decide) ?_
  refine v_bipush_v (v := 20) dX9_family_2 (by decide) ?_
  refine v_cSi3 hB k_X9_69 pX9_isFrom (by decide) ⟨by decide, by decide⟩ (Nat.le_of_ble_eq_true rfl) dX9_family_4 ?_
  refine v_if_ne (tgt := 16) dX9_family_7 (by decide) (fun h7 => ?_) (fun h7 => ?_)
  · rw [bI_ne] at h7
    refine v_aload_n dX9_family_16 rfl ?_
    refine xg_X9_10 dX9_family_17 ?_
    refine v_cVi0 hB k_X9_77 (pJx4a65c_size_8abf5 (by omega)) (by decide) ⟨by decide, by decide⟩ rfl rfl (Nat.le_of_ble_eq_true rfl) dX9_family_20 ?_
    refine v_bipush_v (v := 8) dX9_family_23 (by decide) ?_
    refine v_icmp_lt (tgt := 34) dX9_family_25 (by decide) (fun h25 => ?_) (fun h25 => ?_)
    · have h25 : n < 8 := by rw [c0, hn] at h25; exact (n_ltI (b := 8) (by omega) (by decide)).mp h25
      refine v_aload_n dX9_family_34 rfl ?_
      refine xg_X9_10 dX9_family_35 ?_
      refine v_new (kk := 8) (ii := n) (ci := 3) (fs := [.int 0, .int 0, .int 0, .int 0]) hB tyX2 tyX2_ok rfl inX2 cl_X9_81 ins_X2 ini_X2 dfX2 (show xW _ _ _ _ _ _ _ _ _ _ _ _ _ 8 n = none by rw [xA8]; exact if_neg (by omega)) ⟨by decide, by decide⟩ dX9_family_38 (fun ad1 had1 => ?_)
      refine v_dup dX9_family_41 rfl ?_
      refine v_iload_n dX9_family_42 rfl ?_
      refine v_cIv1 hB k_X9_83 (iX2 (kk := 8) (ii := n) (zU_s _ _ _ _)) (by decide) ⟨by decide, by decide⟩ (Nat.le_of_ble_eq_true rfl) dX9_family_43 ?_
      refine v_w (zU_zU _ _ _ _ _) ?_
      rw [← had1 6 0 (by omega)]
      refine v_cVg1 hB k_X9_86 (pXadd (k := 0) (n := n) (ar2 := putA ar 11 n a) (q32 := q3) (pa2 := pa) (pn2 := pn) hG (by decide) (ci := 3) rfl lw_ca0 (by omega) (by omega) (by omega) (by omega) (by omega) hZ (fun a b h1 h2 => had1 a b (by omega)) (fun a b h1 h2 => zU_n _ _ (by omega)) (fun ad2 cpx h9 => ?_) (fun z => absurd z (by decide)) (fun j i hs => ?_) (fun i hi => ⟨fun _ => rfl, rfl, rfl⟩) (fun i hi => ?_)) ⟨by decide, by decide⟩ ⟨by decide, by decide⟩ (show zU _ _ _ _ 6 0 = _ by rw [zU_n _ _ (by omega)]; exact xW_Jx4a65c (by decide)) rfl (Nat.le_of_ble_eq_true rfl) dX9_family_46 ?_
      · rw [zU_s, xA8, if_pos (by rw [uN_s]; omega)]
        show some _ = some _
        rw [putA_s, putA_n _ _ _ (by decide), putA_n _ _ _ (by decide), putA_n _ _ _ (by decide), (hZ0 n (by omega)).1, (hZ0 n (by omega)).2.1, (hZ0 n (by omega)).2.2]
      · unfold seen at hs
        by_cases e : j = 11
        · subst e; exact putA_m _ _ _ (by omega)
        · rw [putA_n _ _ _ e]
      · by_cases e : i = n
        · subst e; exact ⟨_, zU_s _ _ _ _⟩
        · rw [zU_n _ _ (by omega), xA8, if_pos (show i < al 0 by omega)]; exact ⟨_, rfl⟩
      rintro r ad2 w2 ⟨rfl, had2, cpx, hcpx, rfl⟩
      show V X RX9 cX9_family _ _ _ _ ad2 _ 49 _ [_]
      refine v_pop dX9_family_49 rfl ?_
      have e00 : ad2 0 0 = ad 0 0 := by rw [had2 0 0 (by omega) (by omega)]; exact had1 0 0 (by omega)
      first | rw [← e00] | rw [← had2 0 0 (by omega) (by omega)]
      have hZ2 : XZ s0 (uN cp 0 cpx) ad2 := fun c hc h0 => by
        by_cases e : c = 0
        · subst e; rw [uN_s] at h0; omega
        · rw [uN_n _ _ e] at h0
          rw [had2 7 c (by omega) (by omega), had1 7 c (by omega)]; exact hZ c hc h0
      refine v_aload_n dX9_family_50 rfl ?_
      refine v_aload_n dX9_family_51 rfl ?_
      refine xg_X9_10 dX9_family_52 ?_
      refine v_cVi0 hB k_X9_77 (pJx4a65c_size_8abf5 (by omega)) (by decide) ⟨by decide, by decide⟩ rfl rfl (Nat.le_of_ble_eq_true rfl) dX9_family_55 ?_
      refine v_iconst_v (v := 1) dX9_family_58 (by decide) ?_
      refine v_isub dX9_family_59 ?_
      refine v_eq (show nI (uN cn 0 (n + 1) 0) - 1 = nI n by rw [uN_s]; exact nI_pred n) ?_
      refine v_cVi1 hB k_X9_90 pX9_accept (by decide) ⟨by decide, by decide⟩ rfl rfl (Nat.le_of_ble_eq_true rfl) dX9_family_60 ?_
      have hS : s_family a sc ar = (nI n, upd (upd sc 2 (nI (n + 1))) 1 0, putA ar 11 n a) := by
        unfold s_family; rw [if_pos h7, if_neg (by rw [e2]; exact fun z => absurd ((nI_eq (b := 8) (by omega) (by decide)).mp z) (by omega)), e2, cl_nI (by omega), nI_1]
      rw [hS] at hB
      refine v_iret hB (by decide) (by decide) dX9_family_63 ⟨rfl, e00, tau, js, upd mo 0 (mo 0 + 1), uN cp 0 cpx, uN cn 0 (n + 1), uN al 0 (n + 1), q3, pa, pn, ?_, hJ.add (k := 0) (by decide) (by decide) (by omega) hcpx (fun c hc => ?_) rfl rfl rfl (fun q i h1 h2 => rfl), hZ2⟩
      · exact xW_seen (by refine ⟨?_, ?_, ?_, ?_⟩ <;> simp [upd]) (fun _ _ _ => rfl)
      · show cl (upd (upd sc 2 (nI (n + 1))) 1 0 (c + 2)) = _
        rw [pk_un (by omega)]
        by_cases e : c = 0
        · rw [if_pos e, e, pk_us, cl_nI (by omega)]
        · rw [if_neg e, pk_un (by omega)]; exact hI.cl (by omega) (by omega)
    · have h25 : ¬ n < 8 := fun z => h25 (by rw [c0, hn]; exact nI_lt (b := 8) z (by decide))
      refine v_aload_n dX9_family_28 rfl ?_
      refine v_iconst_v (v := 3) dX9_family_29 (by decide) ?_
      refine v_cVi1 hB k_X9_73 pX9_refuse (by decide) ⟨by decide, by decide⟩ rfl rfl (Nat.le_of_ble_eq_true rfl) dX9_family_30 ?_
      exact v_iret hB (by decide) (by decide) dX9_family_33 (clP_same hI hJ hZ (show s_family a sc ar = (-1, upd sc 1 3, ar) by unfold s_family; rw [if_pos h7, if_pos (by rw [e2, show n = 8 by omega]; rfl)]) (fun j h1 h2 => pk_un (by omega)) rfl rfl rfl rfl)
  · rw [bI_eq] at h7
    refine v_aload_n dX9_family_10 rfl ?_
    refine v_iconst_v (v := 2) dX9_family_11 (by decide) ?_
    refine v_cVi1 hB k_X9_73 pX9_refuse (by decide) ⟨by decide, by decide⟩ rfl rfl (Nat.le_of_ble_eq_true rfl) dX9_family_12 ?_
    exact v_iret hB (by decide) (by decide) dX9_family_15 (clP_same hI hJ hZ (show s_family a sc ar = (-1, upd sc 1 2, ar) by unfold s_family; rw [if_neg h7]) (fun j h1 h2 => pk_un (by omega)) rfl rfl rfl rfl)

set_option maxHeartbeats 4000000 in
set_option maxRecDepth 100000 in
theorem pX9_garden {l : Launch} {D : va_G} {cy : Nat → ClassId} {s0 : State} {ad : zA} {sc : Nat → Int32} {ar tau : Nat → Nat → Int32} {js mo : Nat → Int32} {cp cn al : Nat → Nat} {q3 pa : Nat → Nat → Int32} {pn : Nat → Nat} {N : Nat → Nat} {f : Int32} (hI : MI N sc ar) (hJ : XI N ar cp cn al q3 pa pn) (hG : zG s0) (hZ : XZ s0 cp ad) : zM l D cy s0 yX9_garden cX9_garden 2 (some .int) 8 2 320 [.ref (ad 0 0), .int f] ad (xW cy ad sc ar tau js mo cp cn al q3 pa pn) (clP cy ad s0 (s_garden f sc ar)) := by
  refine zM_of (own := RX9) rfl (by decide) (by simp [Value.category]) (Nat.le_of_ble_eq_true rfl) ?_
  intro X hB
  show V X RX9 cX9_garden 2 (some .int) 0 0 ad (xW cy ad sc ar tau js mo cp cn al q3 pa pn) 0 [some (.ref (ad 0 0)), some (.int f)] []
  obtain ⟨⟨hN, b2, b3, b4, b5, b6, b7, b8, b9, b10⟩, hS, hQ, hBl, hCh, hZ0⟩ := id hI
  obtain ⟨⟨c0, c1, c2, c3, c4, c5⟩, hx, hq3⟩ := id hJ
  have x0 := hx 0 (by decide)
  have x1 := hx 1 (by decide)
  have x2 := hx 2 (by decide)
  have x3 := hx 3 (by decide)
  have x4 := hx 4 (by decide)
  have x5 := hx 5 (by decide)
  obtain ⟨n, hn⟩ : ∃ n, N 3 = n := ⟨_, rfl⟩
  have e2 : sc 3 = nI n := by rw [hN 3 (by decide) (by decide), hn]
  refine v_iload_n dX9_garden_0 rfl ?_
  refine v_iconst_v (v := -1) dX9_garden_1 (by decide) ?_
  refine v_icmp_eq (tgt := 19) dX9_garden_2 (by decide) (fun h2 => ?_) (fun h2 => ?_)
  · have hr : f = -1 ∨ (0 ≤ f ∧ f < sc 2) := Or.inl h2
    refine v_aload_n dX9_garden_19 rfl ?_
    refine xg_X9_16 dX9_garden_20 ?_
    refine v_cVi0 hB k_X9_77 (pJx4a65c_size_8abf5 (by omega)) (by decide) ⟨by decide, by decide⟩ rfl rfl (Nat.le_of_ble_eq_true rfl) dX9_garden_23 ?_
    refine v_bipush_v (v := 12) dX9_garden_26 (by decide) ?_
    refine v_icmp_lt (tgt := 37) dX9_garden_28 (by decide) (fun h28 => ?_) (fun h28 => ?_)
    · have h28 : n < 12 := by rw [c1, hn] at h28; exact (n_ltI (b := 12) (by omega) (by decide)).mp h28
      refine v_aload_n dX9_garden_37 rfl ?_
      refine xg_X9_16 dX9_garden_38 ?_
      refine v_new (kk := 9) (ii := n) (ci := 4) (fs := [.int 0]) hB tyX3 tyX3_ok rfl inX3 cl_X9_97 ins_X3 ini_X3 dfX3 (show xW _ _ _ _ _ _ _ _ _ _ _ _ _ 9 n = none by rw [xA9]; exact if_neg (by omega)) ⟨by decide, by decide⟩ dX9_garden_41 (fun ad1 had1 => ?_)
      refine v_dup dX9_garden_44 rfl ?_
      refine v_iload_n dX9_garden_45 rfl ?_
      refine v_cIv1 hB k_X9_99 (iX3 (kk := 9) (ii := n) (zU_s _ _ _ _)) (by decide) ⟨by decide, by decide⟩ (Nat.le_of_ble_eq_true rfl) dX9_garden_46 ?_
      refine v_w (zU_zU _ _ _ _ _) ?_
      rw [← had1 6 1 (by omega)]
      refine v_cVg1 hB k_X9_86 (pXadd (k := 1) (n := n) (ar2 := putA ar 15 n f) (q32 := q3) (pa2 := pa) (pn2 := pn) hG (by decide) (ci := 4) rfl lw_ca1 (by omega) (by omega) (by omega) (by omega) (by omega) hZ (fun a b h1 h2 => had1 a b (by omega)) (fun a b h1 h2 => zU_n _ _ (by omega)) (fun ad2 cpx h9 => ?_) (fun z => absurd z (by decide)) (fun j i hs => ?_) (fun i hi => ⟨fun _ => rfl, rfl, rfl⟩) (fun i hi => ?_)) ⟨by decide, by decide⟩ ⟨by decide, by decide⟩ (show zU _ _ _ _ 6 1 = _ by rw [zU_n _ _ (by omega)]; exact xW_Jx4a65c (by decide)) rfl (Nat.le_of_ble_eq_true rfl) dX9_garden_49 ?_
      · rw [zU_s, xA9, if_pos (by rw [uN_s]; omega)]
        show some _ = some _
        rw [putA_s]
      · unfold seen at hs
        by_cases e : j = 15
        · subst e; exact putA_m _ _ _ (by omega)
        · rw [putA_n _ _ _ e]
      · by_cases e : i = n
        · subst e; exact ⟨_, zU_s _ _ _ _⟩
        · rw [zU_n _ _ (by omega), xA9, if_pos (show i < al 1 by omega)]; exact ⟨_, rfl⟩
      rintro r ad2 w2 ⟨rfl, had2, cpx, hcpx, rfl⟩
      show V X RX9 cX9_garden _ _ _ _ ad2 _ 52 _ [_]
      refine v_pop dX9_garden_52 rfl ?_
      have e00 : ad2 0 0 = ad 0 0 := by rw [had2 0 0 (by omega) (by omega)]; exact had1 0 0 (by omega)
      first | rw [← e00] | rw [← had2 0 0 (by omega) (by omega)]
      have hZ2 : XZ s0 (uN cp 1 cpx) ad2 := fun c hc h0 => by
        by_cases e : c = 1
        · subst e; rw [uN_s] at h0; omega
        · rw [uN_n _ _ e] at h0
          rw [had2 7 c (by omega) (by omega), had1 7 c (by omega)]; exact hZ c hc h0
      refine v_aload_n dX9_garden_53 rfl ?_
      refine v_aload_n dX9_garden_54 rfl ?_
      refine xg_X9_16 dX9_garden_55 ?_
      refine v_cVi0 hB k_X9_77 (pJx4a65c_size_8abf5 (by omega)) (by decide) ⟨by decide, by decide⟩ rfl rfl (Nat.le_of_ble_eq_true rfl) dX9_garden_58 ?_
      refine v_iconst_v (v := 1) dX9_garden_61 (by decide) ?_
      refine v_isub dX9_garden_62 ?_
      refine v_eq (show nI (uN cn 1 (n + 1) 1) - 1 = nI n by rw [uN_s]; exact nI_pred n) ?_
      refine v_cVi1 hB k_X9_90 pX9_accept (by decide) ⟨by decide, by decide⟩ rfl rfl (Nat.le_of_ble_eq_true rfl) dX9_garden_63 ?_
      have hS : s_garden f sc ar = (nI n, upd (upd sc 3 (nI (n + 1))) 1 0, putA ar 15 n f) := by
        unfold s_garden; rw [if_pos hr, if_neg (by rw [e2]; exact fun z => absurd ((nI_eq (b := 12) (by omega) (by decide)).mp z) (by omega)), e2, cl_nI (by omega), nI_1]
      rw [hS] at hB
      refine v_iret hB (by decide) (by decide) dX9_garden_66 ⟨rfl, e00, tau, js, upd mo 1 (mo 1 + 1), uN cp 1 cpx, uN cn 1 (n + 1), uN al 1 (n + 1), q3, pa, pn, ?_, hJ.add (k := 1) (by decide) (by decide) (by omega) hcpx (fun c hc => ?_) rfl rfl rfl (fun q i h1 h2 => rfl), hZ2⟩
      · exact xW_seen (by refine ⟨?_, ?_, ?_, ?_⟩ <;> simp [upd]) (fun _ _ _ => rfl)
      · show cl (upd (upd sc 3 (nI (n + 1))) 1 0 (c + 2)) = _
        rw [pk_un (by omega)]
        by_cases e : c = 1
        · rw [if_pos e, e, pk_us, cl_nI (by omega)]
        · rw [if_neg e, pk_un (by omega)]; exact hI.cl (by omega) (by omega)
    · have h28 : ¬ n < 12 := fun z => h28 (by rw [c1, hn]; exact nI_lt (b := 12) z (by decide))
      refine v_aload_n dX9_garden_31 rfl ?_
      refine v_iconst_v (v := 3) dX9_garden_32 (by decide) ?_
      refine v_cVi1 hB k_X9_73 pX9_refuse (by decide) ⟨by decide, by decide⟩ rfl rfl (Nat.le_of_ble_eq_true rfl) dX9_garden_33 ?_
      exact v_iret hB (by decide) (by decide) dX9_garden_36 (clP_same hI hJ hZ (show s_garden f sc ar = (-1, upd sc 1 3, ar) by unfold s_garden; rw [if_pos hr, if_pos (by rw [e2, show n = 12 by omega]; rfl)]) (fun j h1 h2 => pk_un (by omega)) rfl rfl rfl rfl)
  · refine v_aload_n dX9_garden_5 rfl ?_
    refine v_iload_n dX9_garden_6 rfl ?_
    refine v_cVi1 hB k_X9_93 pX9_isFamily (by decide) ⟨by decide, by decide⟩ rfl rfl (Nat.le_of_ble_eq_true rfl) dX9_garden_7 ?_
    refine v_if_ne (tgt := 19) dX9_garden_10 (by decide) (fun h10 => ?_) (fun h10 => ?_)
    · rw [bI_ne] at h10
      have hr : f = -1 ∨ (0 ≤ f ∧ f < sc 2) := Or.inr (by rw [hN 2 (by decide) (by decide), ← c0]; exact h10)
      refine v_aload_n dX9_garden_19 rfl ?_
      refine xg_X9_16 dX9_garden_20 ?_
      refine v_cVi0 hB k_X9_77 (pJx4a65c_size_8abf5 (by omega)) (by decide) ⟨by decide, by decide⟩ rfl rfl (Nat.le_of_ble_eq_true rfl) dX9_garden_23 ?_
      refine v_bipush_v (v := 12) dX9_garden_26 (by decide) ?_
      refine v_icmp_lt (tgt := 37) dX9_garden_28 (by decide) (fun h28 => ?_) (fun h28 => ?_)
      · have h28 : n < 12 := by rw [c1, hn] at h28; exact (n_ltI (b := 12) (by omega) (by decide)).mp h28
        refine v_aload_n dX9_garden_37 rfl ?_
        refine xg_X9_16 dX9_garden_38 ?_
        refine v_new (kk := 9) (ii := n) (ci := 4) (fs := [.int 0]) hB tyX3 tyX3_ok rfl inX3 cl_X9_97 ins_X3 ini_X3 dfX3 (show xW _ _ _ _ _ _ _ _ _ _ _ _ _ 9 n = none by rw [xA9]; exact if_neg (by omega)) ⟨by decide, by decide⟩ dX9_garden_41 (fun ad1 had1 => ?_)
        refine v_dup dX9_garden_44 rfl ?_
        refine v_iload_n dX9_garden_45 rfl ?_
        refine v_cIv1 hB k_X9_99 (iX3 (kk := 9) (ii := n) (zU_s _ _ _ _)) (by decide) ⟨by decide, by decide⟩ (Nat.le_of_ble_eq_true rfl) dX9_garden_46 ?_
        refine v_w (zU_zU _ _ _ _ _) ?_
        rw [← had1 6 1 (by omega)]
        refine v_cVg1 hB k_X9_86 (pXadd (k := 1) (n := n) (ar2 := putA ar 15 n f) (q32 := q3) (pa2 := pa) (pn2 := pn) hG (by decide) (ci := 4) rfl lw_ca1 (by omega) (by omega) (by omega) (by omega) (by omega) hZ (fun a b h1 h2 => had1 a b (by omega)) (fun a b h1 h2 => zU_n _ _ (by omega)) (fun ad2 cpx h9 => ?_) (fun z => absurd z (by decide)) (fun j i hs => ?_) (fun i hi => ⟨fun _ => rfl, rfl, rfl⟩) (fun i hi => ?_)) ⟨by decide, by decide⟩ ⟨by decide, by decide⟩ (show zU _ _ _ _ 6 1 = _ by rw [zU_n _ _ (by omega)]; exact xW_Jx4a65c (by decide)) rfl (Nat.le_of_ble_eq_true rfl) dX9_garden_49 ?_
        · rw [zU_s, xA9, if_pos (by rw [uN_s]; omega)]
          show some _ = some _
          rw [putA_s]
        · unfold seen at hs
          by_cases e : j = 15
          · subst e; exact putA_m _ _ _ (by omega)
          · rw [putA_n _ _ _ e]
        · by_cases e : i = n
          · subst e; exact ⟨_, zU_s _ _ _ _⟩
          · rw [zU_n _ _ (by omega), xA9, if_pos (show i < al 1 by omega)]; exact ⟨_, rfl⟩
        rintro r ad2 w2 ⟨rfl, had2, cpx, hcpx, rfl⟩
        show V X RX9 cX9_garden _ _ _ _ ad2 _ 52 _ [_]
        refine v_pop dX9_garden_52 rfl ?_
        have e00 : ad2 0 0 = ad 0 0 := by rw [had2 0 0 (by omega) (by omega)]; exact had1 0 0 (by omega)
        first | rw [← e00] | rw [← had2 0 0 (by omega) (by omega)]
        have hZ2 : XZ s0 (uN cp 1 cpx) ad2 := fun c hc h0 => by
          by_cases e : c = 1
          · subst e; rw [uN_s] at h0; omega
          · rw [uN_n _ _ e] at h0
            rw [had2 7 c (by omega) (by omega), had1 7 c (by omega)]; exact hZ c hc h0
        refine v_aload_n dX9_garden_53 rfl ?_
        refine v_aload_n dX9_garden_54 rfl ?_
        refine xg_X9_16 dX9_garden_55 ?_
        refine v_cVi0 hB k_X9_77 (pJx4a65c_size_8abf5 (by omega)) (by decide) ⟨by decide, by decide⟩ rfl rfl (Nat.le_of_ble_eq_true rfl) dX9_garden_58 ?_
        refine v_iconst_v (v := 1) dX9_garden_61 (by decide) ?_
        refine v_isub dX9_garden_62 ?_
        refine v_eq (show nI (uN cn 1 (n + 1) 1) - 1 = nI n by rw [uN_s]; exact nI_pred n) ?_
        refine v_cVi1 hB k_X9_90 pX9_accept (by decide) ⟨by decide, by decide⟩ rfl rfl (Nat.le_of_ble_eq_true rfl) dX9_garden_63 ?_
        have hS : s_garden f sc ar = (nI n, upd (upd sc 3 (nI (n + 1))) 1 0, putA ar 15 n f) := by
          unfold s_garden; rw [if_pos hr, if_neg (by rw [e2]; exact fun z => absurd ((nI_eq (b := 12) (by omega) (by decide)).mp z) (by omega)), e2, cl_nI (by omega), nI_1]
        rw [hS] at hB
        refine v_iret hB (by decide) (by decide) dX9_garden_66 ⟨rfl, e00, tau, js, upd mo 1 (mo 1 + 1), uN cp 1 cpx, uN cn 1 (n + 1), uN al 1 (n + 1), q3, pa, pn, ?_, hJ.add (k := 1) (by decide) (by decide) (by omega) hcpx (fun c hc => ?_) rfl rfl rfl (fun q i h1 h2 => rfl), hZ2⟩
        · exact xW_seen (by refine ⟨?_, ?_, ?_, ?_⟩ <;> simp [upd]) (fun _ _ _ => rfl)
        · show cl (upd (upd sc 3 (nI (n + 1))) 1 0 (c + 2)) = _
          rw [pk_un (by omega)]
          by_cases e : c = 1
          · rw [if_pos e, e, pk_us, cl_nI (by omega)]
          · rw [if_neg e, pk_un (by omega)]; exact hI.cl (by omega) (by omega)
      · have h28 : ¬ n < 12 := fun z => h28 (by rw [c1, hn]; exact nI_lt (b := 12) z (by decide))
        refine v_aload_n dX9_garden_31 rfl ?_
        refine v_iconst_v (v := 3) dX9_garden_32 (by decide) ?_
        refine v_cVi1 hB k_X9_73 pX9_refuse (by decide) ⟨by decide, by decide⟩ rfl rfl (Nat.le_of_ble_eq_true rfl) dX9_garden_33 ?_
        exact v_iret hB (by decide) (by decide) dX9_garden_36 (clP_same hI hJ hZ (show s_garden f sc ar = (-1, upd sc 1 3, ar) by unfold s_garden; rw [if_pos hr, if_pos (by rw [e2, show n = 12 by omega]; rfl)]) (fun j h1 h2 => pk_un (by omega)) rfl rfl rfl rfl)
    · rw [bI_eq] at h10
      refine v_aload_n dX9_garden_13 rfl ?_
      refine v_iconst_v (v := 1) dX9_garden_14 (by decide) ?_
      refine v_cVi1 hB k_X9_73 pX9_refuse (by decide) ⟨by decide, by decide⟩ rfl rfl (Nat.le_of_ble_eq_true rfl) dX9_garden_15 ?_
      exact v_iret hB (by decide) (by decide) dX9_garden_18 (clP_same hI hJ hZ (show s_garden f sc ar = (-1, upd sc 1 1, ar) by unfold s_garden; rw [if_neg (fun z => z.elim h2 (fun y => h10 (by rw [c0, ← hN 2 (by decide) (by decide)]; exact y)))]) (fun j h1 h2 => pk_un (by omega)) rfl rfl rfl rfl)

set_option maxHeartbeats 4000000 in
set_option maxRecDepth 100000 in
theorem pX9_cut {l : Launch} {D : va_G} {cy : Nat → ClassId} {s0 : State} {ad : zA} {sc : Nat → Int32} {ar tau : Nat → Nat → Int32} {js mo : Nat → Int32} {cp cn al : Nat → Nat} {q3 pa : Nat → Nat → Int32} {pn : Nat → Nat} {N : Nat → Nat} {f g L wd t : Int32} (hI : MI N sc ar) (hJ : XI N ar cp cn al q3 pa pn) (hG : zG s0) (hZ : XZ s0 cp ad) : zM l D cy s0 yX9_cut cX9_cut 6 (some .int) 8 2 320 [.ref (ad 0 0), .int f, .int g, .int L, .int wd, .int t] ad (xW cy ad sc ar tau js mo cp cn al q3 pa pn) (clP cy ad s0 (s_cut f g L wd t sc ar)) := by
  refine zM_of (own := RX9) rfl (by decide) (by simp [Value.category]) (Nat.le_of_ble_eq_true rfl) ?_
  intro X hB
  show V X RX9 cX9_cut 6 (some .int) 0 0 ad (xW cy ad sc ar tau js mo cp cn al q3 pa pn) 0 [some (.ref (ad 0 0)), some (.int f), some (.int g), some (.int L), some (.int wd), some (.int t)] []
  obtain ⟨⟨hN, b2, b3, b4, b5, b6, b7, b8, b9, b10⟩, hS, hQ, hBl, hCh, hZ0⟩ := id hI
  obtain ⟨⟨c0, c1, c2, c3, c4, c5⟩, hx, hq3⟩ := id hJ
  have x0 := hx 0 (by decide)
  have x1 := hx 1 (by decide)
  have x2 := hx 2 (by decide)
  have x3 := hx 3 (by decide)
  have x4 := hx 4 (by decide)
  have x5 := hx 5 (by decide)
  obtain ⟨n, hn⟩ : ∃ n, N 4 = n := ⟨_, rfl⟩
  have e2 : sc 4 = nI n := by rw [hN 4 (by decide) (by decide), hn]
  refine v_aload_n dX9_cut_0 rfl ?_
  refine v_iload_n dX9_cut_1 rfl ?_
  refine v_cVi1 hB k_X9_93 pX9_isFamily (by decide) ⟨by decide, by decide⟩ rfl rfl (Nat.le_of_ble_eq_true rfl) dX9_cut_2 ?_
  refine v_if_eq (tgt := 16) dX9_cut_5 (by decide) (fun h5 => ?_) (fun h5 => ?_)
  · rw [bI_eq] at h5
    refine v_aload_n dX9_cut_16 rfl ?_
    refine v_iconst_v (v := 1) dX9_cut_17 (by decide) ?_
    refine v_cVi1 hB k_X9_73 pX9_refuse (by decide) ⟨by decide, by decide⟩ rfl rfl (Nat.le_of_ble_eq_true rfl) dX9_cut_18 ?_
    exact v_iret hB (by decide) (by decide) dX9_cut_21 (clP_same hI hJ hZ (show s_cut f g L wd t sc ar = (-1, upd sc 1 1, ar) by unfold s_cut; rw [if_neg (fun z => by first | exact h5 (by rw [c0, ← hN 2 (by decide) (by decide)]; exact z.1) | exact h13 (by rw [c1, ← hN 3 (by decide) (by decide)]; exact z.2))]) (fun j h1 h2 => pk_un (by omega)) rfl rfl rfl rfl)
  · rw [bI_ne] at h5
    refine v_aload_n dX9_cut_8 rfl ?_
    refine v_iload_n dX9_cut_9 rfl ?_
    refine v_cVi1 hB k_X9_110 pX9_isGarden (by decide) ⟨by decide, by decide⟩ rfl rfl (Nat.le_of_ble_eq_true rfl) dX9_cut_10 ?_
    refine v_if_ne (tgt := 22) dX9_cut_13 (by decide) (fun h13 => ?_) (fun h13 => ?_)
    · rw [bI_ne] at h13
      have hfg : (0 ≤ f ∧ f < sc 2) ∧ (0 ≤ g ∧ g < sc 3) := ⟨by rw [hN 2 (by decide) (by decide), ← c0]; exact h5, by rw [hN 3 (by decide) (by decide), ← c1]; exact h13⟩
      refine v_iload_n dX9_cut_22 rfl ?_
      refine v_iconst_v (v := 1) dX9_cut_23 (by decide) ?_
      refine v_bipush_v (v := 60) dX9_cut_24 (by decide) ?_
      refine v_cSi3 hB k_X9_69 pX9_isFrom (by decide) ⟨by decide, by decide⟩ (Nat.le_of_ble_eq_true rfl) dX9_cut_26 ?_
      refine v_if_eq (tgt := 54) dX9_cut_29 (by decide) (fun h29 => ?_) (fun h29 => ?_)
      · rw [bI_eq] at h29
        refine v_aload_n dX9_cut_54 rfl ?_
        refine v_iconst_v (v := 2) dX9_cut_55 (by decide) ?_
        refine v_cVi1 hB k_X9_73 pX9_refuse (by decide) ⟨by decide, by decide⟩ rfl rfl (Nat.le_of_ble_eq_true rfl) dX9_cut_56 ?_
        exact v_iret hB (by decide) (by decide) dX9_cut_59 (clP_same hI hJ hZ (show s_cut f g L wd t sc ar = (-1, upd sc 1 2, ar) by unfold s_cut; rw [if_pos hfg, if_neg (fun z => by first | exact h29 z.1 | exact h40 z.2.1 | exact h51 z.2.2)]) (fun j h1 h2 => pk_un (by omega)) rfl rfl rfl rfl)
      · rw [bI_ne] at h29
        refine v_iload dX9_cut_32 rfl ?_
        refine v_iconst_v (v := 1) dX9_cut_34 (by decide) ?_
        refine v_bipush_v (v := 9) dX9_cut_35 (by decide) ?_
        refine v_cSi3 hB k_X9_69 pX9_isFrom (by decide) ⟨by decide, by decide⟩ (Nat.le_of_ble_eq_true rfl) dX9_cut_37 ?_
        refine v_if_eq (tgt := 54) dX9_cut_40 (by decide) (fun h40 => ?_) (fun h40 => ?_)
        · rw [bI_eq] at h40
          refine v_aload_n dX9_cut_54 rfl ?_
          refine v_iconst_v (v := 2) dX9_cut_55 (by decide) ?_
          refine v_cVi1 hB k_X9_73 pX9_refuse (by decide) ⟨by decide, by decide⟩ rfl rfl (Nat.le_of_ble_eq_true rfl) dX9_cut_56 ?_
          exact v_iret hB (by decide) (by decide) dX9_cut_59 (clP_same hI hJ hZ (show s_cut f g L wd t sc ar = (-1, upd sc 1 2, ar) by unfold s_cut; rw [if_pos hfg, if_neg (fun z => by first | exact h29 z.1 | exact h40 z.2.1 | exact h51 z.2.2)]) (fun j h1 h2 => pk_un (by omega)) rfl rfl rfl rfl)
        · rw [bI_ne] at h40
          refine v_iload dX9_cut_43 rfl ?_
          refine v_iconst_v (v := 0) dX9_cut_45 (by decide) ?_
          refine v_bipush_v (v := 9) dX9_cut_46 (by decide) ?_
          refine v_cSi3 hB k_X9_69 pX9_isFrom (by decide) ⟨by decide, by decide⟩ (Nat.le_of_ble_eq_true rfl) dX9_cut_48 ?_
          refine v_if_ne (tgt := 60) dX9_cut_51 (by decide) (fun h51 => ?_) (fun h51 => ?_)
          · rw [bI_ne] at h51
            obtain ⟨gN, hgN, rfl⟩ := i_ix (by rw [c1] at h13; exact h13) (by omega)
            refine v_aload_n dX9_cut_60 rfl ?_
            refine xg_X9_16 dX9_cut_61 ?_
            refine v_iload_n dX9_cut_64 rfl ?_
            refine v_cVr1 hB k_X9_113 (pJx4a65c_get_915e3 (by omega) (by omega) (by omega) (by omega)) (by decide) ⟨by decide, by decide⟩ rfl rfl (Nat.le_of_ble_eq_true rfl) dX9_cut_65 ?_
            refine v_cast (ci := 4) rfl cl_X9_97 (xW_X3 (by omega)) dX9_cut_68 ?_
            refine v_iload_n dX9_cut_71 rfl ?_
            refine v_cVi1 hB k_X9_117 (pX3_isOpenTo (by omega)) (by decide) ⟨by decide, by decide⟩ (xW_X3 (by omega)) rfl (Nat.le_of_ble_eq_true rfl) dX9_cut_72 ?_
            refine v_if_ne (tgt := 84) dX9_cut_75 (by decide) (fun h75 => ?_) (fun h75 => ?_)
            · rw [bI_ne] at h75
              refine v_aload_n dX9_cut_84 rfl ?_
              refine xg_X9_19 dX9_cut_85 ?_
              refine v_cVi0 hB k_X9_77 (pJx4a65c_size_8abf5 (by omega)) (by decide) ⟨by decide, by decide⟩ rfl rfl (Nat.le_of_ble_eq_true rfl) dX9_cut_88 ?_
              refine v_sipush_v (v := 200) dX9_cut_91 (by decide) ?_
              refine v_icmp_lt (tgt := 103) dX9_cut_94 (by decide) (fun h94 => ?_) (fun h94 => ?_)
              · have h94 : n < 200 := by rw [c2, hn] at h94; exact (n_ltI (b := 200) (by omega) (by decide)).mp h94
                refine v_aload_n dX9_cut_103 rfl ?_
                refine xg_X9_19 dX9_cut_104 ?_
                refine v_new (kk := 10) (ii := n) (ci := 8) (fs := [.int 0, .int 0, .int 0, .int 0, .int 0, .int 0, .int 0]) hB tyX7 tyX7_ok rfl inX7 cl_X9_120 ins_X7 ini_X7 dfX7 (show xW _ _ _ _ _ _ _ _ _ _ _ _ _ 10 n = none by rw [xA10]; exact if_neg (by omega)) ⟨by decide, by decide⟩ dX9_cut_107 (fun ad1 had1 => ?_)
                refine v_dup dX9_cut_110 rfl ?_
                refine v_iload_n dX9_cut_111 rfl ?_
                refine v_iload_n dX9_cut_112 rfl ?_
                refine v_iload_n dX9_cut_113 rfl ?_
                refine v_iload dX9_cut_114 rfl ?_
                refine v_iload dX9_cut_116 rfl ?_
                refine v_aload_n dX9_cut_118 rfl ?_
                rw [← had1 0 0 (by omega)]
                refine v_get (kk := 0) (ii := 0) (ci := 10) (k := 12) rfl inX9 (by decide) f_X9_63 rfl (show zU _ _ _ _ 0 0 = _ by rw [zU_n _ _ (by omega)]; exact xW_X9) rfl dX9_cut_119 ?_
                refine v_cIv6 hB k_X9_122 (iX7 (kk := 10) (ii := n) (zU_s _ _ _ _)) (by decide) ⟨by decide, by decide⟩ (Nat.le_of_ble_eq_true rfl) dX9_cut_122 ?_
                refine v_w (zU_zU _ _ _ _ _) ?_
                rw [← had1 6 2 (by omega)]
                refine v_cVg1 hB k_X9_86 (pXadd (k := 2) (n := n) (ar2 := putA (putA (putA (putA (putA (putA (putA ar 18 n f) 19 n (nI gN)) 20 n L) 21 n wd) 22 n t) 23 n (sc 8)) 24 n (-2)) (q32 := q3) (pa2 := pa) (pn2 := pn) hG (by decide) (ci := 8) rfl lw_ca2 (by omega) (by omega) (by omega) (by omega) (by omega) hZ (fun a b h1 h2 => had1 a b (by omega)) (fun a b h1 h2 => zU_n _ _ (by omega)) (fun ad2 cpx h9 => ?_) (fun z => absurd z (by decide)) (fun j i hs => ?_) (fun i hi => ⟨fun _ => rfl, rfl, rfl⟩) (fun i hi => ?_)) ⟨by decide, by decide⟩ ⟨by decide, by decide⟩ (show zU _ _ _ _ 6 2 = _ by rw [zU_n _ _ (by omega)]; exact xW_Jx4a65c (by decide)) rfl (Nat.le_of_ble_eq_true rfl) dX9_cut_125 ?_
                · rw [zU_s, xA10, if_pos (by rw [uN_s]; omega)]
                  show some _ = some _
                  rw [show putA (putA (putA (putA (putA (putA (putA ar 18 n f) 19 n (nI gN)) 20 n L) 21 n wd) 22 n t) 23 n (sc 8)) 24 n (-2) 18 n = f by simp [putA, upA, upd], show putA (putA (putA (putA (putA (putA (putA ar 18 n f) 19 n (nI gN)) 20 n L) 21 n wd) 22 n t) 23 n (sc 8)) 24 n (-2) 19 n = nI gN by simp [putA, upA, upd], show putA (putA (putA (putA (putA (putA (putA ar 18 n f) 19 n (nI gN)) 20 n L) 21 n wd) 22 n t) 23 n (sc 8)) 24 n (-2) 20 n = L by simp [putA, upA, upd], show putA (putA (putA (putA (putA (putA (putA ar 18 n f) 19 n (nI gN)) 20 n L) 21 n wd) 22 n t) 23 n (sc 8)) 24 n (-2) 21 n = wd by simp [putA, upA, upd], show putA (putA (putA (putA (putA (putA (putA ar 18 n f) 19 n (nI gN)) 20 n L) 21 n wd) 22 n t) 23 n (sc 8)) 24 n (-2) 22 n = t by simp [putA, upA, upd], show putA (putA (putA (putA (putA (putA (putA ar 18 n f) 19 n (nI gN)) 20 n L) 21 n wd) 22 n t) 23 n (sc 8)) 24 n (-2) 23 n = sc 8 by simp [putA, upA, upd], show putA (putA (putA (putA (putA (putA (putA ar 18 n f) 19 n (nI gN)) 20 n L) 21 n wd) 22 n t) 23 n (sc 8)) 24 n (-2) 24 n = -2 by simp [putA, upA, upd]]
                · unfold seen at hs
                  by_cases e : i = n
                  · have h24 : ¬ (18 ≤ j ∧ j ≤ 24) ∨ i < al 2 := by omega
                    rcases h24 with h24 | h24
                    · rw [putA_n _ _ _ (by omega), putA_n _ _ _ (by omega), putA_n _ _ _ (by omega), putA_n _ _ _ (by omega), putA_n _ _ _ (by omega), putA_n _ _ _ (by omega), putA_n _ _ _ (by omega)]
                    · omega
                  · rw [putA_i _ _ _ _ e, putA_i _ _ _ _ e, putA_i _ _ _ _ e, putA_i _ _ _ _ e, putA_i _ _ _ _ e, putA_i _ _ _ _ e, putA_i _ _ _ _ e]
                · by_cases e : i = n
                  · subst e; exact ⟨_, zU_s _ _ _ _⟩
                  · rw [zU_n _ _ (by omega), xA10, if_pos (show i < al 2 by omega)]; exact ⟨_, rfl⟩
                rintro r ad2 w2 ⟨rfl, had2, cpx, hcpx, rfl⟩
                show V X RX9 cX9_cut _ _ _ _ ad2 _ 128 _ [_]
                refine v_pop dX9_cut_128 rfl ?_
                have e00 : ad2 0 0 = ad 0 0 := by rw [had2 0 0 (by omega) (by omega)]; exact had1 0 0 (by omega)
                first | rw [← e00] | rw [← had2 0 0 (by omega) (by omega)]
                have hZ2 : XZ s0 (uN cp 2 cpx) ad2 := fun c hc h0 => by
                  by_cases e : c = 2
                  · subst e; rw [uN_s] at h0; omega
                  · rw [uN_n _ _ e] at h0
                    rw [had2 7 c (by omega) (by omega), had1 7 c (by omega)]; exact hZ c hc h0
                refine v_aload_n dX9_cut_129 rfl ?_
                refine v_aload_n dX9_cut_130 rfl ?_
                refine xg_X9_19 dX9_cut_131 ?_
                refine v_cVi0 hB k_X9_77 (pJx4a65c_size_8abf5 (by omega)) (by decide) ⟨by decide, by decide⟩ rfl rfl (Nat.le_of_ble_eq_true rfl) dX9_cut_134 ?_
                refine v_iconst_v (v := 1) dX9_cut_137 (by decide) ?_
                refine v_isub dX9_cut_138 ?_
                refine v_eq (show nI (uN cn 2 (n + 1) 2) - 1 = nI n by rw [uN_s]; exact nI_pred n) ?_
                refine v_cVi1 hB k_X9_90 pX9_accept (by decide) ⟨by decide, by decide⟩ rfl rfl (Nat.le_of_ble_eq_true rfl) dX9_cut_139 ?_
                have hS : s_cut f (nI gN) L wd t sc ar = (nI n, upd (upd sc 4 (nI (n + 1))) 1 0, putA (putA (putA (putA (putA (putA (putA ar 18 n f) 19 n (nI gN)) 20 n L) 21 n wd) 22 n t) 23 n (sc 8)) 24 n (-2)) := by
                  unfold s_cut; rw [if_pos hfg, if_pos ⟨h29, h40, h51⟩, cl_nI (n := gN) (by omega), if_pos h75, if_neg (by rw [e2]; exact fun z => absurd ((nI_eq (b := 200) (by omega) (by decide)).mp z) (by omega)), e2, cl_nI (by omega), nI_1]
                rw [hS] at hB
                refine v_iret hB (by decide) (by decide) dX9_cut_142 ⟨rfl, e00, tau, js, upd mo 2 (mo 2 + 1), uN cp 2 cpx, uN cn 2 (n + 1), uN al 2 (n + 1), q3, pa, pn, ?_, hJ.add (k := 2) (by decide) (by decide) (by omega) hcpx (fun c hc => ?_) rfl rfl rfl (fun q i h1 h2 => by
                  obtain ⟨-, ⟨m0, m1, m2, m3, m4⟩, -⟩ := hQ q h1
                  obtain ⟨-, k2, -⟩ := hq3 q h1
                  obtain ⟨s, s1, s2⟩ := m4 i (by have : pn q = m0 := (nI_eq (by have := (hq3 q h1).2.2.1; omega) (by omega)).mp (k2.trans m3); omega)
                  rw [s2, cl_nI (by omega)]
                  show putA (putA (putA (putA (putA (putA (putA ar 18 n f) 19 n (nI gN)) 20 n L) 21 n wd) 22 n t) 23 n (sc 8)) 24 n (-2) 22 s = ar 22 s
                  rw [putA_n _ _ _ (by decide), putA_n _ _ _ (by decide), putA_m _ _ _ (by omega), putA_n _ _ _ (by decide), putA_n _ _ _ (by decide), putA_n _ _ _ (by decide), putA_n _ _ _ (by decide)]), hZ2⟩
                · exact xW_seen (by refine ⟨?_, ?_, ?_, ?_⟩ <;> simp [upd]) (fun _ _ _ => rfl)
                · show cl (upd (upd sc 4 (nI (n + 1))) 1 0 (c + 2)) = _
                  rw [pk_un (by omega)]
                  by_cases e : c = 2
                  · rw [if_pos e, e, pk_us, cl_nI (by omega)]
                  · rw [if_neg e, pk_un (by omega)]; exact hI.cl (by omega) (by omega)
              · have h94 : ¬ n < 200 := fun z => h94 (by rw [c2, hn]; exact nI_lt (b := 200) z (by decide))
                refine v_aload_n dX9_cut_97 rfl ?_
                refine v_iconst_v (v := 3) dX9_cut_98 (by decide) ?_
                refine v_cVi1 hB k_X9_73 pX9_refuse (by decide) ⟨by decide, by decide⟩ rfl rfl (Nat.le_of_ble_eq_true rfl) dX9_cut_99 ?_
                exact v_iret hB (by decide) (by decide) dX9_cut_102 (clP_same hI hJ hZ (show s_cut f (nI gN) L wd t sc ar = (-1, upd sc 1 3, ar) by unfold s_cut; rw [if_pos hfg, if_pos ⟨h29, h40, h51⟩, cl_nI (by omega), if_pos h75, if_pos (by rw [e2, show n = 200 by omega]; rfl)]) (fun j h1 h2 => pk_un (by omega)) rfl rfl rfl rfl)
            · rw [bI_eq] at h75
              refine v_aload_n dX9_cut_78 rfl ?_
              refine v_iconst_v (v := 4) dX9_cut_79 (by decide) ?_
              refine v_cVi1 hB k_X9_73 pX9_refuse (by decide) ⟨by decide, by decide⟩ rfl rfl (Nat.le_of_ble_eq_true rfl) dX9_cut_80 ?_
              exact v_iret hB (by decide) (by decide) dX9_cut_83 (clP_same hI hJ hZ (show s_cut f (nI gN) L wd t sc ar = (-1, upd sc 1 4, ar) by unfold s_cut; rw [if_pos hfg, if_pos ⟨h29, h40, h51⟩, cl_nI (by omega), if_neg h75]) (fun j h1 h2 => pk_un (by omega)) rfl rfl rfl rfl)
          · rw [bI_eq] at h51
            refine v_aload_n dX9_cut_54 rfl ?_
            refine v_iconst_v (v := 2) dX9_cut_55 (by decide) ?_
            refine v_cVi1 hB k_X9_73 pX9_refuse (by decide) ⟨by decide, by decide⟩ rfl rfl (Nat.le_of_ble_eq_true rfl) dX9_cut_56 ?_
            exact v_iret hB (by decide) (by decide) dX9_cut_59 (clP_same hI hJ hZ (show s_cut f g L wd t sc ar = (-1, upd sc 1 2, ar) by unfold s_cut; rw [if_pos hfg, if_neg (fun z => by first | exact h29 z.1 | exact h40 z.2.1 | exact h51 z.2.2)]) (fun j h1 h2 => pk_un (by omega)) rfl rfl rfl rfl)
    · rw [bI_eq] at h13
      refine v_aload_n dX9_cut_16 rfl ?_
      refine v_iconst_v (v := 1) dX9_cut_17 (by decide) ?_
      refine v_cVi1 hB k_X9_73 pX9_refuse (by decide) ⟨by decide, by decide⟩ rfl rfl (Nat.le_of_ble_eq_true rfl) dX9_cut_18 ?_
      exact v_iret hB (by decide) (by decide) dX9_cut_21 (clP_same hI hJ hZ (show s_cut f g L wd t sc ar = (-1, upd sc 1 1, ar) by unfold s_cut; rw [if_neg (fun z => by first | exact h5 (by rw [c0, ← hN 2 (by decide) (by decide)]; exact z.1) | exact h13 (by rw [c1, ← hN 3 (by decide) (by decide)]; exact z.2))]) (fun j h1 h2 => pk_un (by omega)) rfl rfl rfl rfl)

