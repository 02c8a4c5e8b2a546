theorem mPost {cy : Nat → ClassId} {ad : zA} {v : Int32} {sc' : Nat → Int32} {ar' : Nat → Nat → Int32} {S : zRs} (h : S = (v, sc', ar')) : zPi S.1 ad (mW cy ad S.2.1 S.2.2) (some (.int v)) ad (mW cy ad sc' ar') := by
  subst h; exact ⟨rfl, rfl, rfl⟩
theorem i_ps (x : Int32) : x + 1 - 1 = x := by
  rw [Int32.sub_eq_add_neg, Int32.add_assoc, ← Int32.sub_eq_add_neg]; show x + 0 = x; exact Int32.add_zero x
theorem i_day {a : Int32} {t : Nat} (ht : t ≤ 3000) (h1 : ¬ a ≤ nI t) (h2 : a ≤ 3000) : ∃ n : Nat, n < 3001 ∧ a = nI n := by
  have h0 : ¬ a < 0 := by
    intro z
    rw [Int32.le_iff_toInt_le, nI_toInt (by omega)] at h1
    rw [Int32.lt_iff_toInt_lt] at z
    have e : (0 : Int32).toInt = 0 := by decide
    omega
  obtain ⟨n, h3, h4⟩ := nI_of2 (x := a) (M := 3000) (n := 3000) (by decide) h0 h2
  exact ⟨n, by omega, h4⟩
theorem i_rg {a : Int32} {lo hi : Nat} (h : nI lo ≤ a ∧ a ≤ nI hi) (hh : hi < 2 ^ 31) (hl : lo < 2 ^ 31) : ∃ n : Nat, lo ≤ n ∧ n ≤ hi ∧ a = nI n := by
  have h0 : ¬ a < 0 := by
    intro z
    have h1 := h.1
    rw [Int32.le_iff_toInt_le, nI_toInt hl] at h1
    rw [Int32.lt_iff_toInt_lt] at z
    have e : (0 : Int32).toInt = 0 := by decide
    omega
  obtain ⟨n, h3, rfl⟩ := nI_of h0
  rw [nI_leI hl h3, nI_leI h3 hh] at h
  exact ⟨n, h.1, h.2, rfl⟩
theorem i_ix {a : Int32} {n : Nat} (h : 0 ≤ a ∧ a < nI n) (hn : n < 2 ^ 31) : ∃ k : Nat, k < n ∧ a = nI k := by
  obtain ⟨k, h3, rfl⟩ := nI_of (i_nlt.mpr h.1)
  rw [nI_ltI h3 hn] at h
  exact ⟨k, h.2, rfl⟩
set_option maxHeartbeats 4000000 in
set_option maxRecDepth 100000 in
theorem cM_family {l : Launch} {D : va_G} {cy : Nat → ClassId} {s0 : State} {ad : zA} {sc : Nat → Int32} {ar : Nat → Nat → Int32} {a : Int32}  (hI : MN (upd sc 0 0)) : zM l D cy s0 yX10_family cX10_family 2 (some .int) 2 0 0 [.ref (ad 30 0), .int a] ad (mW cy ad sc ar) (zPi (s_family a (upd sc 0 0) ar).1 ad (mW cy ad (s_family a (upd sc 0 0) ar).2.1 (s_family a (upd sc 0 0) ar).2.2)) := by
  refine zM_of (own := RX10) rfl (by decide) (by simp [Value.category]) (Nat.le_of_ble_eq_true rfl) ?_
  intro X hB
  show V X RX10 cX10_family 2 (some .int) 0 0 ad (mW cy ad sc ar) 0 [some (.ref (ad 30 0)), some (.int a)] []
  refine v_aload_n dX10_family_0 rfl ?_
  refine v_iconst_v (v := 0) dX10_family_1 (by decide) ?_
  refine mp1 dX10_family_2 ?_
  generalize upd sc 0 0 = sc at hI hB ⊢
  obtain ⟨N, hN, b2, b3, b4, b5, b6, b7, b8, b9, b10⟩ := hI
  refine v_iload_n dX10_family_5 rfl ?_
  refine v_iconst_v (v := 0) dX10_family_6 (by decide) ?_
  refine v_bipush_v (v := 20) dX10_family_7 (by decide) ?_
  refine v_cSi3 hB k_X10_132 cM_in (by decide) ⟨by decide, by decide⟩ (Nat.le_of_ble_eq_true rfl) dX10_family_9 ?_
  refine v_if_ne (tgt := 21) dX10_family_12 (by decide) (fun h12 => ?_) (fun h12 => ?_)
  · rw [bI_ne] at h12
    refine v_aload_n dX10_family_21 rfl ?_
    refine mg123 dX10_family_22 ?_
    refine v_bipush_v (v := 8) dX10_family_25 (by decide) ?_
    refine v_icmp_ne (tgt := 36) dX10_family_27 (by decide) (fun h27 => ?_) (fun h27 => ?_)
    · refine v_aload_n dX10_family_36 rfl ?_
      refine mg22 dX10_family_37 ?_
      refine v_aload_n dX10_family_40 rfl ?_
      refine mg123 dX10_family_41 ?_
      refine v_iload_n dX10_family_44 rfl ?_
      refine m_stN 11 (L := 8) hB.cy ⟨rfl, rfl, rfl⟩ (hN 2 (by decide) (by decide)) (by have z := h27; rw [hN 2 (by decide) (by decide)] at z; rw [show (8 : Int32) = nI 8 by decide, nI_eq (by omega) (by decide)] at z; omega) (by decide) dX10_family_45 ?_
      refine v_aload_n dX10_family_46 rfl ?_
      refine v_dup dX10_family_47 rfl ?_
      refine mg123 dX10_family_48 ?_
      refine v_iconst_v (v := 1) dX10_family_51 (by decide) ?_
      refine v_iadd dX10_family_52 ?_
      refine mp123 dX10_family_53 ?_
      refine v_aload_n dX10_family_56 rfl ?_
      refine v_aload_n dX10_family_57 rfl ?_
      refine mg123 dX10_family_58 ?_
      refine v_iconst_v (v := 1) dX10_family_61 (by decide) ?_
      refine v_isub dX10_family_62 ?_
      refine v_eq (i_ps (sc 2)) ?_
      refine v_cVi1 hB k_X10_140 cM_done (by decide) ⟨by decide, by decide⟩ rfl rfl (Nat.le_of_ble_eq_true rfl) dX10_family_63 ?_
      exact v_iret hB (by decide) (by decide) dX10_family_66 (mPost (by unfold s_family; rw [if_pos h12, if_neg h27, hN 2 (by decide) (by decide), cl_nI (by omega)]))
    · refine v_aload_n dX10_family_30 rfl ?_
      refine v_iconst_v (v := 3) dX10_family_31 (by decide) ?_
      refine v_cVi1 hB k_X10_136 cM_refused (by decide) ⟨by decide, by decide⟩ rfl rfl (Nat.le_of_ble_eq_true rfl) dX10_family_32 ?_
      exact v_iret hB (by decide) (by decide) dX10_family_35 (mPost (by unfold s_family; rw [if_pos h12, if_pos h27]))
  · rw [bI_eq] at h12
    refine v_aload_n dX10_family_15 rfl ?_
    refine v_iconst_v (v := 2) dX10_family_16 (by decide) ?_
    refine v_cVi1 hB k_X10_136 cM_refused (by decide) ⟨by decide, by decide⟩ rfl rfl (Nat.le_of_ble_eq_true rfl) dX10_family_17 ?_
    exact v_iret hB (by decide) (by decide) dX10_family_20 (mPost (by unfold s_family; rw [if_neg h12]))

set_option maxHeartbeats 4000000 in
set_option maxRecDepth 100000 in
theorem cM_garden {l : Launch} {D : va_G} {cy : Nat → ClassId} {s0 : State} {ad : zA} {sc : Nat → Int32} {ar : Nat → Nat → Int32} {f : Int32}  (hI : MN (upd sc 0 0)) : zM l D cy s0 yX10_garden cX10_garden 2 (some .int) 2 0 0 [.ref (ad 30 0), .int f] ad (mW cy ad sc ar) (zPi (s_garden f (upd sc 0 0) ar).1 ad (mW cy ad (s_garden f (upd sc 0 0) ar).2.1 (s_garden f (upd sc 0 0) ar).2.2)) := by
  refine zM_of (own := RX10) rfl (by decide) (by simp [Value.category]) (Nat.le_of_ble_eq_true rfl) ?_
  intro X hB
  show V X RX10 cX10_garden 2 (some .int) 0 0 ad (mW cy ad sc ar) 0 [some (.ref (ad 30 0)), some (.int f)] []
  refine v_aload_n dX10_garden_0 rfl ?_
  refine v_iconst_v (v := 0) dX10_garden_1 (by decide) ?_
  refine mp1 dX10_garden_2 ?_
  generalize upd sc 0 0 = sc at hI hB ⊢
  obtain ⟨N, hN, b2, b3, b4, b5, b6, b7, b8, b9, b10⟩ := hI
  refine v_iload_n dX10_garden_5 rfl ?_
  refine v_iconst_v (v := -1) dX10_garden_6 (by decide) ?_
  refine v_icmp_eq (tgt := 24) dX10_garden_7 (by decide) (fun h7 => ?_) (fun h7 => ?_)
  · refine v_aload_n dX10_garden_24 rfl ?_
    refine mg126 dX10_garden_25 ?_
    refine v_bipush_v (v := 12) dX10_garden_28 (by decide) ?_
    refine v_icmp_ne (tgt := 39) dX10_garden_30 (by decide) (fun h30 => ?_) (fun h30 => ?_)
    · refine v_aload_n dX10_garden_39 rfl ?_
      refine mg35 dX10_garden_40 ?_
      refine v_aload_n dX10_garden_43 rfl ?_
      refine mg126 dX10_garden_44 ?_
      refine v_iload_n dX10_garden_47 rfl ?_
      refine m_stN 15 (L := 12) hB.cy ⟨rfl, rfl, rfl⟩ (hN 3 (by decide) (by decide)) (by have z := h30; rw [hN 3 (by decide) (by decide)] at z; rw [show (12 : Int32) = nI 12 by decide, nI_eq (by omega) (by decide)] at z; omega) (by decide) dX10_garden_48 ?_
      refine v_aload_n dX10_garden_49 rfl ?_
      refine v_dup dX10_garden_50 rfl ?_
      refine mg126 dX10_garden_51 ?_
      refine v_iconst_v (v := 1) dX10_garden_54 (by decide) ?_
      refine v_iadd dX10_garden_55 ?_
      refine mp126 dX10_garden_56 ?_
      refine v_aload_n dX10_garden_59 rfl ?_
      refine v_aload_n dX10_garden_60 rfl ?_
      refine mg126 dX10_garden_61 ?_
      refine v_iconst_v (v := 1) dX10_garden_64 (by decide) ?_
      refine v_isub dX10_garden_65 ?_
      refine v_eq (i_ps (sc 3)) ?_
      refine v_cVi1 hB k_X10_140 cM_done (by decide) ⟨by decide, by decide⟩ rfl rfl (Nat.le_of_ble_eq_true rfl) dX10_garden_66 ?_
      exact v_iret hB (by decide) (by decide) dX10_garden_69 (mPost (by unfold s_garden; rw [hN 3 (by decide) (by decide)] at h30 ⊢; first | rw [if_pos (Or.inl h7), if_neg h30, cl_nI (by omega)] | rw [if_pos (Or.inr h15), if_neg h30, cl_nI (by omega)]))
    · refine v_aload_n dX10_garden_33 rfl ?_
      refine v_iconst_v (v := 3) dX10_garden_34 (by decide) ?_
      refine v_cVi1 hB k_X10_136 cM_refused (by decide) ⟨by decide, by decide⟩ rfl rfl (Nat.le_of_ble_eq_true rfl) dX10_garden_35 ?_
      exact v_iret hB (by decide) (by decide) dX10_garden_38 (mPost (by unfold s_garden; first | rw [if_pos (Or.inl h7), if_pos h30] | rw [if_pos (Or.inr h15), if_pos h30]))
  · refine v_aload_n dX10_garden_10 rfl ?_
    refine v_iload_n dX10_garden_11 rfl ?_
    refine v_cVi1 hB k_X10_143 cM_isFamily (by decide) ⟨by decide, by decide⟩ rfl rfl (Nat.le_of_ble_eq_true rfl) dX10_garden_12 ?_
    refine v_if_ne (tgt := 24) dX10_garden_15 (by decide) (fun h15 => ?_) (fun h15 => ?_)
    · rw [bI_ne] at h15
      refine v_aload_n dX10_garden_24 rfl ?_
      refine mg126 dX10_garden_25 ?_
      refine v_bipush_v (v := 12) dX10_garden_28 (by decide) ?_
      refine v_icmp_ne (tgt := 39) dX10_garden_30 (by decide) (fun h30 => ?_) (fun h30 => ?_)
      · refine v_aload_n dX10_garden_39 rfl ?_
        refine mg35 dX10_garden_40 ?_
        refine v_aload_n dX10_garden_43 rfl ?_
        refine mg126 dX10_garden_44 ?_
        refine v_iload_n dX10_garden_47 rfl ?_
        refine m_stN 15 (L := 12) hB.cy ⟨rfl, rfl, rfl⟩ (hN 3 (by decide) (by decide)) (by have z := h30; rw [hN 3 (by decide) (by decide)] at z; rw [show (12 : Int32) = nI 12 by decide, nI_eq (by omega) (by decide)] at z; omega) (by decide) dX10_garden_48 ?_
        refine v_aload_n dX10_garden_49 rfl ?_
        refine v_dup dX10_garden_50 rfl ?_
        refine mg126 dX10_garden_51 ?_
        refine v_iconst_v (v := 1) dX10_garden_54 (by decide) ?_
        refine v_iadd dX10_garden_55 ?_
        refine mp126 dX10_garden_56 ?_
        refine v_aload_n dX10_garden_59 rfl ?_
        refine v_aload_n dX10_garden_60 rfl ?_
        refine mg126 dX10_garden_61 ?_
        refine v_iconst_v (v := 1) dX10_garden_64 (by decide) ?_
        refine v_isub dX10_garden_65 ?_
        refine v_eq (i_ps (sc 3)) ?_
        refine v_cVi1 hB k_X10_140 cM_done (by decide) ⟨by decide, by decide⟩ rfl rfl (Nat.le_of_ble_eq_true rfl) dX10_garden_66 ?_
        exact v_iret hB (by decide) (by decide) dX10_garden_69 (mPost (by unfold s_garden; rw [hN 3 (by decide) (by decide)] at h30 ⊢; first | rw [if_pos (Or.inl h7), if_neg h30, cl_nI (by omega)] | rw [if_pos (Or.inr h15), if_neg h30, cl_nI (by omega)]))
      · refine v_aload_n dX10_garden_33 rfl ?_
        refine v_iconst_v (v := 3) dX10_garden_34 (by decide) ?_
        refine v_cVi1 hB k_X10_136 cM_refused (by decide) ⟨by decide, by decide⟩ rfl rfl (Nat.le_of_ble_eq_true rfl) dX10_garden_35 ?_
        exact v_iret hB (by decide) (by decide) dX10_garden_38 (mPost (by unfold s_garden; first | rw [if_pos (Or.inl h7), if_pos h30] | rw [if_pos (Or.inr h15), if_pos h30]))
    · rw [bI_eq] at h15
      refine v_aload_n dX10_garden_18 rfl ?_
      refine v_iconst_v (v := 1) dX10_garden_19 (by decide) ?_
      refine v_cVi1 hB k_X10_136 cM_refused (by decide) ⟨by decide, by decide⟩ rfl rfl (Nat.le_of_ble_eq_true rfl) dX10_garden_20 ?_
      exact v_iret hB (by decide) (by decide) dX10_garden_23 (mPost (by unfold s_garden; rw [if_neg (fun z => z.elim h7 h15)]))

set_option maxHeartbeats 4000000 in
set_option maxRecDepth 100000 in
theorem cM_set {l : Launch} {D : va_G} {cy : Nat → ClassId} {s0 : State} {ad : zA} {sc : Nat → Int32} {ar : Nat → Nat → Int32} {a b : Int32}  (hI : MN (upd sc 0 0)) : zM l D cy s0 yX10_set cX10_set 3 (some .boolean) 2 0 0 [.ref (ad 30 0), .int a, .int b] ad (mW cy ad sc ar) (zPi (s_set a b (upd sc 0 0) ar).1 ad (mW cy ad (s_set a b (upd sc 0 0) ar).2.1 (s_set a b (upd sc 0 0) ar).2.2)) := by
  refine zM_of (own := RX10) rfl (by decide) (by simp [Value.category]) (Nat.le_of_ble_eq_true rfl) ?_
  intro X hB
  show V X RX10 cX10_set 3 (some .boolean) 0 0 ad (mW cy ad sc ar) 0 [some (.ref (ad 30 0)), some (.int a), some (.int b)] []
  refine v_aload_n dX10_set_0 rfl ?_
  refine v_iconst_v (v := 0) dX10_set_1 (by decide) ?_
  refine mp1 dX10_set_2 ?_
  generalize upd sc 0 0 = sc at hI hB ⊢
  obtain ⟨N, hN, b2, b3, b4, b5, b6, b7, b8, b9, b10⟩ := hI
  refine v_iload_n dX10_set_5 rfl ?_
  refine v_bipush_v (v := 10) dX10_set_6 (by decide) ?_
  refine v_bipush_v (v := 99) dX10_set_8 (by decide) ?_
  refine v_cSi3 hB k_X10_132 cM_in (by decide) ⟨by decide, by decide⟩ (Nat.le_of_ble_eq_true rfl) dX10_set_10 ?_
  refine v_if_eq (tgt := 26) dX10_set_13 (by decide) (fun h13 => ?_) (fun h13 => ?_)
  · rw [bI_eq] at h13
    refine v_aload_n dX10_set_26 rfl ?_
    refine v_iconst_v (v := 2) dX10_set_27 (by decide) ?_
    refine v_cVi1 hB k_X10_147 cM_denied (by decide) ⟨by decide, by decide⟩ rfl rfl (Nat.le_of_ble_eq_true rfl) dX10_set_28 ?_
    exact v_zret hB (by decide) (by decide) dX10_set_31 rfl (mPost (by unfold s_set; first | rw [if_neg (fun z => h13 z.1)] | rw [if_neg (fun z => h23 z.2)]))
  · rw [bI_ne] at h13
    refine v_iload_n dX10_set_16 rfl ?_
    refine v_iconst_v (v := 0) dX10_set_17 (by decide) ?_
    refine v_bipush_v (v := 9) dX10_set_18 (by decide) ?_
    refine v_cSi3 hB k_X10_132 cM_in (by decide) ⟨by decide, by decide⟩ (Nat.le_of_ble_eq_true rfl) dX10_set_20 ?_
    refine v_if_ne (tgt := 32) dX10_set_23 (by decide) (fun h23 => ?_) (fun h23 => ?_)
    · rw [bI_ne] at h23
      refine v_aload_n dX10_set_32 rfl ?_
      refine v_iload_n dX10_set_33 rfl ?_
      refine mp16 dX10_set_34 ?_
      refine v_aload_n dX10_set_37 rfl ?_
      refine v_iload_n dX10_set_38 rfl ?_
      refine mp19 dX10_set_39 ?_
      refine v_aload_n dX10_set_42 rfl ?_
      refine v_cVi0 hB k_X10_150 cM_granted (by decide) ⟨by decide, by decide⟩ rfl rfl (Nat.le_of_ble_eq_true rfl) dX10_set_43 ?_
      exact v_zret hB (by decide) (by decide) dX10_set_46 rfl (mPost (by unfold s_set; rw [if_pos ⟨h13, h23⟩]))
    · rw [bI_eq] at h23
      refine v_aload_n dX10_set_26 rfl ?_
      refine v_iconst_v (v := 2) dX10_set_27 (by decide) ?_
      refine v_cVi1 hB k_X10_147 cM_denied (by decide) ⟨by decide, by decide⟩ rfl rfl (Nat.le_of_ble_eq_true rfl) dX10_set_28 ?_
      exact v_zret hB (by decide) (by decide) dX10_set_31 rfl (mPost (by unfold s_set; first | rw [if_neg (fun z => h13 z.1)] | rw [if_neg (fun z => h23 z.2)]))

set_option maxHeartbeats 4000000 in
set_option maxRecDepth 100000 in
theorem cM_price {l : Launch} {D : va_G} {cy : Nat → ClassId} {s0 : State} {ad : zA} {sc : Nat → Int32} {ar : Nat → Nat → Int32} {g q : Int32}  (hI : MN (upd sc 0 0)) : zM l D cy s0 yX10_price cX10_price 3 (some .boolean) 2 0 0 [.ref (ad 30 0), .int g, .int q] ad (mW cy ad sc ar) (zPi (s_price g q (upd sc 0 0) ar).1 ad (mW cy ad (s_price g q (upd sc 0 0) ar).2.1 (s_price g q (upd sc 0 0) ar).2.2)) := by
  refine zM_of (own := RX10) rfl (by decide) (by simp [Value.category]) (Nat.le_of_ble_eq_true rfl) ?_
  intro X hB
  show V X RX10 cX10_price 3 (some .boolean) 0 0 ad (mW cy ad sc ar) 0 [some (.ref (ad 30 0)), some (.int g), some (.int q)] []
  refine v_aload_n dX10_price_0 rfl ?_
  refine v_iconst_v (v := 0) dX10_price_1 (by decide) ?_
  refine mp1 dX10_price_2 ?_
  generalize upd sc 0 0 = sc at hI hB ⊢
  obtain ⟨N, hN, b2, b3, b4, b5, b6, b7, b8, b9, b10⟩ := hI
  refine v_iload_n dX10_price_5 rfl ?_
  refine v_iconst_v (v := 1) dX10_price_6 (by decide) ?_
  refine v_iconst_v (v := 4) dX10_price_7 (by decide) ?_
  refine v_cSi3 hB k_X10_132 cM_in (by decide) ⟨by decide, by decide⟩ (Nat.le_of_ble_eq_true rfl) dX10_price_8 ?_
  refine v_if_ne (tgt := 20) dX10_price_11 (by decide) (fun h11 => ?_) (fun h11 => ?_)
  · rw [bI_ne] at h11
    refine v_iload_n dX10_price_20 rfl ?_
    refine v_iconst_v (v := 0) dX10_price_21 (by decide) ?_
    refine v_sipush_v (v := 9999) dX10_price_22 (by decide) ?_
    refine v_cSi3 hB k_X10_132 cM_in (by decide) ⟨by decide, by decide⟩ (Nat.le_of_ble_eq_true rfl) dX10_price_25 ?_
    refine v_if_ne (tgt := 37) dX10_price_28 (by decide) (fun h28 => ?_) (fun h28 => ?_)
    · rw [bI_ne] at h28
      obtain ⟨n, hn1, hn2, rfl⟩ := i_rg (lo := 1) (hi := 4) h11 (by decide) (by decide)
      refine v_aload_n dX10_price_37 rfl ?_
      refine mg38 dX10_price_38 ?_
      refine v_iload_n dX10_price_41 rfl ?_
      refine v_iload_n dX10_price_42 rfl ?_
      refine m_stN 16 (L := 5) hB.cy ⟨rfl, rfl, rfl⟩ rfl (by omega) (by decide) dX10_price_43 ?_
      refine v_aload_n dX10_price_44 rfl ?_
      refine v_cVi0 hB k_X10_150 cM_granted (by decide) ⟨by decide, by decide⟩ rfl rfl (Nat.le_of_ble_eq_true rfl) dX10_price_45 ?_
      exact v_zret hB (by decide) (by decide) dX10_price_48 rfl (mPost (by unfold s_price; rw [if_pos h11, if_pos h28, cl_nI (by omega)]))
    · rw [bI_eq] at h28
      refine v_aload_n dX10_price_31 rfl ?_
      refine v_iconst_v (v := 2) dX10_price_32 (by decide) ?_
      refine v_cVi1 hB k_X10_147 cM_denied (by decide) ⟨by decide, by decide⟩ rfl rfl (Nat.le_of_ble_eq_true rfl) dX10_price_33 ?_
      exact v_zret hB (by decide) (by decide) dX10_price_36 rfl (mPost (by unfold s_price; rw [if_pos h11, if_neg h28]))
  · rw [bI_eq] at h11
    refine v_aload_n dX10_price_14 rfl ?_
    refine v_iconst_v (v := 1) dX10_price_15 (by decide) ?_
    refine v_cVi1 hB k_X10_147 cM_denied (by decide) ⟨by decide, by decide⟩ rfl rfl (Nat.le_of_ble_eq_true rfl) dX10_price_16 ?_
    exact v_zret hB (by decide) (by decide) dX10_price_19 rfl (mPost (by unfold s_price; rw [if_neg h11]))

set_option maxHeartbeats 4000000 in
set_option maxRecDepth 100000 in
theorem cM_rain {l : Launch} {D : va_G} {cy : Nat → ClassId} {s0 : State} {ad : zA} {sc : Nat → Int32} {ar : Nat → Nat → Int32} {a b : Int32}  (hI : MN (upd sc 0 0)) (hb : vp_nar .boolean b = b) : zM l D cy s0 yX10_rain cX10_rain 3 (some .boolean) 2 0 0 [.ref (ad 30 0), .int a, .int b] ad (mW cy ad sc ar) (zPi (s_rain a b (upd sc 0 0) ar).1 ad (mW cy ad (s_rain a b (upd sc 0 0) ar).2.1 (s_rain a b (upd sc 0 0) ar).2.2)) := by
  refine zM_of (own := RX10) rfl (by decide) (by simp [Value.category]) (Nat.le_of_ble_eq_true rfl) ?_
  intro X hB
  show V X RX10 cX10_rain 3 (some .boolean) 0 0 ad (mW cy ad sc ar) 0 [some (.ref (ad 30 0)), some (.int a), some (.int b)] []
  refine v_aload_n dX10_rain_0 rfl ?_
  refine v_iconst_v (v := 0) dX10_rain_1 (by decide) ?_
  refine mp1 dX10_rain_2 ?_
  generalize upd sc 0 0 = sc at hI hB ⊢
  obtain ⟨N, hN, b2, b3, b4, b5, b6, b7, b8, b9, b10⟩ := hI
  refine v_iload_n dX10_rain_5 rfl ?_
  refine v_aload_n dX10_rain_6 rfl ?_
  refine mg154 dX10_rain_7 ?_
  refine v_icmp_le (tgt := 20) dX10_rain_10 (by decide) (fun h10 => ?_) (fun h10 => ?_)
  · refine v_aload_n dX10_rain_20 rfl ?_
    refine v_iconst_v (v := 2) dX10_rain_21 (by decide) ?_
    refine v_cVi1 hB k_X10_147 cM_denied (by decide) ⟨by decide, by decide⟩ rfl rfl (Nat.le_of_ble_eq_true rfl) dX10_rain_22 ?_
    exact v_zret hB (by decide) (by decide) dX10_rain_25 rfl (mPost (by unfold s_rain; first | rw [if_pos (Or.inl h10)] | rw [if_pos (Or.inr (i_nle.mp h17))]))
  · refine v_iload_n dX10_rain_13 rfl ?_
    refine v_sipush_v (v := 3000) dX10_rain_14 (by decide) ?_
    refine v_icmp_le (tgt := 26) dX10_rain_17 (by decide) (fun h17 => ?_) (fun h17 => ?_)
    · obtain ⟨n, hn, rfl⟩ := i_day b8 (by rw [hN 8 (by decide) (by decide)] at h10; exact h10) h17
      refine v_aload_n dX10_rain_26 rfl ?_
      refine mg41 dX10_rain_27 ?_
      refine v_iload_n dX10_rain_30 rfl ?_
      refine v_iload_n dX10_rain_31 rfl ?_
      refine m_szN 17 (L := 3001) hB.cy ⟨rfl, rfl, rfl⟩ rfl hn (by decide) dX10_rain_32 ?_
      refine v_aload_n dX10_rain_33 rfl ?_
      refine v_cVi0 hB k_X10_150 cM_granted (by decide) ⟨by decide, by decide⟩ rfl rfl (Nat.le_of_ble_eq_true rfl) dX10_rain_34 ?_
      exact v_zret hB (by decide) (by decide) dX10_rain_37 rfl (mPost (by unfold s_rain; rw [if_neg (fun z => z.elim h10 (fun q => (i_nlt.mpr h17) q)), hb, cl_nI (by omega)]))
    · refine v_aload_n dX10_rain_20 rfl ?_
      refine v_iconst_v (v := 2) dX10_rain_21 (by decide) ?_
      refine v_cVi1 hB k_X10_147 cM_denied (by decide) ⟨by decide, by decide⟩ rfl rfl (Nat.le_of_ble_eq_true rfl) dX10_rain_22 ?_
      exact v_zret hB (by decide) (by decide) dX10_rain_25 rfl (mPost (by unfold s_rain; first | rw [if_pos (Or.inl h10)] | rw [if_pos (Or.inr (i_nle.mp h17))]))

set_option maxHeartbeats 4000000 in
set_option maxRecDepth 100000 in
theorem cM_cut {l : Launch} {D : va_G} {cy : Nat → ClassId} {s0 : State} {ad : zA} {sc : Nat → Int32} {ar : Nat → Nat → Int32} {f g L wd t : Int32}  (hI : MN (upd sc 0 0)) : zM l D cy s0 yX10_cut cX10_cut 6 (some .int) 2 0 0 [.ref (ad 30 0), .int f, .int g, .int L, .int wd, .int t] ad (mW cy ad sc ar) (zPi (s_cut f g L wd t (upd sc 0 0) ar).1 ad (mW cy ad (s_cut f g L wd t (upd sc 0 0) ar).2.1 (s_cut f g L wd t (upd sc 0 0) ar).2.2)) := by
  refine zM_of (own := RX10) rfl (by decide) (by simp [Value.category]) (Nat.le_of_ble_eq_true rfl) ?_
  intro X hB
  show V X RX10 cX10_cut 6 (some .int) 0 0 ad (mW cy ad sc ar) 0 [some (.ref (ad 30 0)), some (.int f), some (.int g), some (.int L), some (.int wd), some (.int t)] []
  refine v_aload_n dX10_cut_0 rfl ?_
  refine v_iconst_v (v := 0) dX10_cut_1 (by decide) ?_
  refine mp1 dX10_cut_2 ?_
  generalize upd sc 0 0 = sc at hI hB ⊢
  obtain ⟨N, hN, b2, b3, b4, b5, b6, b7, b8, b9, b10⟩ := hI
  refine v_aload_n dX10_cut_5 rfl ?_
  refine v_iload_n dX10_cut_6 rfl ?_
  refine v_cVi1 hB k_X10_143 cM_isFamily (by decide) ⟨by decide, by decide⟩ rfl rfl (Nat.le_of_ble_eq_true rfl) dX10_cut_7 ?_
  refine v_if_eq (tgt := 21) dX10_cut_10 (by decide) (fun h10 => ?_) (fun h10 => ?_)
  · rw [bI_eq] at h10
    refine v_aload_n dX10_cut_21 rfl ?_
    refine v_iconst_v (v := 1) dX10_cut_22 (by decide) ?_
    refine v_cVi1 hB k_X10_136 cM_refused (by decide) ⟨by decide, by decide⟩ rfl rfl (Nat.le_of_ble_eq_true rfl) dX10_cut_23 ?_
    exact v_iret hB (by decide) (by decide) dX10_cut_26 (mPost (by unfold s_cut; first | rw [if_neg (fun z => h10 z.1)] | rw [if_neg (fun z => h18 z.2)]))
  · rw [bI_ne] at h10
    refine v_aload_n dX10_cut_13 rfl ?_
    refine v_iload_n dX10_cut_14 rfl ?_
    refine v_cVi1 hB k_X10_157 cM_isGarden (by decide) ⟨by decide, by decide⟩ rfl rfl (Nat.le_of_ble_eq_true rfl) dX10_cut_15 ?_
    refine v_if_ne (tgt := 27) dX10_cut_18 (by decide) (fun h18 => ?_) (fun h18 => ?_)
    · rw [bI_ne] at h18
      refine v_iload_n dX10_cut_27 rfl ?_
      refine v_iconst_v (v := 1) dX10_cut_28 (by decide) ?_
      refine v_bipush_v (v := 60) dX10_cut_29 (by decide) ?_
      refine v_cSi3 hB k_X10_132 cM_in (by decide) ⟨by decide, by decide⟩ (Nat.le_of_ble_eq_true rfl) dX10_cut_31 ?_
      refine v_if_eq (tgt := 59) dX10_cut_34 (by decide) (fun h34 => ?_) (fun h34 => ?_)
      · rw [bI_eq] at h34
        refine v_aload_n dX10_cut_59 rfl ?_
        refine v_iconst_v (v := 2) dX10_cut_60 (by decide) ?_
        refine v_cVi1 hB k_X10_136 cM_refused (by decide) ⟨by decide, by decide⟩ rfl rfl (Nat.le_of_ble_eq_true rfl) dX10_cut_61 ?_
        exact v_iret hB (by decide) (by decide) dX10_cut_64 (mPost (by unfold s_cut; first | rw [if_pos ⟨h10, h18⟩, if_neg (fun z => h34 z.1)] | rw [if_pos ⟨h10, h18⟩, if_neg (fun z => h45 z.2.1)] | rw [if_pos ⟨h10, h18⟩, if_neg (fun z => h56 z.2.2)]))
      · rw [bI_ne] at h34
        refine v_iload dX10_cut_37 rfl ?_
        refine v_iconst_v (v := 1) dX10_cut_39 (by decide) ?_
        refine v_bipush_v (v := 9) dX10_cut_40 (by decide) ?_
        refine v_cSi3 hB k_X10_132 cM_in (by decide) ⟨by decide, by decide⟩ (Nat.le_of_ble_eq_true rfl) dX10_cut_42 ?_
        refine v_if_eq (tgt := 59) dX10_cut_45 (by decide) (fun h45 => ?_) (fun h45 => ?_)
        · rw [bI_eq] at h45
          refine v_aload_n dX10_cut_59 rfl ?_
          refine v_iconst_v (v := 2) dX10_cut_60 (by decide) ?_
          refine v_cVi1 hB k_X10_136 cM_refused (by decide) ⟨by decide, by decide⟩ rfl rfl (Nat.le_of_ble_eq_true rfl) dX10_cut_61 ?_
          exact v_iret hB (by decide) (by decide) dX10_cut_64 (mPost (by unfold s_cut; first | rw [if_pos ⟨h10, h18⟩, if_neg (fun z => h34 z.1)] | rw [if_pos ⟨h10, h18⟩, if_neg (fun z => h45 z.2.1)] | rw [if_pos ⟨h10, h18⟩, if_neg (fun z => h56 z.2.2)]))
        · rw [bI_ne] at h45
          refine v_iload dX10_cut_48 rfl ?_
          refine v_iconst_v (v := 0) dX10_cut_50 (by decide) ?_
          refine v_bipush_v (v := 9) dX10_cut_51 (by decide) ?_
          refine v_cSi3 hB k_X10_132 cM_in (by decide) ⟨by decide, by decide⟩ (Nat.le_of_ble_eq_true rfl) dX10_cut_53 ?_
          refine v_if_ne (tgt := 65) dX10_cut_56 (by decide) (fun h56 => ?_) (fun h56 => ?_)
          · rw [bI_ne] at h56
            obtain ⟨gn, hgn, rfl⟩ := i_ix (by rw [hN 3 (by decide) (by decide)] at h18; exact h18) (by omega)
            refine v_aload_n dX10_cut_65 rfl ?_
            refine mg35 dX10_cut_66 ?_
            refine v_iload_n dX10_cut_69 rfl ?_
            refine m_ldN 15 (L := 12) hB.cy ⟨rfl, rfl, rfl⟩ rfl (by omega) (by decide) dX10_cut_70 ?_
            refine v_iconst_v (v := -1) dX10_cut_71 (by decide) ?_
            refine v_icmp_eq (tgt := 91) dX10_cut_72 (by decide) (fun h72 => ?_) (fun h72 => ?_)
            · refine v_aload_n dX10_cut_91 rfl ?_
              refine mg129 dX10_cut_92 ?_
              refine v_sipush_v (v := 200) dX10_cut_95 (by decide) ?_
              refine v_icmp_ne (tgt := 107) dX10_cut_98 (by decide) (fun h98 => ?_) (fun h98 => ?_)
              · refine v_aload_n dX10_cut_107 rfl ?_
                refine mg45 dX10_cut_108 ?_
                refine v_aload_n dX10_cut_111 rfl ?_
                refine mg129 dX10_cut_112 ?_
                refine v_iload_n dX10_cut_115 rfl ?_
                refine m_stN 18 (L := 200) hB.cy ⟨rfl, rfl, rfl⟩ (hN 4 (by decide) (by decide)) (by have z := h98; rw [hN 4 (by decide) (by decide)] at z; rw [show (200 : Int32) = nI 200 by decide, nI_eq (by omega) (by decide)] at z; omega) (by decide) dX10_cut_116 ?_
                refine v_aload_n dX10_cut_117 rfl ?_
                refine mg48 dX10_cut_118 ?_
                refine v_aload_n dX10_cut_121 rfl ?_
                refine mg129 dX10_cut_122 ?_
                refine v_iload_n dX10_cut_125 rfl ?_
                refine m_stN 19 (L := 200) hB.cy ⟨rfl, rfl, rfl⟩ (hN 4 (by decide) (by decide)) (by have z := h98; rw [hN 4 (by decide) (by decide)] at z; rw [show (200 : Int32) = nI 200 by decide, nI_eq (by omega) (by decide)] at z; omega) (by decide) dX10_cut_126 ?_
                refine v_aload_n dX10_cut_127 rfl ?_
                refine mg51 dX10_cut_128 ?_
                refine v_aload_n dX10_cut_131 rfl ?_
                refine mg129 dX10_cut_132 ?_
                refine v_iload_n dX10_cut_135 rfl ?_
                refine m_stN 20 (L := 200) hB.cy ⟨rfl, rfl, rfl⟩ (hN 4 (by decide) (by decide)) (by have z := h98; rw [hN 4 (by decide) (by decide)] at z; rw [show (200 : Int32) = nI 200 by decide, nI_eq (by omega) (by decide)] at z; omega) (by decide) dX10_cut_136 ?_
                refine v_aload_n dX10_cut_137 rfl ?_
                refine mg54 dX10_cut_138 ?_
                refine v_aload_n dX10_cut_141 rfl ?_
                refine mg129 dX10_cut_142 ?_
                refine v_iload dX10_cut_145 rfl ?_
                refine m_stN 21 (L := 200) hB.cy ⟨rfl, rfl, rfl⟩ (hN 4 (by decide) (by decide)) (by have z := h98; rw [hN 4 (by decide) (by decide)] at z; rw [show (200 : Int32) = nI 200 by decide, nI_eq (by omega) (by decide)] at z; omega) (by decide) dX10_cut_147 ?_
                refine v_aload_n dX10_cut_148 rfl ?_
                refine mg57 dX10_cut_149 ?_
                refine v_aload_n dX10_cut_152 rfl ?_
                refine mg129 dX10_cut_153 ?_
                refine v_iload dX10_cut_156 rfl ?_
                refine m_stN 22 (L := 200) hB.cy ⟨rfl, rfl, rfl⟩ (hN 4 (by decide) (by decide)) (by have z := h98; rw [hN 4 (by decide) (by decide)] at z; rw [show (200 : Int32) = nI 200 by decide, nI_eq (by omega) (by decide)] at z; omega) (by decide) dX10_cut_158 ?_
                refine v_aload_n dX10_cut_159 rfl ?_
                refine mg60 dX10_cut_160 ?_
                refine v_aload_n dX10_cut_163 rfl ?_
                refine mg129 dX10_cut_164 ?_
                refine v_aload_n dX10_cut_167 rfl ?_
                refine mg154 dX10_cut_168 ?_
                refine m_stN 23 (L := 200) hB.cy ⟨rfl, rfl, rfl⟩ (hN 4 (by decide) (by decide)) (by have z := h98; rw [hN 4 (by decide) (by decide)] at z; rw [show (200 : Int32) = nI 200 by decide, nI_eq (by omega) (by decide)] at z; omega) (by decide) dX10_cut_171 ?_
                refine v_aload_n dX10_cut_172 rfl ?_
                refine mg63 dX10_cut_173 ?_
                refine v_aload_n dX10_cut_176 rfl ?_
                refine mg129 dX10_cut_177 ?_
                refine v_bipush_v (v := -2) dX10_cut_180 (by decide) ?_
                refine m_stN 24 (L := 200) hB.cy ⟨rfl, rfl, rfl⟩ (hN 4 (by decide) (by decide)) (by have z := h98; rw [hN 4 (by decide) (by decide)] at z; rw [show (200 : Int32) = nI 200 by decide, nI_eq (by omega) (by decide)] at z; omega) (by decide) dX10_cut_182 ?_
                refine v_aload_n dX10_cut_183 rfl ?_
                refine v_dup dX10_cut_184 rfl ?_
                refine mg129 dX10_cut_185 ?_
                refine v_iconst_v (v := 1) dX10_cut_188 (by decide) ?_
                refine v_iadd dX10_cut_189 ?_
                refine mp129 dX10_cut_190 ?_
                refine v_aload_n dX10_cut_193 rfl ?_
                refine v_aload_n dX10_cut_194 rfl ?_
                refine mg129 dX10_cut_195 ?_
                refine v_iconst_v (v := 1) dX10_cut_198 (by decide) ?_
                refine v_isub dX10_cut_199 ?_
                refine v_eq (i_ps (sc 4)) ?_
                refine v_cVi1 hB k_X10_140 cM_done (by decide) ⟨by decide, by decide⟩ rfl rfl (Nat.le_of_ble_eq_true rfl) dX10_cut_200 ?_
                exact v_iret hB (by decide) (by decide) dX10_cut_203 (mPost (by unfold s_cut; rw [if_pos ⟨h10, h18⟩, if_pos ⟨h34, h45, h56⟩, cl_nI (n := gn) (by omega)]; rw [hN 4 (by decide) (by decide)] at h98 ⊢; first | rw [if_pos (Or.inl h72), if_neg h98, cl_nI (n := N 4) (by omega)] | rw [if_pos (Or.inr h82), if_neg h98, cl_nI (n := N 4) (by omega)]))
              · refine v_aload_n dX10_cut_101 rfl ?_
                refine v_iconst_v (v := 3) dX10_cut_102 (by decide) ?_
                refine v_cVi1 hB k_X10_136 cM_refused (by decide) ⟨by decide, by decide⟩ rfl rfl (Nat.le_of_ble_eq_true rfl) dX10_cut_103 ?_
                exact v_iret hB (by decide) (by decide) dX10_cut_106 (mPost (by unfold s_cut; rw [if_pos ⟨h10, h18⟩, if_pos ⟨h34, h45, h56⟩, cl_nI (by omega)]; first | rw [if_pos (Or.inl h72), if_pos h98] | rw [if_pos (Or.inr h82), if_pos h98]))
            · refine v_aload_n dX10_cut_75 rfl ?_
              refine mg35 dX10_cut_76 ?_
              refine v_iload_n dX10_cut_79 rfl ?_
              refine m_ldN 15 (L := 12) hB.cy ⟨rfl, rfl, rfl⟩ rfl (by omega) (by decide) dX10_cut_80 ?_
              refine v_iload_n dX10_cut_81 rfl ?_
              refine v_icmp_eq (tgt := 91) dX10_cut_82 (by decide) (fun h82 => ?_) (fun h82 => ?_)
              · refine v_aload_n dX10_cut_91 rfl ?_
                refine mg129 dX10_cut_92 ?_
                refine v_sipush_v (v := 200) dX10_cut_95 (by decide) ?_
                refine v_icmp_ne (tgt := 107) dX10_cut_98 (by decide) (fun h98 => ?_) (fun h98 => ?_)
                · refine v_aload_n dX10_cut_107 rfl ?_
                  refine mg45 dX10_cut_108 ?_
                  refine v_aload_n dX10_cut_111 rfl ?_
                  refine mg129 dX10_cut_112 ?_
                  refine v_iload_n dX10_cut_115 rfl ?_
                  refine m_stN 18 (L := 200) hB.cy ⟨rfl, rfl, rfl⟩ (hN 4 (by decide) (by decide)) (by have z := h98; rw [hN 4 (by decide) (by decide)] at z; rw [show (200 : Int32) = nI 200 by decide, nI_eq (by omega) (by decide)] at z; omega) (by decide) dX10_cut_116 ?_
                  refine v_aload_n dX10_cut_117 rfl ?_
                  refine mg48 dX10_cut_118 ?_
                  refine v_aload_n dX10_cut_121 rfl ?_
                  refine mg129 dX10_cut_122 ?_
                  refine v_iload_n dX10_cut_125 rfl ?_
                  refine m_stN 19 (L := 200) hB.cy ⟨rfl, rfl, rfl⟩ (hN 4 (by decide) (by decide)) (by have z := h98; rw [hN 4 (by decide) (by decide)] at z; rw [show (200 : Int32) = nI 200 by decide, nI_eq (by omega) (by decide)] at z; omega) (by decide) dX10_cut_126 ?_
                  refine v_aload_n dX10_cut_127 rfl ?_
                  refine mg51 dX10_cut_128 ?_
                  refine v_aload_n dX10_cut_131 rfl ?_
                  refine mg129 dX10_cut_132 ?_
                  refine v_iload_n dX10_cut_135 rfl ?_
                  refine m_stN 20 (L := 200) hB.cy ⟨rfl, rfl, rfl⟩ (hN 4 (by decide) (by decide)) (by have z := h98; rw [hN 4 (by decide) (by decide)] at z; rw [show (200 : Int32) = nI 200 by decide, nI_eq (by omega) (by decide)] at z; omega) (by decide) dX10_cut_136 ?_
                  refine v_aload_n dX10_cut_137 rfl ?_
                  refine mg54 dX10_cut_138 ?_
                  refine v_aload_n dX10_cut_141 rfl ?_
                  refine mg129 dX10_cut_142 ?_
                  refine v_iload dX10_cut_145 rfl ?_
                  refine m_stN 21 (L := 200) hB.cy ⟨rfl, rfl, rfl⟩ (hN 4 (by decide) (by decide)) (by have z := h98; rw [hN 4 (by decide) (by decide)] at z; rw [show (200 : Int32) = nI 200 by decide, nI_eq (by omega) (by decide)] at z; omega) (by decide) dX10_cut_147 ?_
                  refine v_aload_n dX10_cut_148 rfl ?_
                  refine mg57 dX10_cut_149 ?_
                  refine v_aload_n dX10_cut_152 rfl ?_
                  refine mg129 dX10_cut_153 ?_
                  refine v_iload dX10_cut_156 rfl ?_
                  refine m_stN 22 (L := 200) hB.cy ⟨rfl, rfl, rfl⟩ (hN 4 (by decide) (by decide)) (by have z := h98; rw [hN 4 (by decide) (by decide)] at z; rw [show (200 : Int32) = nI 200 by decide, nI_eq (by omega) (by decide)] at z; omega) (by decide) dX10_cut_158 ?_
                  refine v_aload_n dX10_cut_159 rfl ?_
                  refine mg60 dX10_cut_160 ?_
                  refine v_aload_n dX10_cut_163 rfl ?_
                  refine mg129 dX10_cut_164 ?_
                  refine v_aload_n dX10_cut_167 rfl ?_
                  refine mg154 dX10_cut_168 ?_
                  refine m_stN 23 (L := 200) hB.cy ⟨rfl, rfl, rfl⟩ (hN 4 (by decide) (by decide)) (by have z := h98; rw [hN 4 (by decide) (by decide)] at z; rw [show (200 : Int32) = nI 200 by decide, nI_eq (by omega) (by decide)] at z; omega) (by decide) dX10_cut_171 ?_
                  refine v_aload_n dX10_cut_172 rfl ?_
                  refine mg63 dX10_cut_173 ?_
                  refine v_aload_n dX10_cut_176 rfl ?_
                  refine mg129 dX10_cut_177 ?_
                  refine v_bipush_v (v := -2) dX10_cut_180 (by decide) ?_
                  refine m_stN 24 (L := 200) hB.cy ⟨rfl, rfl, rfl⟩ (hN 4 (by decide) (by decide)) (by have z := h98; rw [hN 4 (by decide) (by decide)] at z; rw [show (200 : Int32) = nI 200 by decide, nI_eq (by omega) (by decide)] at z; omega) (by decide) dX10_cut_182 ?_
                  refine v_aload_n dX10_cut_183 rfl ?_
                  refine v_dup dX10_cut_184 rfl ?_
                  refine mg129 dX10_cut_185 ?_
                  refine v_iconst_v (v := 1) dX10_cut_188 (by decide) ?_
                  refine v_iadd dX10_cut_189 ?_
                  refine mp129 dX10_cut_190 ?_
                  refine v_aload_n dX10_cut_193 rfl ?_
                  refine v_aload_n dX10_cut_194 rfl ?_
                  refine mg129 dX10_cut_195 ?_
                  refine v_iconst_v (v := 1) dX10_cut_198 (by decide) ?_
                  refine v_isub dX10_cut_199 ?_
                  refine v_eq (i_ps (sc 4)) ?_
                  refine v_cVi1 hB k_X10_140 cM_done (by decide) ⟨by decide, by decide⟩ rfl rfl (Nat.le_of_ble_eq_true rfl) dX10_cut_200 ?_
                  exact v_iret hB (by decide) (by decide) dX10_cut_203 (mPost (by unfold s_cut; rw [if_pos ⟨h10, h18⟩, if_pos ⟨h34, h45, h56⟩, cl_nI (n := gn) (by omega)]; rw [hN 4 (by decide) (by decide)] at h98 ⊢; first | rw [if_pos (Or.inl h72), if_neg h98, cl_nI (n := N 4) (by omega)] | rw [if_pos (Or.inr h82), if_neg h98, cl_nI (n := N 4) (by omega)]))
                · refine v_aload_n dX10_cut_101 rfl ?_
                  refine v_iconst_v (v := 3) dX10_cut_102 (by decide) ?_
                  refine v_cVi1 hB k_X10_136 cM_refused (by decide) ⟨by decide, by decide⟩ rfl rfl (Nat.le_of_ble_eq_true rfl) dX10_cut_103 ?_
                  exact v_iret hB (by decide) (by decide) dX10_cut_106 (mPost (by unfold s_cut; rw [if_pos ⟨h10, h18⟩, if_pos ⟨h34, h45, h56⟩, cl_nI (by omega)]; first | rw [if_pos (Or.inl h72), if_pos h98] | rw [if_pos (Or.inr h82), if_pos h98]))
              · refine v_aload_n dX10_cut_85 rfl ?_
                refine v_iconst_v (v := 4) dX10_cut_86 (by decide) ?_
                refine v_cVi1 hB k_X10_136 cM_refused (by decide) ⟨by decide, by decide⟩ rfl rfl (Nat.le_of_ble_eq_true rfl) dX10_cut_87 ?_
                exact v_iret hB (by decide) (by decide) dX10_cut_90 (mPost (by unfold s_cut; rw [if_pos ⟨h10, h18⟩, if_pos ⟨h34, h45, h56⟩, cl_nI (by omega), if_neg (fun z => z.elim h72 h82)]))
          · rw [bI_eq] at h56
            refine v_aload_n dX10_cut_59 rfl ?_
            refine v_iconst_v (v := 2) dX10_cut_60 (by decide) ?_
            refine v_cVi1 hB k_X10_136 cM_refused (by decide) ⟨by decide, by decide⟩ rfl rfl (Nat.le_of_ble_eq_true rfl) dX10_cut_61 ?_
            exact v_iret hB (by decide) (by decide) dX10_cut_64 (mPost (by unfold s_cut; first | rw [if_pos ⟨h10, h18⟩, if_neg (fun z => h34 z.1)] | rw [if_pos ⟨h10, h18⟩, if_neg (fun z => h45 z.2.1)] | rw [if_pos ⟨h10, h18⟩, if_neg (fun z => h56 z.2.2)]))
    · rw [bI_eq] at h18
      refine v_aload_n dX10_cut_21 rfl ?_
      refine v_iconst_v (v := 1) dX10_cut_22 (by decide) ?_
      refine v_cVi1 hB k_X10_136 cM_refused (by decide) ⟨by decide, by decide⟩ rfl rfl (Nat.le_of_ble_eq_true rfl) dX10_cut_23 ?_
      exact v_iret hB (by decide) (by decide) dX10_cut_26 (mPost (by unfold s_cut; first | rw [if_neg (fun z => h10 z.1)] | rw [if_neg (fun z => h18 z.2)]))

