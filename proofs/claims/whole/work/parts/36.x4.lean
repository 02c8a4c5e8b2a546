set_option maxHeartbeats 4000000 in
set_option maxRecDepth 100000 in
theorem pX9_beginYear {l : Launch} {D : va_G} {cy : Nat → ClassId} {s0 : State} {ad : zA} {sc : Nat → Int32} {ar tau : Nat → Nat → Int32} {js mo : Nat → Int32} {cp cn al : Nat → Nat} {q3 pa : Nat → Nat → Int32} {pn : Nat → Nat} {N2 : Nat} (h0 : cn 0 = N2) (h2 : N2 ≤ 8) (ha : al 0 = cn 0) (hc : cn 0 ≤ cp 0) (hp : cp 0 ≤ 1000) : zM l D cy s0 yX9_beginYear cX9_beginYear 2 none 4 0 0 [.ref (ad 0 0)] ad (xW cy ad sc ar tau js mo cp cn al q3 pa pn) (zPv ad (xW cy ad sc (begY N2 ar) tau js mo cp cn al q3 pa pn)) := by
  refine zM_of (own := RX9) rfl (by decide) (by simp [Value.category]) (Nat.le_of_ble_eq_true rfl) ?_
  intro X hB
  show V X RX9 cX9_beginYear 2 none 0 0 ad (xW cy ad sc ar tau js mo cp cn al q3 pa pn) 0 [some (.ref (ad 0 0)), none] []
  have loop : ∀ (m : Nat) (i : Nat), N2 < i + m → i ≤ N2 → V X RX9 cX9_beginYear 2 none 0 0 ad (xW cy ad sc (begY i ar) tau js mo cp cn al q3 pa pn) 2 [some (.ref (ad 0 0)), some (.int (nI i))] [] := by
    intro m
    induction m with
    | zero => intro i h1 h2; omega
    | succ m ih =>
      intro i h1 h2
      refine v_iload_n dX9_beginYear_2 rfl ?_
      refine v_aload_n dX9_beginYear_3 rfl ?_
      refine xg_X9_10 dX9_beginYear_4 ?_
      refine v_cVi0 hB k_X9_77 (pJx4a65c_size_8abf5 (by omega)) (by decide) ⟨by decide, by decide⟩ rfl rfl (Nat.le_of_ble_eq_true rfl) dX9_beginYear_7 ?_
      refine v_icmp_ge (tgt := 33) dX9_beginYear_10 (by decide) (fun h10 => ?_) (fun h10 => ?_)
      · rw [nI_leI (by omega) (by omega)] at h10
        exact v_vret hB (by decide) (by decide) dX9_beginYear_33 ⟨rfl, rfl, by rw [show i = N2 by omega]⟩
      · rw [nI_leI (by omega) (by omega)] at h10
        refine v_aload_n dX9_beginYear_13 rfl ?_
        refine xg_X9_10 dX9_beginYear_14 ?_
        refine v_iload_n dX9_beginYear_17 rfl ?_
        refine v_cVr1 hB k_X9_113 (pJx4a65c_get_915e3 (by omega) (by omega) (by omega) (by omega)) (by decide) ⟨by decide, by decide⟩ rfl rfl (Nat.le_of_ble_eq_true rfl) dX9_beginYear_18 ?_
        refine v_cast (ci := 3) rfl cl_X9_81 (xW_X2 (by omega)) dX9_beginYear_21 ?_
        refine v_cVv0 hB k_X9_281 (pX2_beginYear (by omega)) (by decide) ⟨by decide, by decide⟩ (xW_X2 (by omega)) rfl (Nat.le_of_ble_eq_true rfl) dX9_beginYear_24 ?_
        refine v_w (congrArg (fun z => xW cy ad sc z tau js mo cp cn al q3 pa pn) (begY_s ar i)) ?_
        refine v_iinc1 (v := 1) dX9_beginYear_27 (by decide) (by decide) ?_
        rw [nI_1 i]
        refine v_goto (tgt := 2) dX9_beginYear_30 (by decide) ?_
        exact ih (i + 1) (by omega) (by omega)
  refine v_iconst_v (v := 0) dX9_beginYear_0 (by decide) ?_
  refine v_istore_n1 dX9_beginYear_1 (by decide) ?_
  have e := loop (N2 + 1) 0 (by omega) (by omega)
  rw [begY_0] at e
  exact e

set_option maxHeartbeats 4000000 in
set_option maxRecDepth 100000 in
theorem pX9_pass {l : Launch} {D : va_G} {cy : Nat → ClassId} {s0 : State} {ad : zA} {sc : Nat → Int32} {ar tau : Nat → Nat → Int32} {js mo : Nat → Int32} {cp cn al : Nat → Nat} {q3 pa : Nat → Nat → Int32} {pn : Nat → Nat} {N : Nat → Nat} {dd : Int32} (hI : MI N sc ar) (hJ : XI N ar cp cn al q3 pa pn) : zM l D cy s0 yX9_pass cX9_pass 5 (some .int) 5 0 0 [.ref (ad 0 0), .int dd] ad (xW cy ad sc ar tau js mo cp cn al q3 pa pn) (zPi (s_pass dd sc ar).1 ad (xW cy ad ((s_pass dd sc ar).2.1) ((s_pass dd sc ar).2.2) tau js mo cp cn al q3 pa pn)) := by
  refine zM_of (own := RX9) rfl (by decide) (by simp [Value.category]) (Nat.le_of_ble_eq_true rfl) ?_
  intro X hB
  show V X RX9 cX9_pass 5 (some .int) 0 0 ad (xW cy ad sc ar tau js mo cp cn al q3 pa pn) 0 [some (.ref (ad 0 0)), some (.int dd), none, none, none] []
  obtain ⟨⟨hN, b2, b3, b4, b5, b6, b7, b8, b9, b10⟩, hS, hQ, hBl, hCh, hZ⟩ := id hI
  obtain ⟨⟨c0, c1, c2, c3, c4, c5⟩, hx, hq3⟩ := id hJ
  have x0 := hx 0 (by decide)
  have x1 := hx 1 (by decide)
  have x2 := hx 2 (by decide)
  have x3 := hx 3 (by decide)
  have x4 := hx 4 (by decide)
  have x5 := hx 5 (by decide)
  refine v_iload_n dX9_pass_0 rfl ?_
  refine v_iconst_v (v := 1) dX9_pass_1 (by decide) ?_
  refine v_sipush_v (v := 200) dX9_pass_2 (by decide) ?_
  refine v_cSi3 hB k_X9_69 pX9_isFrom (by decide) ⟨by decide, by decide⟩ (Nat.le_of_ble_eq_true rfl) dX9_pass_5 ?_
  refine v_if_eq (tgt := 23) dX9_pass_8 (by decide) (fun h8 => ?_) (fun h8 => ?_)
  · rw [bI_eq] at h8
    refine v_aload_n dX9_pass_23 rfl ?_
    refine v_iconst_v (v := 2) dX9_pass_24 (by decide) ?_
    refine v_cVi1 hB k_X9_73 pX9_refuse (by decide) ⟨by decide, by decide⟩ rfl rfl (Nat.le_of_ble_eq_true rfl) dX9_pass_25 ?_
    exact v_iret hB (by decide) (by decide) dX9_pass_28 (xPost (by unfold s_pass; first | rw [if_neg (fun z => h8 z.1)] | rw [if_neg (fun z => h20 z.2)]))
  · rw [bI_ne] at h8
    refine v_aload_n dX9_pass_11 rfl ?_
    refine xg_X9_63 dX9_pass_12 ?_
    refine v_iload_n dX9_pass_15 rfl ?_
    refine v_iadd dX9_pass_16 ?_
    refine v_sipush_v (v := 3000) dX9_pass_17 (by decide) ?_
    refine v_icmp_le (tgt := 29) dX9_pass_20 (by decide) (fun h20 => ?_) (fun h20 => ?_)
    · rw [show (3000 : Int32) = nI 3000 by decide] at h20
      obtain ⟨dn, hd1, hd2, rfl⟩ := i_rg (lo := 1) (hi := 200) h8 (by decide) (by decide)
      have h20b : N 8 + dn ≤ 3000 := by
        have z := h20
        rw [hN 8 (by decide) (by decide), nI_add] at z
        exact (nI_leI (by omega) (by decide)).mp z
      have loop : ∀ (m : Nat) (y : Nat), (N 8 + dn) / 60 - N 8 / 60 < y + m → y ≤ (N 8 + dn) / 60 - N 8 / 60 → V X RX9 cX9_pass 5 (some .int) 0 0 ad (xW cy ad (upd sc 8 (nI (N 8 + dn))) (itY (N 2) y ar) tau js mo cp cn al q3 pa pn) 52 [some (.ref (ad 0 0)), some (.int (nI dn)), some (.int (nI (N 8 / 60))), some (.int (nI ((N 8 + dn) / 60))), some (.int (nI (N 8 / 60 + y)))] [] := by
        intro m
        induction m with
        | zero => intro y h1 h2; omega
        | succ m ih =>
          intro y h1 h2
          refine v_iload dX9_pass_52 rfl ?_
          refine v_iload_n dX9_pass_54 rfl ?_
          refine v_icmp_ge (tgt := 68) dX9_pass_55 (by decide) (fun h55 => ?_) (fun h55 => ?_)
          · rw [nI_leI (by omega) (by omega)] at h55
            refine v_aload_n dX9_pass_68 rfl ?_
            refine v_aload_n dX9_pass_69 rfl ?_
            refine xg_X9_63 dX9_pass_70 ?_
            refine v_cVi1 hB k_X9_90 pX9_accept (by decide) ⟨by decide, by decide⟩ rfl rfl (Nat.le_of_ble_eq_true rfl) dX9_pass_73 ?_
            exact v_iret hB (by decide) (by decide) dX9_pass_76 (xPost (by
              have hy : y = (N 8 + dn) / 60 - N 8 / 60 := by omega
              subst hy
              unfold s_pass
              rw [if_pos ⟨h8, h20⟩, hN 8 (by decide) (by decide), hN 2 (by decide) (by decide), nI_add, cl_nI (by omega), cl_nI (by omega), cl_nI (by omega)]
              rfl))
          · rw [nI_leI (by omega) (by omega)] at h55
            refine v_aload_n dX9_pass_58 rfl ?_
            refine v_cVv0 hB k_X9_128 (pX9_beginYear (N2 := N 2) (by omega) (by omega) (by omega) (by omega) (by omega)) (by decide) ⟨by decide, by decide⟩ rfl rfl (Nat.le_of_ble_eq_true rfl) dX9_pass_59 ?_
            refine v_iinc4 (v := 1) dX9_pass_62 (by decide) (by decide) ?_
            rw [nI_1]
            refine v_goto (tgt := 52) dX9_pass_65 (by decide) ?_
            exact ih (y + 1) (by omega) (by omega)
      refine v_aload_n dX9_pass_29 rfl ?_
      refine v_cVi0 hB k_X9_125 pX9_thisYear (by decide) ⟨by decide, by decide⟩ rfl rfl (Nat.le_of_ble_eq_true rfl) dX9_pass_30 ?_
      refine v_eq (show sc 8 / 60 = nI (N 8 / 60) by rw [hN 8 (by decide) (by decide)]; exact pk_div (d := 60) (by omega) (by decide) (by decide)) ?_
      refine v_istore_n2 dX9_pass_33 (by decide) ?_
      refine v_aload_n dX9_pass_34 rfl ?_
      refine v_dup dX9_pass_35 rfl ?_
      refine xg_X9_63 dX9_pass_36 ?_
      refine v_iload_n dX9_pass_39 rfl ?_
      refine v_iadd dX9_pass_40 ?_
      refine v_eq (show sc 8 + nI dn = nI (N 8 + dn) by rw [hN 8 (by decide) (by decide), nI_add]) ?_
      refine xp_X9_63 dX9_pass_41 ?_
      refine v_aload_n dX9_pass_44 rfl ?_
      refine v_cVi0 hB k_X9_125 pX9_thisYear (by decide) ⟨by decide, by decide⟩ rfl rfl (Nat.le_of_ble_eq_true rfl) dX9_pass_45 ?_
      refine v_eq (show nI (N 8 + dn) / 60 = nI ((N 8 + dn) / 60) from pk_div (d := 60) (by omega) (by decide) (by decide)) ?_
      refine v_istore_n3 dX9_pass_48 (by decide) ?_
      refine v_iload_n dX9_pass_49 rfl ?_
      refine v_istore4 dX9_pass_50 (by decide) ?_
      exact loop ((N 8 + dn) / 60 - N 8 / 60 + 1) 0 (by omega) (by omega)
    · refine v_aload_n dX9_pass_23 rfl ?_
      refine v_iconst_v (v := 2) dX9_pass_24 (by decide) ?_
      refine v_cVi1 hB k_X9_73 pX9_refuse (by decide) ⟨by decide, by decide⟩ rfl rfl (Nat.le_of_ble_eq_true rfl) dX9_pass_25 ?_
      exact v_iret hB (by decide) (by decide) dX9_pass_28 (xPost (by unfold s_pass; first | rw [if_neg (fun z => h8 z.1)] | rw [if_neg (fun z => h20 z.2)]))

theorem chF_s (ar : Nat → Nat → Int32) (g : Int32) (k c : Nat) : chF ar g (k + 1) c = if ¬ ar 36 c = g ∨ ar 37 c = 6 then chF ar g k (c + 1) else c := rfl
set_option maxHeartbeats 4000000 in
set_option maxRecDepth 100000 in
theorem pX9_chestFor {l : Launch} {D : va_G} {cy : Nat → ClassId} {s0 : State} {ad : zA} {sc : Nat → Int32} {ar tau : Nat → Nat → Int32} {js mo : Nat → Int32} {cp cn al : Nat → Nat} {q3 pa : Nat → Nat → Int32} {pn : Nat → Nat} {N : Nat → Nat} {g : Int32} (hI : MI N sc ar) (hJ : XI N ar cp cn al q3 pa pn) : zM l D cy s0 yX9_chestFor cX9_chestFor 3 (some .int) 4 0 0 [.ref (ad 0 0), .int g] ad (xW cy ad sc ar tau js mo cp cn al q3 pa pn) (zPi (nI (chF ar g (N 7) 0)) ad (xW cy ad sc ar tau js mo cp cn al q3 pa pn)) := by
  refine zM_of (own := RX9) rfl (by decide) (by simp [Value.category]) (Nat.le_of_ble_eq_true rfl) ?_
  intro X hB
  show V X RX9 cX9_chestFor 3 (some .int) 0 0 ad (xW cy ad sc ar tau js mo cp cn al q3 pa pn) 0 [some (.ref (ad 0 0)), some (.int g), none] []
  obtain ⟨⟨hN, b2, b3, b4, b5, b6, b7, b8, b9, b10⟩, hS, hQ, hBl, hCh, hZ⟩ := id hI
  obtain ⟨⟨c0, c1, c2, c3, c4, c5⟩, hx, hq3⟩ := id hJ
  have x0 := hx 0 (by decide)
  have x1 := hx 1 (by decide)
  have x2 := hx 2 (by decide)
  have x3 := hx 3 (by decide)
  have x4 := hx 4 (by decide)
  have x5 := hx 5 (by decide)
  have loop : ∀ (m : Nat) (c k : Nat), k < m → c + k = N 7 → chF ar g k c = chF ar g (N 7) 0 → V X RX9 cX9_chestFor 3 (some .int) 0 0 ad (xW cy ad sc ar tau js mo cp cn al q3 pa pn) 2 [some (.ref (ad 0 0)), some (.int g), some (.int (nI c))] [] := by
    intro m
    induction m with
    | zero => intro c k h1 h2 h3; omega
    | succ m ih =>
      intro c k h1 h2 h3
      refine v_iload_n dX9_chestFor_2 rfl ?_
      refine v_aload_n dX9_chestFor_3 rfl ?_
      refine xg_X9_28 dX9_chestFor_4 ?_
      refine v_cVi0 hB k_X9_77 (pJx4a65c_size_8abf5 (by omega)) (by decide) ⟨by decide, by decide⟩ rfl rfl (Nat.le_of_ble_eq_true rfl) dX9_chestFor_7 ?_
      refine v_icmp_ge (tgt := 39) dX9_chestFor_10 (by decide) (fun h10 => ?_) (fun h10 => ?_)
      · rw [nI_leI (by omega) (by omega)] at h10
        refine v_aload_n dX9_chestFor_39 rfl ?_
        refine xg_X9_28 dX9_chestFor_40 ?_
        refine v_cVi0 hB k_X9_77 (pJx4a65c_size_8abf5 (by omega)) (by decide) ⟨by decide, by decide⟩ rfl rfl (Nat.le_of_ble_eq_true rfl) dX9_chestFor_43 ?_
        exact v_iret hB (by decide) (by decide) dX9_chestFor_46 ⟨congrArg (fun z => some (Value.int z)) (by rw [← h3, show k = 0 by omega, c5]; show nI (N 7) = nI c; rw [show c = N 7 by omega]), rfl, rfl⟩
      · rw [nI_leI (by omega) (by omega)] at h10
        obtain ⟨k, rfl⟩ : ∃ k2, k = k2 + 1 := ⟨k - 1, by omega⟩
        obtain ⟨mm, m1, m2, m3⟩ := hCh c (by omega)
        have hlt : ar 37 c < 6 ↔ ¬ ar 37 c = 6 := by
          rw [m3, show (6 : Int32) = nI 6 by decide, n_ltI (by omega) (by decide), nI_eq (by omega) (by decide)]; omega
        rw [chF_s] at h3
        refine v_aload_n dX9_chestFor_13 rfl ?_
        refine xg_X9_28 dX9_chestFor_14 ?_
        refine v_iload_n dX9_chestFor_17 rfl ?_
        refine v_cVr1 hB k_X9_113 (pJx4a65c_get_915e3 (by omega) (by omega) (by omega) (by omega)) (by decide) ⟨by decide, by decide⟩ rfl rfl (Nat.le_of_ble_eq_true rfl) dX9_chestFor_18 ?_
        refine v_cast (ci := 2) rfl cl_X9_269 (xW_X1 (by omega)) dX9_chestFor_21 ?_
        refine v_iload_n dX9_chestFor_24 rfl ?_
        refine v_cVi1 hB k_X9_307 (pX1_isOpenTo (by omega)) (by decide) ⟨by decide, by decide⟩ (xW_X1 (by omega)) rfl (Nat.le_of_ble_eq_true rfl) dX9_chestFor_25 ?_
        refine v_if_eq (tgt := 33) dX9_chestFor_28 (by decide) (fun h28 => ?_) (fun h28 => ?_)
        · rw [bI_eq, hlt] at h28
          refine v_iinc2 (v := 1) dX9_chestFor_33 (by decide) (by decide) ?_
          rw [nI_1 c]
          refine v_goto (tgt := 2) dX9_chestFor_36 (by decide) ?_
          refine ih (c + 1) k (by omega) (by omega) ?_
          rw [← h3, if_pos ?_]
          by_cases e : ar 36 c = g
          · right
            by_cases e6 : ar 37 c = 6
            · exact e6
            · exact absurd ⟨e, e6⟩ h28
          · exact Or.inl e
        · rw [bI_ne, hlt] at h28
          refine v_iload_n dX9_chestFor_31 rfl ?_
          exact v_iret hB (by decide) (by decide) dX9_chestFor_32 ⟨congrArg (fun z => some (Value.int z)) (by rw [← h3, if_neg (fun z => z.elim (fun y => y h28.1) h28.2)]), rfl, rfl⟩
  refine v_iconst_v (v := 0) dX9_chestFor_0 (by decide) ?_
  refine v_istore_n2 dX9_chestFor_1 (by decide) ?_
  exact loop (N 7 + 1) 0 (N 7) (by omega) (by omega) rfl

set_option maxHeartbeats 4000000 in
set_option maxRecDepth 100000 in
theorem pX9_bindQuills {l : Launch} {D : va_G} {cy : Nat → ClassId} {s0 : State} {ad : zA} {sc : Nat → Int32} {ar tau : Nat → Nat → Int32} {js mo : Nat → Int32} {cp cn al : Nat → Nat} {q3 pa : Nat → Nat → Int32} {pn : Nat → Nat} {N : Nat → Nat} {f g x : Int32} (hI : MI N sc ar) (hJ : XI N ar cp cn al q3 pa pn) : zM l D cy s0 yX9_bindQuills cX9_bindQuills 7 none 4 0 0 [.ref (ad 0 0), .int f, .int g, .int x] ad (xW cy ad sc ar tau js mo cp cn al q3 pa pn) (zPv ad (xW cy ad sc (bnd (gqB ar f g) (N 5) x ar) tau js mo cp cn al q3 pa pn)) := by
  refine zM_of (own := RX9) rfl (by decide) (by simp [Value.category]) (Nat.le_of_ble_eq_true rfl) ?_
  intro X hB
  show V X RX9 cX9_bindQuills 7 none 0 0 ad (xW cy ad sc ar tau js mo cp cn al q3 pa pn) 0 [some (.ref (ad 0 0)), some (.int f), some (.int g), some (.int x), none, none, none] []
  obtain ⟨⟨hN, b2, b3, b4, b5, b6, b7, b8, b9, b10⟩, hS, hQ, hBl, hCh, hZ⟩ := id hI
  obtain ⟨⟨c0, c1, c2, c3, c4, c5⟩, hx, hq3⟩ := id hJ
  have x0 := hx 0 (by decide)
  have x1 := hx 1 (by decide)
  have x2 := hx 2 (by decide)
  have x3 := hx 3 (by decide)
  have x4 := hx 4 (by decide)
  have x5 := hx 5 (by decide)
  have loop : ∀ (m : Nat) (q : Nat) (z : Option Value), N 5 < q + m → q ≤ N 5 → V X RX9 cX9_bindQuills 7 none 0 0 ad (xW cy ad sc (bnd (gqB ar f g) q x ar) tau js mo cp cn al q3 pa pn) 6 [some (.ref (ad 0 0)), some (.int f), some (.int g), some (.int x), some (.int (nI (min 5 (ctN (gqB ar f g) q)))), some (.int (nI q)), z] [] := by
    intro m
    induction m with
    | zero => intro q z h1 h2; omega
    | succ m ih =>
      intro q z h1 h2
      refine v_iload dX9_bindQuills_6 rfl ?_
      refine v_aload_n dX9_bindQuills_8 rfl ?_
      refine xg_X9_22 dX9_bindQuills_9 ?_
      refine v_cVi0 hB k_X9_77 (pJx4a65c_size_8abf5 (by omega)) (by decide) ⟨by decide, by decide⟩ rfl rfl (Nat.le_of_ble_eq_true rfl) dX9_bindQuills_12 ?_
      refine v_icmp_ge (tgt := 63) dX9_bindQuills_15 (by decide) (fun h15 => ?_) (fun h15 => ?_)
      · rw [nI_leI (by omega) (by omega)] at h15
        exact v_vret hB (by decide) (by decide) dX9_bindQuills_63 ⟨rfl, rfl, congrArg (fun z => xW cy ad sc z tau js mo cp cn al q3 pa pn) (by first | (rw [show q = N 5 by omega]; done) | exact bnd_end _ _ _ (by omega) (by omega))⟩
      · rw [nI_leI (by omega) (by omega)] at h15
        obtain ⟨k1, k2, k3, k4, k5, k6⟩ := hq3 q (by omega)
        have hct := ctN_le (gqB ar f g) q
        refine v_iload dX9_bindQuills_18 rfl ?_
        refine v_iconst_v (v := 5) dX9_bindQuills_20 (by decide) ?_
        refine v_icmp_ge (tgt := 63) dX9_bindQuills_21 (by decide) (fun h21 => ?_) (fun h21 => ?_)
        · have h21 := (nI_leI (a := 5) (by decide) (by omega)).mp h21
          exact v_vret hB (by decide) (by decide) dX9_bindQuills_63 ⟨rfl, rfl, congrArg (fun z => xW cy ad sc z tau js mo cp cn al q3 pa pn) (by first | (rw [show q = N 5 by omega]; done) | exact bnd_end _ _ _ (by omega) (by omega))⟩
        · have h21 : ¬ 5 ≤ min 5 (ctN (gqB ar f g) q) := fun z => h21 ((nI_leI (a := 5) (by decide) (by omega)).mpr z)
          refine v_aload_n dX9_bindQuills_24 rfl ?_
          refine xg_X9_22 dX9_bindQuills_25 ?_
          refine v_iload dX9_bindQuills_28 rfl ?_
          refine v_cVr1 hB k_X9_113 (pJx4a65c_get_915e3 (by omega) (by omega) (by omega) (by omega)) (by decide) ⟨by decide, by decide⟩ rfl rfl (Nat.le_of_ble_eq_true rfl) dX9_bindQuills_30 ?_
          refine v_cast (ci := 7) rfl cl_X9_170 (xW_X6 (by omega)) dX9_bindQuills_33 ?_
          refine v_astore6 dX9_bindQuills_36 (by decide) ?_
          refine v_aload dX9_bindQuills_38 rfl ?_
          refine v_iload_n dX9_bindQuills_40 rfl ?_
          refine v_iload_n dX9_bindQuills_41 rfl ?_
          refine v_cVi2 hB k_X9_297 (pX6_isLoose (by omega)) (by decide) ⟨by decide, by decide⟩ (xW_X6 (by omega)) rfl (Nat.le_of_ble_eq_true rfl) dX9_bindQuills_42 ?_
          refine v_if_eq (tgt := 57) dX9_bindQuills_45 (by decide) (fun h45 => ?_) (fun h45 => ?_)
          · rw [bI_eq, k6, bnd_ge _ _ _ _ (Nat.le_refl q), bnd_ge _ _ _ _ (Nat.le_refl q)] at h45
            refine v_iinc5 (v := 1) dX9_bindQuills_57 (by decide) (by decide) ?_
            rw [nI_1 q]
            refine v_goto (tgt := 6) dX9_bindQuills_60 (by decide) ?_
            by_cases hg2 : gqB ar f g q = true
            · have e5 : min 5 (ctN (gqB ar f g) (q + 1)) = min 5 (ctN (gqB ar f g) q) + 1 := by rw [ctN, if_pos hg2]; omega
              first
                | (have e := ih (q + 1) (some (Value.ref (ad 11 q))) (by omega) (by omega); rw [e5, ← nI_1] at e; exact e)
                | exact absurd (And.intro (looB_t.mp (gqB_t.mp hg2).1).2 (And.intro (looB_t.mp (gqB_t.mp hg2).1).1 (gqB_t.mp hg2).2)) h45
            · have e5 : ctN (gqB ar f g) (q + 1) = ctN (gqB ar f g) q := by rw [ctN, if_neg hg2]; rfl
              first
                | exact absurd hgq hg2
                | (have e := ih (q + 1) (some (Value.ref (ad 11 q))) (by omega) (by omega); rw [e5, bnd_no _ _ _ _ (fun z => hg2 z.1)] at e; exact e)
          · rw [bI_ne, k6, bnd_ge _ _ _ _ (Nat.le_refl q), bnd_ge _ _ _ _ (Nat.le_refl q)] at h45
            have hgq : gqB ar f g q = true := gqB_t.mpr ⟨looB_t.mpr ⟨h45.2.1, h45.1⟩, h45.2.2⟩
            refine v_aload dX9_bindQuills_48 rfl ?_
            refine v_iload_n dX9_bindQuills_50 rfl ?_
            refine xp_X9_201 (by omega) dX9_bindQuills_51 ?_
            refine v_w (congrArg (fun z => xW cy ad sc z tau js mo cp cn al q3 pa pn) (bnd_yes (gqB ar f g) q x ar hgq (by omega))) ?_
            refine v_iinc4 (v := 1) dX9_bindQuills_54 (by decide) (by decide) ?_
            refine v_iinc5 (v := 1) dX9_bindQuills_57 (by decide) (by decide) ?_
            rw [nI_1 q]
            refine v_goto (tgt := 6) dX9_bindQuills_60 (by decide) ?_
            by_cases hg2 : gqB ar f g q = true
            · have e5 : min 5 (ctN (gqB ar f g) (q + 1)) = min 5 (ctN (gqB ar f g) q) + 1 := by rw [ctN, if_pos hg2]; omega
              first
                | (have e := ih (q + 1) (some (Value.ref (ad 11 q))) (by omega) (by omega); rw [e5, ← nI_1] at e; exact e)
                | exact absurd (And.intro (looB_t.mp (gqB_t.mp hg2).1).2 (And.intro (looB_t.mp (gqB_t.mp hg2).1).1 (gqB_t.mp hg2).2)) h45
            · have e5 : ctN (gqB ar f g) (q + 1) = ctN (gqB ar f g) q := by rw [ctN, if_neg hg2]; rfl
              first
                | exact absurd hgq hg2
                | (have e := ih (q + 1) (some (Value.ref (ad 11 q))) (by omega) (by omega); rw [e5, bnd_no _ _ _ _ (fun z => hg2 z.1)] at e; exact e)
  refine v_iconst_v (v := 0) dX9_bindQuills_0 (by decide) ?_
  refine v_istore4 dX9_bindQuills_1 (by decide) ?_
  refine v_iconst_v (v := 0) dX9_bindQuills_3 (by decide) ?_
  refine v_istore5 dX9_bindQuills_4 (by decide) ?_
  have e := loop (N 5 + 1) 0 none (by omega) (by omega)
  rw [bnd_0] at e
  exact e

