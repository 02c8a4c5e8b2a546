def v_part (q k : Int32) (sc : Nat → Int32) (ar : Nat → Nat → Int32) : Int32 := if (0 ≤ q ∧ q < sc 5) ∧ 0 ≤ k ∧ k < ar 28 (cl q) then ar 30 (4 * cl q + cl k) else 0
def x_part (q k : Int32) (sc : Nat → Int32) (ar : Nat → Nat → Int32) : Int32 := if (0 ≤ q ∧ q < sc 5) ∧ 0 ≤ k ∧ k < ar 28 (cl q) then 0 else 1
/-- a year begins for the first n families -/
def begY (n : Nat) (ar : Nat → Nat → Int32) : Nat → Nat → Int32 := fun j f => if j = 13 ∧ f < n then ar 13 f + (ar 11 f - ar 12 f) else if j = 12 ∧ f < n then 0 else ar j f
def itY (n : Nat) : Nat → (Nat → Nat → Int32) → Nat → Nat → Int32
  | 0, ar => ar
  | c + 1, ar => begY n (itY n c ar)
def s_pass (d : Int32) (sc : Nat → Int32) (ar : Nat → Nat → Int32) : zRs := if (1 ≤ d ∧ d ≤ 200) ∧ sc 8 + d ≤ 3000 then (sc 8 + d, upd (upd sc 8 (sc 8 + d)) 1 0, itY (cl (sc 2)) (cl (sc 8 + d) / 60 - cl (sc 8) / 60) ar) else (-1, upd sc 1 2, ar)
theorem begY_0 (ar : Nat → Nat → Int32) : begY 0 ar = ar := by
  funext j f
  unfold begY
  rw [if_neg (fun z => absurd z.2 (Nat.not_lt_zero _)), if_neg (fun z => absurd z.2 (Nat.not_lt_zero _))]
theorem begY_ar {ar : Nat → Nat → Int32} {n f : Nat} (h : n ≤ f) (j : Nat) : begY n ar j f = ar j f := by
  unfold begY
  rw [if_neg (fun z => absurd z.2 (Nat.not_lt.mpr h)), if_neg (fun z => absurd z.2 (Nat.not_lt.mpr h))]
theorem begY_s (ar : Nat → Nat → Int32) (f : Nat) : putA (putA (begY f ar) 13 f (begY f ar 13 f + (begY f ar 11 f - begY f ar 12 f))) 12 f 0 = begY (f + 1) ar := by
  rw [begY_ar (Nat.le_refl f), begY_ar (Nat.le_refl f), begY_ar (Nat.le_refl f)]
  funext j k
  unfold putA upA
  by_cases h12 : j = 12
  · subst h12
    rw [if_pos rfl]
    unfold upd
    by_cases hk : k = f
    · subst hk
      rw [if_pos rfl]
      unfold begY
      rw [if_neg (fun z => absurd z.1 (by decide)), if_pos ⟨rfl, Nat.lt_succ_self _⟩]
    · rw [if_neg hk]
      show begY f ar 12 k = _
      unfold begY
      by_cases hl : k < f
      · simp [hl, Nat.lt_succ_of_lt hl]
      · have : ¬ k < f + 1 := by omega
        simp [hl, this]
  · rw [if_neg h12]
    by_cases h13 : j = 13
    · subst h13
      rw [if_pos rfl]
      unfold upd
      by_cases hk : k = f
      · subst hk
        rw [if_pos rfl]
        unfold begY
        rw [if_pos ⟨rfl, Nat.lt_succ_self _⟩]
      · rw [if_neg hk]
        unfold begY
        by_cases hl : k < f
        · simp [hl, Nat.lt_succ_of_lt hl]
        · have : ¬ k < f + 1 := by omega
          simp [hl, this]
    · rw [if_neg h13]
      unfold begY
      simp [h12, h13]
theorem upd_uu (f : Nat → Int32) (i : Nat) (x y : Int32) : upd (upd f i x) i y = upd f i y := by
  funext j; unfold upd; by_cases h : j = i <;> simp [h]
theorem upd_id {f : Nat → Int32} {i : Nat} {x : Int32} (h : f i = x) : upd f i x = f := by
  funext j; unfold upd; by_cases h2 : j = i
  · subst h2; simp [h]
  · simp [h2]
set_option maxHeartbeats 4000000 in
set_option maxRecDepth 100000 in
theorem cM_part {l : Launch} {D : va_G} {cy : Nat → ClassId} {s0 : State} {ad : zA} {N : Nat → Nat} {sc : Nat → Int32} {ar : Nat → Nat → Int32} {q k : Int32}  (hI : MI N sc ar) : zM l D cy s0 yX10_part cX10_part 3 (some .int) 2 0 0 [.ref (ad 30 0), .int q, .int k] ad (mW cy ad sc ar) (zPi (v_part q k sc ar) ad (mW cy ad (upd sc 0 (x_part q k sc ar)) ar)) := by
  refine zM_of (own := RX10) rfl (by decide) (by simp [Value.category]) (Nat.le_of_ble_eq_true rfl) ?_
  intro X hB
  show V X RX10 cX10_part 3 (some .int) 0 0 ad (mW cy ad sc ar) 0 [some (.ref (ad 30 0)), some (.int q), some (.int k)] []
  obtain ⟨⟨hN, b2, b3, b4, b5, b6, b7, b8, b9, b10⟩, hS, hQ, hBl, hCh, hZ⟩ := id hI
  refine v_aload_n dX10_part_0 rfl ?_
  refine v_iload_n dX10_part_1 rfl ?_
  refine v_if_lt (tgt := 27) dX10_part_2 (by decide) (fun h2 => ?_) (fun h2 => ?_)
  · refine v_iconst_v (v := 1) dX10_part_27 (by decide) ?_
    refine v_goto (tgt := 32) dX10_part_28 (by decide) ?_
    refine mp1 dX10_part_32 ?_
    refine v_aload_n dX10_part_35 rfl ?_
    refine mg1 dX10_part_36 ?_
    refine v_if_le (tgt := 46) dX10_part_39 (by decide) (fun h39 => absurd (show (1 : Int32) ≤ 0 from h39) (by decide)) (fun h39 => ?_)
    refine v_iconst_v (v := 0) dX10_part_42 (by decide) ?_
    refine v_goto (tgt := 56) dX10_part_43 (by decide) ?_
    have hc : ¬ ((0 ≤ q ∧ q < sc 5) ∧ 0 ≤ k ∧ k < ar 28 (cl q)) := by
      rintro ⟨⟨z1, z2⟩, z3, z4⟩
      first | exact (i_nlt.mpr z1) h2 | exact (i_nle.mpr z2) h10 | exact (i_nlt.mpr z3) h14 | (rw [ecq] at z4; exact h24 z4)
    exact v_iret hB (by decide) (by decide) dX10_part_56 ⟨by unfold v_part; rw [if_neg hc], rfl, by unfold x_part; rw [if_neg hc]⟩
  · refine v_iload_n dX10_part_5 rfl ?_
    refine v_aload_n dX10_part_6 rfl ?_
    refine mg196 dX10_part_7 ?_
    refine v_icmp_ge (tgt := 27) dX10_part_10 (by decide) (fun h10 => ?_) (fun h10 => ?_)
    · refine v_iconst_v (v := 1) dX10_part_27 (by decide) ?_
      refine v_goto (tgt := 32) dX10_part_28 (by decide) ?_
      refine mp1 dX10_part_32 ?_
      refine v_aload_n dX10_part_35 rfl ?_
      refine mg1 dX10_part_36 ?_
      refine v_if_le (tgt := 46) dX10_part_39 (by decide) (fun h39 => absurd (show (1 : Int32) ≤ 0 from h39) (by decide)) (fun h39 => ?_)
      refine v_iconst_v (v := 0) dX10_part_42 (by decide) ?_
      refine v_goto (tgt := 56) dX10_part_43 (by decide) ?_
      have hc : ¬ ((0 ≤ q ∧ q < sc 5) ∧ 0 ≤ k ∧ k < ar 28 (cl q)) := by
        rintro ⟨⟨z1, z2⟩, z3, z4⟩
        first | exact (i_nlt.mpr z1) h2 | exact (i_nle.mpr z2) h10 | exact (i_nlt.mpr z3) h14 | (rw [ecq] at z4; exact h24 z4)
      exact v_iret hB (by decide) (by decide) dX10_part_56 ⟨by unfold v_part; rw [if_neg hc], rfl, by unfold x_part; rw [if_neg hc]⟩
    · have hqr : 0 ≤ q ∧ q < sc 5 := ⟨i_nlt.mp h2, i_nle.mp h10⟩
      obtain ⟨n, hn, hq⟩ := i_ix (by rw [hN 5 (by decide) (by decide)] at hqr; exact hqr) (by omega)
      obtain ⟨-, ⟨np, hp1, hp2, hp3, hp4⟩, -⟩ := hQ n hn
      have ecq : cl q = n := by rw [hq, cl_nI (by omega)]
      refine v_iload_n dX10_part_13 rfl ?_
      refine v_if_lt (tgt := 27) dX10_part_14 (by decide) (fun h14 => ?_) (fun h14 => ?_)
      · refine v_iconst_v (v := 1) dX10_part_27 (by decide) ?_
        refine v_goto (tgt := 32) dX10_part_28 (by decide) ?_
        refine mp1 dX10_part_32 ?_
        refine v_aload_n dX10_part_35 rfl ?_
        refine mg1 dX10_part_36 ?_
        refine v_if_le (tgt := 46) dX10_part_39 (by decide) (fun h39 => absurd (show (1 : Int32) ≤ 0 from h39) (by decide)) (fun h39 => ?_)
        refine v_iconst_v (v := 0) dX10_part_42 (by decide) ?_
        refine v_goto (tgt := 56) dX10_part_43 (by decide) ?_
        have hc : ¬ ((0 ≤ q ∧ q < sc 5) ∧ 0 ≤ k ∧ k < ar 28 (cl q)) := by
          rintro ⟨⟨z1, z2⟩, z3, z4⟩
          first | exact (i_nlt.mpr z1) h2 | exact (i_nle.mpr z2) h10 | exact (i_nlt.mpr z3) h14 | (rw [ecq] at z4; exact h24 z4)
        exact v_iret hB (by decide) (by decide) dX10_part_56 ⟨by unfold v_part; rw [if_neg hc], rfl, by unfold x_part; rw [if_neg hc]⟩
      · refine v_iload_n dX10_part_17 rfl ?_
        refine v_aload_n dX10_part_18 rfl ?_
        refine mg75 dX10_part_19 ?_
        refine v_iload_n dX10_part_22 rfl ?_
        refine m_ldN 28 (L := 120) hB.cy ⟨rfl, rfl, rfl⟩ hq (by omega) (by decide) dX10_part_23 ?_
        refine v_icmp_lt (tgt := 31) dX10_part_24 (by decide) (fun h24 => ?_) (fun h24 => ?_)
        · refine v_iconst_v (v := 0) dX10_part_31 (by decide) ?_
          refine mp1 dX10_part_32 ?_
          refine v_aload_n dX10_part_35 rfl ?_
          refine mg1 dX10_part_36 ?_
          refine v_if_le (tgt := 46) dX10_part_39 (by decide) (fun h39 => ?_) (fun h39 => absurd (show (0 : Int32) ≤ 0 by decide) h39)
          obtain ⟨m, hm, hk⟩ := i_ix (a := k) (n := np) ⟨i_nlt.mp h14, by rw [← hp3]; exact h24⟩ (by omega)
          have eck : cl k = m := by rw [hk, cl_nI (by omega)]
          refine v_aload_n dX10_part_46 rfl ?_
          refine mg81 dX10_part_47 ?_
          refine v_iconst_v (v := 4) dX10_part_50 (by decide) ?_
          refine v_iload_n dX10_part_51 rfl ?_
          refine v_imul dX10_part_52 ?_
          refine v_iload_n dX10_part_53 rfl ?_
          refine v_iadd dX10_part_54 ?_
          refine m_ldN 30 (L := 480) hB.cy ⟨rfl, rfl, rfl⟩ (show (4 : Int32) * q + k = nI (4 * n + m) from by rw [hq, hk, show (4 : Int32) = nI 4 by decide, pk_mul, nI_add]) (by omega) (by decide) dX10_part_55 ?_
          have hc : (0 ≤ q ∧ q < sc 5) ∧ 0 ≤ k ∧ k < ar 28 (cl q) := ⟨hqr, i_nlt.mp h14, by rw [ecq]; exact h24⟩
          exact v_iret hB (by decide) (by decide) dX10_part_56 ⟨by unfold v_part; rw [if_pos hc, ecq, eck], rfl, by unfold x_part; rw [if_pos hc]⟩
        · refine v_iconst_v (v := 1) dX10_part_27 (by decide) ?_
          refine v_goto (tgt := 32) dX10_part_28 (by decide) ?_
          refine mp1 dX10_part_32 ?_
          refine v_aload_n dX10_part_35 rfl ?_
          refine mg1 dX10_part_36 ?_
          refine v_if_le (tgt := 46) dX10_part_39 (by decide) (fun h39 => absurd (show (1 : Int32) ≤ 0 from h39) (by decide)) (fun h39 => ?_)
          refine v_iconst_v (v := 0) dX10_part_42 (by decide) ?_
          refine v_goto (tgt := 56) dX10_part_43 (by decide) ?_
          have hc : ¬ ((0 ≤ q ∧ q < sc 5) ∧ 0 ≤ k ∧ k < ar 28 (cl q)) := by
            rintro ⟨⟨z1, z2⟩, z3, z4⟩
            first | exact (i_nlt.mpr z1) h2 | exact (i_nle.mpr z2) h10 | exact (i_nlt.mpr z3) h14 | (rw [ecq] at z4; exact h24 z4)
          exact v_iret hB (by decide) (by decide) dX10_part_56 ⟨by unfold v_part; rw [if_neg hc], rfl, by unfold x_part; rw [if_neg hc]⟩

set_option maxHeartbeats 4000000 in
set_option maxRecDepth 100000 in
theorem cM_pass {l : Launch} {D : va_G} {cy : Nat → ClassId} {s0 : State} {ad : zA} {N : Nat → Nat} {sc : Nat → Int32} {ar : Nat → Nat → Int32} {dd : Int32}  (hI : MI N (upd sc 0 0) ar) : zM l D cy s0 yX10_pass cX10_pass 4 (some .int) 2 0 0 [.ref (ad 30 0), .int dd] ad (mW cy ad sc ar) (zPi (s_pass dd (upd sc 0 0) ar).1 ad (mW cy ad (s_pass dd (upd sc 0 0) ar).2.1 (s_pass dd (upd sc 0 0) ar).2.2)) := by
  refine zM_of (own := RX10) rfl (by decide) (by simp [Value.category]) (Nat.le_of_ble_eq_true rfl) ?_
  intro X hB
  show V X RX10 cX10_pass 4 (some .int) 0 0 ad (mW cy ad sc ar) 0 [some (.ref (ad 30 0)), some (.int dd), none, none] []
  refine v_aload_n dX10_pass_0 rfl ?_
  refine v_iconst_v (v := 0) dX10_pass_1 (by decide) ?_
  refine mp1 dX10_pass_2 ?_
  generalize upd sc 0 0 = sc at hI hB ⊢
  obtain ⟨⟨hN, b2, b3, b4, b5, b6, b7, b8, b9, b10⟩, hS, hQ, hBl, hCh, hZ⟩ := id hI
  refine v_iload_n dX10_pass_5 rfl ?_
  refine v_iconst_v (v := 1) dX10_pass_6 (by decide) ?_
  refine v_sipush_v (v := 200) dX10_pass_7 (by decide) ?_
  refine v_cSi3 hB k_X10_132 cM_in (by decide) ⟨by decide, by decide⟩ (Nat.le_of_ble_eq_true rfl) dX10_pass_10 ?_
  refine v_if_eq (tgt := 28) dX10_pass_13 (by decide) (fun h13 => ?_) (fun h13 => ?_)
  · rw [bI_eq] at h13
    refine v_aload_n dX10_pass_28 rfl ?_
    refine v_iconst_v (v := 2) dX10_pass_29 (by decide) ?_
    refine v_cVi1 hB k_X10_136 cM_refused (by decide) ⟨by decide, by decide⟩ rfl rfl (Nat.le_of_ble_eq_true rfl) dX10_pass_30 ?_
    exact v_iret hB (by decide) (by decide) dX10_pass_33 (mPost (by unfold s_pass; first | rw [if_neg (fun z => h13 z.1)] | rw [if_neg (fun z => h25 z.2)]))
  · rw [bI_ne] at h13
    refine v_aload_n dX10_pass_16 rfl ?_
    refine mg154 dX10_pass_17 ?_
    refine v_iload_n dX10_pass_20 rfl ?_
    refine v_iadd dX10_pass_21 ?_
    refine v_sipush_v (v := 3000) dX10_pass_22 (by decide) ?_
    refine v_icmp_le (tgt := 34) dX10_pass_25 (by decide) (fun h25 => ?_) (fun h25 => ?_)
    · rw [show (3000 : Int32) = nI 3000 by decide] at h25
      obtain ⟨dn, hd1, hd2, rfl⟩ := i_rg (lo := 1) (hi := 200) h13 (by decide) (by decide)
      have h25b : N 8 + dn ≤ 3000 := by
        have z := h25
        rw [hN 8 (by decide) (by decide), nI_add] at z
        exact (nI_leI (by omega) (by decide)).mp z
      have inner : ∀ (m : Nat) (f : Nat) (sc1 : Nat → Int32) (ar1 : Nat → Nat → Int32) (k t : Nat), N 2 < f + m → f ≤ N 2 → sc1 2 = nI (N 2) → sc1 8 = nI t → t ≤ 3000 → (¬ t % 60 = 0 → f = 0) → (∀ z, V X RX10 cX10_pass 4 (some .int) 0 0 ad (mW cy ad sc1 (if t % 60 = 0 then begY (N 2) ar1 else ar1)) 106 [some (.ref (ad 30 0)), some (.int (nI dn)), some (.int (nI k)), z] []) → V X RX10 cX10_pass 4 (some .int) 0 0 ad (mW cy ad sc1 (begY f ar1)) 53 [some (.ref (ad 30 0)), some (.int (nI dn)), some (.int (nI k)), some (.int (nI f))] [] := by
        intro m
        induction m with
        | zero => intro f sc1 ar1 k t h1 h2 e2 e8 ht hf0 ko; omega
        | succ m ih =>
          intro f sc1 ar1 k t h1 h2 e2 e8 ht hf0 ko
          refine v_iload_n dX10_pass_53 rfl ?_
          refine v_aload_n dX10_pass_54 rfl ?_
          refine mg123 dX10_pass_55 ?_
          refine v_icmp_ge (tgt := 106) dX10_pass_58 (by decide) (fun h58 => ?_) (fun h58 => ?_)
          · rw [e2, nI_leI (by omega) (by omega)] at h58
            have ko := ko (some (.int (nI f)))
            have ew : (if t % 60 = 0 then begY (N 2) ar1 else ar1) = begY f ar1 := by
              by_cases h9 : t % 60 = 0
              · rw [if_pos h9]; first | (rw [show f = N 2 by omega]; done) | exact absurd h9 h68
              · rw [if_neg h9, hf0 h9, begY_0]
            rw [ew] at ko; exact ko
          · rw [e2, nI_leI (by omega) (by omega)] at h58
            refine v_aload_n dX10_pass_61 rfl ?_
            refine mg154 dX10_pass_62 ?_
            refine v_bipush_v (v := 60) dX10_pass_65 (by decide) ?_
            refine v_irem dX10_pass_67 (by decide) ?_
            refine v_if_ne (tgt := 106) dX10_pass_68 (by decide) (fun h68 => ?_) (fun h68 => ?_)
            · have h68 : ¬ t % 60 = 0 := fun z => h68 (by rw [e8, show (60 : Int32) = nI 60 by decide, pk_rem (by omega) (by decide) (by decide), z]; decide)
              have ko := ko (some (.int (nI f)))
              have ew : (if t % 60 = 0 then begY (N 2) ar1 else ar1) = begY f ar1 := by
                by_cases h9 : t % 60 = 0
                · rw [if_pos h9]; first | (rw [show f = N 2 by omega]; done) | exact absurd h9 h68
                · rw [if_neg h9, hf0 h9, begY_0]
              rw [ew] at ko; exact ko
            · have h68 : t % 60 = 0 := by rw [e8, show (60 : Int32) = nI 60 by decide, pk_rem (by omega) (by decide) (by decide), show (0 : Int32) = nI 0 by decide, nI_eq (by omega) (by decide)] at h68; exact h68
              refine v_aload_n dX10_pass_71 rfl ?_
              refine mg29 dX10_pass_72 ?_
              refine v_iload_n dX10_pass_75 rfl ?_
              refine v_dup2 dX10_pass_76 rfl rfl ?_
              refine m_ldN 13 (L := 8) hB.cy ⟨rfl, rfl, rfl⟩ rfl (by omega) (by decide) dX10_pass_77 ?_
              refine v_aload_n dX10_pass_78 rfl ?_
              refine mg22 dX10_pass_79 ?_
              refine v_iload_n dX10_pass_82 rfl ?_
              refine m_ldN 11 (L := 8) hB.cy ⟨rfl, rfl, rfl⟩ rfl (by omega) (by decide) dX10_pass_83 ?_
              refine v_aload_n dX10_pass_84 rfl ?_
              refine mg26 dX10_pass_85 ?_
              refine v_iload_n dX10_pass_88 rfl ?_
              refine m_ldN 12 (L := 8) hB.cy ⟨rfl, rfl, rfl⟩ rfl (by omega) (by decide) dX10_pass_89 ?_
              refine v_isub dX10_pass_90 ?_
              refine v_iadd dX10_pass_91 ?_
              refine m_stN 13 (L := 8) hB.cy ⟨rfl, rfl, rfl⟩ rfl (by omega) (by decide) dX10_pass_92 ?_
              refine v_aload_n dX10_pass_93 rfl ?_
              refine mg26 dX10_pass_94 ?_
              refine v_iload_n dX10_pass_97 rfl ?_
              refine v_iconst_v (v := 0) dX10_pass_98 (by decide) ?_
              refine m_stN 12 (L := 8) hB.cy ⟨rfl, rfl, rfl⟩ rfl (by omega) (by decide) dX10_pass_99 ?_
              refine v_w (congrArg (mW cy ad sc1) (begY_s ar1 f)) ?_
              refine v_iinc3 (v := 1) dX10_pass_100 (by decide) (by decide) ?_
              rw [nI_1]
              refine v_goto (tgt := 53) dX10_pass_103 (by decide) ?_
              exact ih (f + 1) sc1 ar1 k t (by omega) (by omega) e2 e8 ht (fun z => absurd h68 z) ko
      have outer : ∀ (m : Nat) (k : Nat) (z : Option Value), dn < k + m → k ≤ dn → V X RX10 cX10_pass 4 (some .int) 0 0 ad (mW cy ad (upd sc 8 (nI (N 8 + k))) (itY (N 2) ((N 8 + k) / 60 - N 8 / 60) ar)) 36 [some (.ref (ad 30 0)), some (.int (nI dn)), some (.int (nI k)), z] [] := by
        intro m
        induction m with
        | zero => intro k z h1 h2; omega
        | succ m ih =>
          intro k z h1 h2
          refine v_iload_n dX10_pass_36 rfl ?_
          refine v_iload_n dX10_pass_37 rfl ?_
          refine v_icmp_ge (tgt := 112) dX10_pass_38 (by decide) (fun h38 => ?_) (fun h38 => ?_)
          · rw [nI_leI (by omega) (by omega)] at h38
            refine v_aload_n dX10_pass_112 rfl ?_
            refine v_aload_n dX10_pass_113 rfl ?_
            refine mg154 dX10_pass_114 ?_
            refine v_cVi1 hB k_X10_140 cM_done (by decide) ⟨by decide, by decide⟩ rfl rfl (Nat.le_of_ble_eq_true rfl) dX10_pass_117 ?_
            exact v_iret hB (by decide) (by decide) dX10_pass_120 (mPost (by
              have hk : k = dn := by omega
              subst hk
              unfold s_pass
              rw [if_pos ⟨h13, h25⟩, hN 8 (by decide) (by decide), hN 2 (by decide) (by decide), nI_add, cl_nI (by omega), cl_nI (by omega), cl_nI (by omega)]
              rfl))
          · rw [nI_leI (by omega) (by omega)] at h38
            refine v_aload_n dX10_pass_41 rfl ?_
            refine v_dup dX10_pass_42 rfl ?_
            refine mg154 dX10_pass_43 ?_
            refine v_iconst_v (v := 1) dX10_pass_46 (by decide) ?_
            refine v_iadd dX10_pass_47 ?_
            refine v_eq (show upd sc 8 (nI (N 8 + k)) 8 + 1 = nI (N 8 + (k + 1)) from nI_add (N 8 + k) 1) ?_
            refine mp154 dX10_pass_48 ?_
            rw [upd_uu]
            refine v_iconst_v (v := 0) dX10_pass_51 (by decide) ?_
            refine v_istore_n3 dX10_pass_52 (by decide) ?_
            refine v_w (congrArg (mW cy ad _) (begY_0 _).symm) ?_
            refine inner (N 2 + 1) 0 _ _ k (N 8 + (k + 1)) (by omega) (by omega) (hN 2 (by decide) (by decide)) rfl (by omega) (fun _ => rfl) (fun z => ?_)
            refine v_iinc2 (v := 1) dX10_pass_106 (by decide) (by decide) ?_
            rw [nI_1]
            refine v_goto (tgt := 36) dX10_pass_109 (by decide) ?_
            have e := ih (k + 1) z (by omega) (by omega)
            rw [show itY (N 2) ((N 8 + (k + 1)) / 60 - N 8 / 60) ar = (if (N 8 + (k + 1)) % 60 = 0 then begY (N 2) (itY (N 2) ((N 8 + k) / 60 - N 8 / 60) ar) else itY (N 2) ((N 8 + k) / 60 - N 8 / 60) ar) from by
              by_cases hz : (N 8 + (k + 1)) % 60 = 0
              · rw [if_pos hz, show (N 8 + (k + 1)) / 60 - N 8 / 60 = ((N 8 + k) / 60 - N 8 / 60) + 1 by omega]; rfl
              · rw [if_neg hz, show (N 8 + (k + 1)) / 60 - N 8 / 60 = (N 8 + k) / 60 - N 8 / 60 by omega]] at e
            exact e
      refine v_iconst_v (v := 0) dX10_pass_34 (by decide) ?_
      refine v_istore_n2 dX10_pass_35 (by decide) ?_
      have e := outer (dn + 1) 0 none (by omega) (by omega)
      rw [Nat.add_zero, Nat.sub_self, upd_id (hN 8 (by decide) (by decide))] at e
      exact e
    · refine v_aload_n dX10_pass_28 rfl ?_
      refine v_iconst_v (v := 2) dX10_pass_29 (by decide) ?_
      refine v_cVi1 hB k_X10_136 cM_refused (by decide) ⟨by decide, by decide⟩ rfl rfl (Nat.le_of_ble_eq_true rfl) dX10_pass_30 ?_
      exact v_iret hB (by decide) (by decide) dX10_pass_33 (mPost (by unfold s_pass; first | rw [if_neg (fun z => h13 z.1)] | rw [if_neg (fun z => h25 z.2)]))

